section
-- ===== PART A: goes FIRST, ahead of the names: the tables' words, and 'selects' of the private methods out of them =====
/-- a private method of a class that the tables say can be made, by its rows of tables_1 -/
def lw_okq (q : MethodName × Nat) : Prop := (q.1.cls ≠ "java/lang/invoke/MethodHandle" ∧ q.1.cls ≠ "java/lang/invoke/VarHandle") ∧ Cond.instantiable q.1.cls q.2 ∈ tables_1 ∧ Cond.privateMethod q.1 ∈ tables_1 ∧ Cond.instanceMethod q.1 ∈ tables_1
theorem lw_p0 : lw_okq (⟨"PluckBroker$Text", "upcoming", "()I"⟩, 3) := ⟨⟨by decide +kernel, by decide +kernel⟩, List.mem_of_getElem? (i := 18) (by decide +kernel), List.mem_of_getElem? (i := 192) (by decide +kernel), List.mem_of_getElem? (i := 193) (by decide +kernel)⟩
theorem lw_p1 : lw_okq (⟨"PluckBroker$Text", "figure", "(II)I"⟩, 3) := ⟨⟨by decide +kernel, by decide +kernel⟩, List.mem_of_getElem? (i := 18) (by decide +kernel), List.mem_of_getElem? (i := 199) (by decide +kernel), List.mem_of_getElem? (i := 200) (by decide +kernel)⟩
theorem lw_p2 : lw_okq (⟨"PluckBroker$Text", "readThing", "(LPluckBroker$Plan;)Z"⟩, 3) := ⟨⟨by decide +kernel, by decide +kernel⟩, List.mem_of_getElem? (i := 18) (by decide +kernel), List.mem_of_getElem? (i := 203) (by decide +kernel), List.mem_of_getElem? (i := 204) (by decide +kernel)⟩
theorem lw_p3 : lw_okq (⟨"PluckBroker$Text", "readPerson", "(LPluckBroker$Plan;)Z"⟩, 3) := ⟨⟨by decide +kernel, by decide +kernel⟩, List.mem_of_getElem? (i := 18) (by decide +kernel), List.mem_of_getElem? (i := 207) (by decide +kernel), List.mem_of_getElem? (i := 208) (by decide +kernel)⟩
theorem lw_p4 : lw_okq (⟨"PluckBroker$Text", "readQuality", "(LPluckBroker$Plan;)Z"⟩, 3) := ⟨⟨by decide +kernel, by decide +kernel⟩, List.mem_of_getElem? (i := 18) (by decide +kernel), List.mem_of_getElem? (i := 216) (by decide +kernel), List.mem_of_getElem? (i := 217) (by decide +kernel)⟩
theorem lw_p5 : lw_okq (⟨"PluckBroker$Text", "readDeed", "(LPluckBroker$Plan;)Z"⟩, 3) := ⟨⟨by decide +kernel, by decide +kernel⟩, List.mem_of_getElem? (i := 18) (by decide +kernel), List.mem_of_getElem? (i := 224) (by decide +kernel), List.mem_of_getElem? (i := 225) (by decide +kernel)⟩
theorem lw_p6 : lw_okq (⟨"PluckBroker$State", "tryDeed", "(I)Z"⟩, 2) := ⟨⟨by decide +kernel, by decide +kernel⟩, List.mem_of_getElem? (i := 87) (by decide +kernel), List.mem_of_getElem? (i := 375) (by decide +kernel), List.mem_of_getElem? (i := 376) (by decide +kernel)⟩
theorem lw_p7 : lw_okq (⟨"PluckBroker$State", "pay", "(II)V"⟩, 2) := ⟨⟨by decide +kernel, by decide +kernel⟩, List.mem_of_getElem? (i := 87) (by decide +kernel), List.mem_of_getElem? (i := 382) (by decide +kernel), List.mem_of_getElem? (i := 383) (by decide +kernel)⟩
theorem lw_p8 : lw_okq (⟨"PluckBroker$State", "sellOverdue", "()V"⟩, 2) := ⟨⟨by decide +kernel, by decide +kernel⟩, List.mem_of_getElem? (i := 87) (by decide +kernel), List.mem_of_getElem? (i := 386) (by decide +kernel), List.mem_of_getElem? (i := 387) (by decide +kernel)⟩
theorem lw_p9 : lw_okq (⟨"PluckBroker", "lookAhead", "(I)V"⟩, 10) := ⟨⟨by decide +kernel, by decide +kernel⟩, List.mem_of_getElem? (i := 10) (by decide +kernel), List.mem_of_getElem? (i := 448) (by decide +kernel), List.mem_of_getElem? (i := 449) (by decide +kernel)⟩
theorem lw_p10 : lw_okq (⟨"PluckBroker", "deedsIfPledged", "(III)I"⟩, 10) := ⟨⟨by decide +kernel, by decide +kernel⟩, List.mem_of_getElem? (i := 10) (by decide +kernel), List.mem_of_getElem? (i := 472) (by decide +kernel), List.mem_of_getElem? (i := 473) (by decide +kernel)⟩
theorem lw_p11 : lw_okq (⟨"PluckBroker", "gain", "(IIII)I"⟩, 10) := ⟨⟨by decide +kernel, by decide +kernel⟩, List.mem_of_getElem? (i := 10) (by decide +kernel), List.mem_of_getElem? (i := 543) (by decide +kernel), List.mem_of_getElem? (i := 544) (by decide +kernel)⟩
theorem lw_p12 : lw_okq (⟨"PluckBroker", "deedsIfSold", "(I)I"⟩, 10) := ⟨⟨by decide +kernel, by decide +kernel⟩, List.mem_of_getElem? (i := 10) (by decide +kernel), List.mem_of_getElem? (i := 558) (by decide +kernel), List.mem_of_getElem? (i := 559) (by decide +kernel)⟩
theorem lw_p13 : lw_okq (⟨"PluckBrokerModel", "readShop", "()I"⟩, 38) := ⟨⟨by decide +kernel, by decide +kernel⟩, List.mem_of_getElem? (i := 595) (by decide +kernel), List.mem_of_getElem? (i := 733) (by decide +kernel), List.mem_of_getElem? (i := 734) (by decide +kernel)⟩
theorem lw_p14 : lw_okq (⟨"PluckBrokerModel", "figure", "(II)I"⟩, 38) := ⟨⟨by decide +kernel, by decide +kernel⟩, List.mem_of_getElem? (i := 595) (by decide +kernel), List.mem_of_getElem? (i := 737) (by decide +kernel), List.mem_of_getElem? (i := 738) (by decide +kernel)⟩
theorem lw_p15 : lw_okq (⟨"PluckBrokerModel", "readThing", "()Z"⟩, 38) := ⟨⟨by decide +kernel, by decide +kernel⟩, List.mem_of_getElem? (i := 595) (by decide +kernel), List.mem_of_getElem? (i := 741) (by decide +kernel), List.mem_of_getElem? (i := 742) (by decide +kernel)⟩
def lw_privs_1 : List (MethodName × Nat) := [(⟨"PluckBroker$Text", "upcoming", "()I"⟩, 3), (⟨"PluckBroker$Text", "figure", "(II)I"⟩, 3), (⟨"PluckBroker$Text", "readThing", "(LPluckBroker$Plan;)Z"⟩, 3), (⟨"PluckBroker$Text", "readPerson", "(LPluckBroker$Plan;)Z"⟩, 3), (⟨"PluckBroker$Text", "readQuality", "(LPluckBroker$Plan;)Z"⟩, 3), (⟨"PluckBroker$Text", "readDeed", "(LPluckBroker$Plan;)Z"⟩, 3), (⟨"PluckBroker$State", "tryDeed", "(I)Z"⟩, 2), (⟨"PluckBroker$State", "pay", "(II)V"⟩, 2), (⟨"PluckBroker$State", "sellOverdue", "()V"⟩, 2), (⟨"PluckBroker", "lookAhead", "(I)V"⟩, 10), (⟨"PluckBroker", "deedsIfPledged", "(III)I"⟩, 10), (⟨"PluckBroker", "gain", "(IIII)I"⟩, 10), (⟨"PluckBroker", "deedsIfSold", "(I)I"⟩, 10), (⟨"PluckBrokerModel", "readShop", "()I"⟩, 38), (⟨"PluckBrokerModel", "figure", "(II)I"⟩, 38), (⟨"PluckBrokerModel", "readThing", "()Z"⟩, 38)]
theorem lw_r1 : ∀ q ∈ lw_privs_1, lw_okq q := List.forall_mem_cons.mpr ⟨lw_p0, List.forall_mem_cons.mpr ⟨lw_p1, List.forall_mem_cons.mpr ⟨lw_p2, List.forall_mem_cons.mpr ⟨lw_p3, List.forall_mem_cons.mpr ⟨lw_p4, List.forall_mem_cons.mpr ⟨lw_p5, List.forall_mem_cons.mpr ⟨lw_p6, List.forall_mem_cons.mpr ⟨lw_p7, List.forall_mem_cons.mpr ⟨lw_p8, List.forall_mem_cons.mpr ⟨lw_p9, List.forall_mem_cons.mpr ⟨lw_p10, List.forall_mem_cons.mpr ⟨lw_p11, List.forall_mem_cons.mpr ⟨lw_p12, List.forall_mem_cons.mpr ⟨lw_p13, List.forall_mem_cons.mpr ⟨lw_p14, List.forall_mem_cons.mpr ⟨lw_p15, fun _ h => absurd h List.not_mem_nil⟩⟩⟩⟩⟩⟩⟩⟩⟩⟩⟩⟩⟩⟩⟩⟩
theorem lw_p16 : lw_okq (⟨"PluckBrokerModel", "readOnePerson", "()Z"⟩, 38) := ⟨⟨by decide +kernel, by decide +kernel⟩, List.mem_of_getElem? (i := 595) (by decide +kernel), List.mem_of_getElem? (i := 745) (by decide +kernel), List.mem_of_getElem? (i := 746) (by decide +kernel)⟩
theorem lw_p17 : lw_okq (⟨"PluckBrokerModel", "readOneQuality", "()Z"⟩, 38) := ⟨⟨by decide +kernel, by decide +kernel⟩, List.mem_of_getElem? (i := 595) (by decide +kernel), List.mem_of_getElem? (i := 749) (by decide +kernel), List.mem_of_getElem? (i := 750) (by decide +kernel)⟩
theorem lw_p18 : lw_okq (⟨"PluckBrokerModel", "readOneDeed", "()Z"⟩, 38) := ⟨⟨by decide +kernel, by decide +kernel⟩, List.mem_of_getElem? (i := 595) (by decide +kernel), List.mem_of_getElem? (i := 753) (by decide +kernel), List.mem_of_getElem? (i := 754) (by decide +kernel)⟩
theorem lw_p19 : lw_okq (⟨"PluckBrokerModel", "thatAre", "([II)I"⟩, 38) := ⟨⟨by decide +kernel, by decide +kernel⟩, List.mem_of_getElem? (i := 595) (by decide +kernel), List.mem_of_getElem? (i := 765) (by decide +kernel), List.mem_of_getElem? (i := 766) (by decide +kernel)⟩
theorem lw_p20 : lw_okq (⟨"PluckBrokerModel", "deedsThat", "([II)I"⟩, 38) := ⟨⟨by decide +kernel, by decide +kernel⟩, List.mem_of_getElem? (i := 595) (by decide +kernel), List.mem_of_getElem? (i := 769) (by decide +kernel), List.mem_of_getElem? (i := 770) (by decide +kernel)⟩
theorem lw_p21 : lw_okq (⟨"PluckBrokerModel", "noPerson", "(I)Z"⟩, 38) := ⟨⟨by decide +kernel, by decide +kernel⟩, List.mem_of_getElem? (i := 595) (by decide +kernel), List.mem_of_getElem? (i := 777) (by decide +kernel), List.mem_of_getElem? (i := 778) (by decide +kernel)⟩
theorem lw_p22 : lw_okq (⟨"PluckBrokerModel", "ownOf", "(I)I"⟩, 38) := ⟨⟨by decide +kernel, by decide +kernel⟩, List.mem_of_getElem? (i := 595) (by decide +kernel), List.mem_of_getElem? (i := 781) (by decide +kernel), List.mem_of_getElem? (i := 782) (by decide +kernel)⟩
theorem lw_p23 : lw_okq (⟨"PluckBrokerModel", "deedsOf", "(I)I"⟩, 38) := ⟨⟨by decide +kernel, by decide +kernel⟩, List.mem_of_getElem? (i := 595) (by decide +kernel), List.mem_of_getElem? (i := 785) (by decide +kernel), List.mem_of_getElem? (i := 786) (by decide +kernel)⟩
theorem lw_p24 : lw_okq (⟨"PluckBrokerModel", "noQuality", "(I)Z"⟩, 38) := ⟨⟨by decide +kernel, by decide +kernel⟩, List.mem_of_getElem? (i := 595) (by decide +kernel), List.mem_of_getElem? (i := 793) (by decide +kernel), List.mem_of_getElem? (i := 794) (by decide +kernel)⟩
theorem lw_p25 : lw_okq (⟨"PluckBrokerModel", "dueOf", "([II)I"⟩, 38) := ⟨⟨by decide +kernel, by decide +kernel⟩, List.mem_of_getElem? (i := 595) (by decide +kernel), List.mem_of_getElem? (i := 797) (by decide +kernel), List.mem_of_getElem? (i := 798) (by decide +kernel)⟩
theorem lw_p26 : lw_okq (⟨"PluckBrokerModel", "noDeed", "(I)Z"⟩, 38) := ⟨⟨by decide +kernel, by decide +kernel⟩, List.mem_of_getElem? (i := 595) (by decide +kernel), List.mem_of_getElem? (i := 808) (by decide +kernel), List.mem_of_getElem? (i := 809) (by decide +kernel)⟩
theorem lw_p27 : lw_okq (⟨"PluckBrokerModel", "note", "()V"⟩, 38) := ⟨⟨by decide +kernel, by decide +kernel⟩, List.mem_of_getElem? (i := 595) (by decide +kernel), List.mem_of_getElem? (i := 816) (by decide +kernel), List.mem_of_getElem? (i := 817) (by decide +kernel)⟩
theorem lw_p28 : lw_okq (⟨"PluckBrokerModel", "goDay", "([I)I"⟩, 38) := ⟨⟨by decide +kernel, by decide +kernel⟩, List.mem_of_getElem? (i := 595) (by decide +kernel), List.mem_of_getElem? (i := 820) (by decide +kernel), List.mem_of_getElem? (i := 821) (by decide +kernel)⟩
theorem lw_p29 : lw_okq (⟨"PluckBrokerModel", "canPledge", "([II)Z"⟩, 38) := ⟨⟨by decide +kernel, by decide +kernel⟩, List.mem_of_getElem? (i := 595) (by decide +kernel), List.mem_of_getElem? (i := 828) (by decide +kernel), List.mem_of_getElem? (i := 829) (by decide +kernel)⟩
theorem lw_p30 : lw_okq (⟨"PluckBrokerModel", "goPledge", "([II)V"⟩, 38) := ⟨⟨by decide +kernel, by decide +kernel⟩, List.mem_of_getElem? (i := 595) (by decide +kernel), List.mem_of_getElem? (i := 832) (by decide +kernel), List.mem_of_getElem? (i := 833) (by decide +kernel)⟩
theorem lw_p31 : lw_okq (⟨"PluckBrokerModel", "canRedeem", "([II)Z"⟩, 38) := ⟨⟨by decide +kernel, by decide +kernel⟩, List.mem_of_getElem? (i := 595) (by decide +kernel), List.mem_of_getElem? (i := 840) (by decide +kernel), List.mem_of_getElem? (i := 841) (by decide +kernel)⟩
def lw_privs_2 : List (MethodName × Nat) := [(⟨"PluckBrokerModel", "readOnePerson", "()Z"⟩, 38), (⟨"PluckBrokerModel", "readOneQuality", "()Z"⟩, 38), (⟨"PluckBrokerModel", "readOneDeed", "()Z"⟩, 38), (⟨"PluckBrokerModel", "thatAre", "([II)I"⟩, 38), (⟨"PluckBrokerModel", "deedsThat", "([II)I"⟩, 38), (⟨"PluckBrokerModel", "noPerson", "(I)Z"⟩, 38), (⟨"PluckBrokerModel", "ownOf", "(I)I"⟩, 38), (⟨"PluckBrokerModel", "deedsOf", "(I)I"⟩, 38), (⟨"PluckBrokerModel", "noQuality", "(I)Z"⟩, 38), (⟨"PluckBrokerModel", "dueOf", "([II)I"⟩, 38), (⟨"PluckBrokerModel", "noDeed", "(I)Z"⟩, 38), (⟨"PluckBrokerModel", "note", "()V"⟩, 38), (⟨"PluckBrokerModel", "goDay", "([I)I"⟩, 38), (⟨"PluckBrokerModel", "canPledge", "([II)Z"⟩, 38), (⟨"PluckBrokerModel", "goPledge", "([II)V"⟩, 38), (⟨"PluckBrokerModel", "canRedeem", "([II)Z"⟩, 38)]
theorem lw_r2 : ∀ q ∈ lw_privs_2, lw_okq q := List.forall_mem_cons.mpr ⟨lw_p16, List.forall_mem_cons.mpr ⟨lw_p17, List.forall_mem_cons.mpr ⟨lw_p18, List.forall_mem_cons.mpr ⟨lw_p19, List.forall_mem_cons.mpr ⟨lw_p20, List.forall_mem_cons.mpr ⟨lw_p21, List.forall_mem_cons.mpr ⟨lw_p22, List.forall_mem_cons.mpr ⟨lw_p23, List.forall_mem_cons.mpr ⟨lw_p24, List.forall_mem_cons.mpr ⟨lw_p25, List.forall_mem_cons.mpr ⟨lw_p26, List.forall_mem_cons.mpr ⟨lw_p27, List.forall_mem_cons.mpr ⟨lw_p28, List.forall_mem_cons.mpr ⟨lw_p29, List.forall_mem_cons.mpr ⟨lw_p30, List.forall_mem_cons.mpr ⟨lw_p31, fun _ h => absurd h List.not_mem_nil⟩⟩⟩⟩⟩⟩⟩⟩⟩⟩⟩⟩⟩⟩⟩⟩
theorem lw_p32 : lw_okq (⟨"PluckBrokerModel", "goRedeem", "([II)V"⟩, 38) := ⟨⟨by decide +kernel, by decide +kernel⟩, List.mem_of_getElem? (i := 595) (by decide +kernel), List.mem_of_getElem? (i := 844) (by decide +kernel), List.mem_of_getElem? (i := 845) (by decide +kernel)⟩
theorem lw_p33 : lw_okq (⟨"PluckBrokerModel", "begin", "()V"⟩, 38) := ⟨⟨by decide +kernel, by decide +kernel⟩, List.mem_of_getElem? (i := 595) (by decide +kernel), List.mem_of_getElem? (i := 862) (by decide +kernel), List.mem_of_getElem? (i := 863) (by decide +kernel)⟩
theorem lw_p34 : lw_okq (⟨"PluckBrokerModel", "goDays", "(I)V"⟩, 38) := ⟨⟨by decide +kernel, by decide +kernel⟩, List.mem_of_getElem? (i := 595) (by decide +kernel), List.mem_of_getElem? (i := 866) (by decide +kernel), List.mem_of_getElem? (i := 867) (by decide +kernel)⟩
theorem lw_p35 : lw_okq (⟨"PluckBrokerModel", "worthOf", "(I)I"⟩, 38) := ⟨⟨by decide +kernel, by decide +kernel⟩, List.mem_of_getElem? (i := 595) (by decide +kernel), List.mem_of_getElem? (i := 883) (by decide +kernel), List.mem_of_getElem? (i := 884) (by decide +kernel)⟩
theorem lw_p36 : lw_okq (⟨"PluckBrokerModel", "doneBy", "(II)I"⟩, 38) := ⟨⟨by decide +kernel, by decide +kernel⟩, List.mem_of_getElem? (i := 595) (by decide +kernel), List.mem_of_getElem? (i := 890) (by decide +kernel), List.mem_of_getElem? (i := 891) (by decide +kernel)⟩
theorem lw_p37 : lw_okq (⟨"PluckBrokerModel", "does", "(I)Z"⟩, 38) := ⟨⟨by decide +kernel, by decide +kernel⟩, List.mem_of_getElem? (i := 595) (by decide +kernel), List.mem_of_getElem? (i := 910) (by decide +kernel), List.mem_of_getElem? (i := 911) (by decide +kernel)⟩
theorem lw_p38 : lw_okq (⟨"PluckBrokerModel", "doesTo", "(II)Z"⟩, 38) := ⟨⟨by decide +kernel, by decide +kernel⟩, List.mem_of_getElem? (i := 595) (by decide +kernel), List.mem_of_getElem? (i := 914) (by decide +kernel), List.mem_of_getElem? (i := 915) (by decide +kernel)⟩
theorem lw_p39 : lw_okq (⟨"PluckBrokerModel", "goBest", "(I)V"⟩, 38) := ⟨⟨by decide +kernel, by decide +kernel⟩, List.mem_of_getElem? (i := 595) (by decide +kernel), List.mem_of_getElem? (i := 949) (by decide +kernel), List.mem_of_getElem? (i := 950) (by decide +kernel)⟩
def lw_privs_3 : List (MethodName × Nat) := [(⟨"PluckBrokerModel", "goRedeem", "([II)V"⟩, 38), (⟨"PluckBrokerModel", "begin", "()V"⟩, 38), (⟨"PluckBrokerModel", "goDays", "(I)V"⟩, 38), (⟨"PluckBrokerModel", "worthOf", "(I)I"⟩, 38), (⟨"PluckBrokerModel", "doneBy", "(II)I"⟩, 38), (⟨"PluckBrokerModel", "does", "(I)Z"⟩, 38), (⟨"PluckBrokerModel", "doesTo", "(II)Z"⟩, 38), (⟨"PluckBrokerModel", "goBest", "(I)V"⟩, 38)]
theorem lw_r3 : ∀ q ∈ lw_privs_3, lw_okq q := List.forall_mem_cons.mpr ⟨lw_p32, List.forall_mem_cons.mpr ⟨lw_p33, List.forall_mem_cons.mpr ⟨lw_p34, List.forall_mem_cons.mpr ⟨lw_p35, List.forall_mem_cons.mpr ⟨lw_p36, List.forall_mem_cons.mpr ⟨lw_p37, List.forall_mem_cons.mpr ⟨lw_p38, List.forall_mem_cons.mpr ⟨lw_p39, fun _ h => absurd h List.not_mem_nil⟩⟩⟩⟩⟩⟩⟩⟩
def lw_privs : List (MethodName × Nat) := lw_privs_1 ++ (lw_privs_2 ++ (lw_privs_3))
def lw_tbl : List Cond := k2_sels lw_privs ++ tables_1
theorem lw_privs_ok : ∀ q ∈ lw_privs, lw_okq q := by
  show ∀ q ∈ lw_privs_1 ++ (lw_privs_2 ++ (lw_privs_3)), lw_okq q
  exact List.forall_mem_append.mpr ⟨lw_r1, List.forall_mem_append.mpr ⟨lw_r2, lw_r3⟩⟩
end
section
/-! ===== BEGIN words of one list among another's, by their places ===== -/
theorem goodIn_r {big : List Cond} (ws : List Cond) (ps : List Nat) (hp : ws = ps.filterMap (fun i => big[i]?)) (h : ws.all goodWord = true) : GoodIn big ws := by
  intro w hw
  have h1 := List.all_eq_true.mp h w hw
  rw [hp] at hw
  obtain ⟨i, -, hi⟩ := List.mem_filterMap.mp hw
  have hm : w ∈ big := by first | exact List.mem_of_getElem? hi | exact List.getElem?_mem hi
  exact ⟨hm, good_of_word h1⟩
theorem goodIn_app {big a b : List Cond} (ha : GoodIn big a) (hb : GoodIn big b) : GoodIn big (a ++ b) := fun w h => (List.mem_append.mp h).elim (ha w) (hb w)
theorem goodIn_ca {big a b : List Cond} {c : Cond} (ha : GoodIn big (c :: a)) (hb : GoodIn big b) : GoodIn big (c :: (a ++ b)) := fun w h => (List.mem_cons.mp h).elim (fun e => ha w (List.mem_cons.mpr (Or.inl e))) (fun h => (List.mem_append.mp h).elim (fun h => ha w (List.mem_cons.mpr (Or.inr h))) (hb w))
theorem goodIn_sub {big ws : List Cond} (hm : ∀ w ∈ ws, w ∈ big) (h : ws.all goodWord = true) : GoodIn big ws := fun w hw => ⟨hm w hw, good_of_word (List.all_eq_true.mp h w hw)⟩
/-! ===== END ===== -/

/-! ===== BEGIN printed: names, fields, word lists, decode rows ===== -/
def RX0 : String := "PluckBroker$Acts"
def TX0 : u_T := fun k => match k with
  | 0 => ("PluckBroker$Acts", "states", "[I", true)
  | 1 => ("PluckBroker$Acts", "upcoming", "I", false)
  | _ => ("PluckBroker$Acts", "count", "I", false)
def tyX0 : Nat → FieldType := fun k => match k with
  | 0 => .array .int
  | 1 => .int
  | _ => .int
abbrev wsX00 : List Cond := u_ws RX0 TX0 3
theorem nmX0 : ∀ a, a < 3 → ∀ b, b < 3 → a ≠ b → (TX0 a).2.1 ≠ (TX0 b).2.1 := by decide +kernel
theorem tyX0_ok : ∀ k, k < 3 → parseFieldDescriptor (TX0 k).2.2.1 = some (tyX0 k) := by decide +kernel
abbrev cX0_init : ByteArray := prog_2_method_1_code
def yX0_init : MethodName := ⟨RX0, "<init>", "()V"⟩
abbrev cX0_remember : ByteArray := prog_2_method_2_code
def yX0_remember : MethodName := ⟨RX0, "remember", "(LPluckBroker$State;)V"⟩
abbrev cX0_takeBack : ByteArray := prog_2_method_3_code
def yX0_takeBack : MethodName := ⟨RX0, "takeBack", "(LPluckBroker$State;)V"⟩
abbrev cX0_forget : ByteArray := prog_2_method_4_code
def yX0_forget : MethodName := ⟨RX0, "forget", "()V"⟩
def RX1 : String := "PluckBroker$Asked"
def TX1 : u_T := fun k => match k with
  | 0 => ("PluckBroker$Asked", "days", "[I", true)
  | 1 => ("PluckBroker$Asked", "dues", "[I", true)
  | _ => ("PluckBroker$Asked", "count", "I", false)
def tyX1 : Nat → FieldType := fun k => match k with
  | 0 => .array .int
  | 1 => .array .int
  | _ => .int
abbrev wsX10 : List Cond := u_ws RX1 TX1 3
theorem nmX1 : ∀ a, a < 3 → ∀ b, b < 3 → a ≠ b → (TX1 a).2.1 ≠ (TX1 b).2.1 := by decide +kernel
theorem tyX1_ok : ∀ k, k < 3 → parseFieldDescriptor (TX1 k).2.2.1 = some (tyX1 k) := by decide +kernel
abbrev cX1_init : ByteArray := prog_3_method_1_code
def yX1_init : MethodName := ⟨RX1, "<init>", "()V"⟩
abbrev cX1_add : ByteArray := prog_3_method_2_code
def yX1_add : MethodName := ⟨RX1, "add", "(II)V"⟩
abbrev cX1_fits : ByteArray := prog_3_method_3_code
def yX1_fits : MethodName := ⟨RX1, "fits", "(II)Z"⟩
def RX2 : String := "PluckBroker$Plan"
def TX2 : u_T := fun k => match k with
  | 0 => ("PluckBroker$Plan", "purses", "[I", true)
  | 1 => ("PluckBroker$Plan", "owners", "[I", true)
  | 2 => ("PluckBroker$Plan", "worths", "[I", true)
  | 3 => ("PluckBroker$Plan", "kinds", "[I", true)
  | 4 => ("PluckBroker$Plan", "wanted", "[I", true)
  | 5 => ("PluckBroker$Plan", "onDays", "[I", true)
  | 6 => ("PluckBroker$Plan", "rewards", "[I", true)
  | 7 => ("PluckBroker$Plan", "tillFigure", "I", false)
  | 8 => ("PluckBroker$Plan", "persons", "I", false)
  | 9 => ("PluckBroker$Plan", "qualities", "I", false)
  | _ => ("PluckBroker$Plan", "deeds", "I", false)
def tyX2 : Nat → FieldType := fun k => match k with
  | 0 => .array .int
  | 1 => .array .int
  | 2 => .array .int
  | 3 => .array .int
  | 4 => .array .int
  | 5 => .array .int
  | 6 => .array .int
  | 7 => .int
  | 8 => .int
  | 9 => .int
  | _ => .int
abbrev wsX20 : List Cond := u_ws RX2 TX2 11
theorem nmX2 : ∀ a, a < 11 → ∀ b, b < 11 → a ≠ b → (TX2 a).2.1 ≠ (TX2 b).2.1 := by decide +kernel
theorem tyX2_ok : ∀ k, k < 11 → parseFieldDescriptor (TX2 k).2.2.1 = some (tyX2 k) := by decide +kernel
abbrev cX2_init : ByteArray := prog_4_method_1_code
def yX2_init : MethodName := ⟨RX2, "<init>", "()V"⟩
abbrev cX2_clear : ByteArray := prog_4_method_2_code
def yX2_clear : MethodName := ⟨RX2, "clear", "()V"⟩
abbrev cX2_addPerson : ByteArray := prog_4_method_3_code
def yX2_addPerson : MethodName := ⟨RX2, "addPerson", "(I)V"⟩
abbrev cX2_addQuality : ByteArray := prog_4_method_4_code
def yX2_addQuality : MethodName := ⟨RX2, "addQuality", "(III)V"⟩
abbrev cX2_addDeed : ByteArray := prog_4_method_5_code
def yX2_addDeed : MethodName := ⟨RX2, "addDeed", "(III)V"⟩
abbrev cX2_hasPerson : ByteArray := prog_4_method_6_code
def yX2_hasPerson : MethodName := ⟨RX2, "hasPerson", "(I)Z"⟩
abbrev cX2_hasQuality : ByteArray := prog_4_method_7_code
def yX2_hasQuality : MethodName := ⟨RX2, "hasQuality", "(I)Z"⟩
abbrev cX2_hasDeed : ByteArray := prog_4_method_8_code
def yX2_hasDeed : MethodName := ⟨RX2, "hasDeed", "(I)Z"⟩
abbrev cX2_firstPurseOf : ByteArray := prog_4_method_9_code
def yX2_firstPurseOf : MethodName := ⟨RX2, "firstPurseOf", "(I)I"⟩
abbrev cX2_ownerOf : ByteArray := prog_4_method_10_code
def yX2_ownerOf : MethodName := ⟨RX2, "ownerOf", "(I)I"⟩
abbrev cX2_worthOf : ByteArray := prog_4_method_11_code
def yX2_worthOf : MethodName := ⟨RX2, "worthOf", "(I)I"⟩
abbrev cX2_kindOf : ByteArray := prog_4_method_12_code
def yX2_kindOf : MethodName := ⟨RX2, "kindOf", "(I)I"⟩
abbrev cX2_wantedBy : ByteArray := prog_4_method_13_code
def yX2_wantedBy : MethodName := ⟨RX2, "wantedBy", "(I)I"⟩
abbrev cX2_dayOf : ByteArray := prog_4_method_14_code
def yX2_dayOf : MethodName := ⟨RX2, "dayOf", "(I)I"⟩
abbrev cX2_rewardOf : ByteArray := prog_4_method_15_code
def yX2_rewardOf : MethodName := ⟨RX2, "rewardOf", "(I)I"⟩
abbrev cX2_qualitiesOf : ByteArray := prog_4_method_16_code
def yX2_qualitiesOf : MethodName := ⟨RX2, "qualitiesOf", "(I)I"⟩
abbrev cX2_deedsOf : ByteArray := prog_4_method_17_code
def yX2_deedsOf : MethodName := ⟨RX2, "deedsOf", "(I)I"⟩
def RX3 : String := "PluckBroker$State"
def TX3 : u_T := fun k => match k with
  | 0 => ("PluckBroker$State", "plan", "LPluckBroker$Plan;", true)
  | _ => ("PluckBroker$State", "cells", "[I", true)
def tyX3 : Nat → FieldType := fun k => match k with
  | 0 => .object "PluckBroker$Plan"
  | _ => .array .int
abbrev wsX30 : List Cond := u_ws RX3 TX3 2
theorem nmX3 : ∀ a, a < 2 → ∀ b, b < 2 → a ≠ b → (TX3 a).2.1 ≠ (TX3 b).2.1 := by decide +kernel
theorem tyX3_ok : ∀ k, k < 2 → parseFieldDescriptor (TX3 k).2.2.1 = some (tyX3 k) := by decide +kernel
abbrev cX3_init : ByteArray := prog_5_method_1_code
def yX3_init : MethodName := ⟨RX3, "<init>", "(LPluckBroker$Plan;)V"⟩
abbrev cX3_begin : ByteArray := prog_5_method_2_code
def yX3_begin : MethodName := ⟨RX3, "begin", "()V"⟩
abbrev cX3_copy : ByteArray := prog_5_method_3_code
def yX3_copy : MethodName := ⟨RX3, "copy", "(LPluckBroker$State;)V"⟩
abbrev cX3_saveTo : ByteArray := prog_5_method_4_code
def yX3_saveTo : MethodName := ⟨RX3, "saveTo", "([II)V"⟩
abbrev cX3_loadFrom : ByteArray := prog_5_method_5_code
def yX3_loadFrom : MethodName := ⟨RX3, "loadFrom", "([II)V"⟩
abbrev cX3_inTill : ByteArray := prog_5_method_6_code
def yX3_inTill : MethodName := ⟨RX3, "inTill", "()I"⟩
abbrev cX3_today : ByteArray := prog_5_method_7_code
def yX3_today : MethodName := ⟨RX3, "today", "()I"⟩
abbrev cX3_purseOf : ByteArray := prog_5_method_8_code
def yX3_purseOf : MethodName := ⟨RX3, "purseOf", "(I)I"⟩
abbrev cX3_standingOf : ByteArray := prog_5_method_9_code
def yX3_standingOf : MethodName := ⟨RX3, "standingOf", "(I)I"⟩
abbrev cX3_pledgedOn : ByteArray := prog_5_method_10_code
def yX3_pledgedOn : MethodName := ⟨RX3, "pledgedOn", "(I)I"⟩
abbrev cX3_outcomeOf : ByteArray := prog_5_method_11_code
def yX3_outcomeOf : MethodName := ⟨RX3, "outcomeOf", "(I)I"⟩
abbrev cX3_inAllPurses : ByteArray := prog_5_method_12_code
def yX3_inAllPurses : MethodName := ⟨RX3, "inAllPurses", "()I"⟩
abbrev cX3_qualitiesThatAre : ByteArray := prog_5_method_13_code
def yX3_qualitiesThatAre : MethodName := ⟨RX3, "qualitiesThatAre", "(I)I"⟩
abbrev cX3_deedsThatAre : ByteArray := prog_5_method_14_code
def yX3_deedsThatAre : MethodName := ⟨RX3, "deedsThatAre", "(I)I"⟩
abbrev cX3_owedFor : ByteArray := prog_5_method_15_code
def yX3_owedFor : MethodName := ⟨RX3, "owedFor", "(I)I"⟩
abbrev cX3_dearestOf : ByteArray := prog_5_method_16_code
def yX3_dearestOf : MethodName := ⟨RX3, "dearestOf", "(I)I"⟩
abbrev cX3_canPledge : ByteArray := prog_5_method_17_code
def yX3_canPledge : MethodName := ⟨RX3, "canPledge", "(I)Z"⟩
abbrev cX3_canRedeem : ByteArray := prog_5_method_18_code
def yX3_canRedeem : MethodName := ⟨RX3, "canRedeem", "(I)Z"⟩
abbrev cX3_tryPledge : ByteArray := prog_5_method_19_code
def yX3_tryPledge : MethodName := ⟨RX3, "tryPledge", "(I)Z"⟩
abbrev cX3_tryRedeem : ByteArray := prog_5_method_20_code
def yX3_tryRedeem : MethodName := ⟨RX3, "tryRedeem", "(I)Z"⟩
abbrev cX3_tryGive : ByteArray := prog_5_method_21_code
def yX3_tryGive : MethodName := ⟨RX3, "tryGive", "(II)Z"⟩
abbrev cX3_pay : ByteArray := prog_5_method_22_code
def yX3_pay : MethodName := ⟨RX3, "pay", "(II)V"⟩
abbrev cX3_passDay : ByteArray := prog_5_method_23_code
def yX3_passDay : MethodName := ⟨RX3, "passDay", "()I"⟩
abbrev cX3_tryDeed : ByteArray := prog_5_method_24_code
def yX3_tryDeed : MethodName := ⟨RX3, "tryDeed", "(I)Z"⟩
abbrev cX3_sellOverdue : ByteArray := prog_5_method_25_code
def yX3_sellOverdue : MethodName := ⟨RX3, "sellOverdue", "()V"⟩
abbrev cX3_deedsInTheEnd : ByteArray := prog_5_method_26_code
def yX3_deedsInTheEnd : MethodName := ⟨RX3, "deedsInTheEnd", "()I"⟩
abbrev cX3_sellAllBut : ByteArray := prog_5_method_27_code
def yX3_sellAllBut : MethodName := ⟨RX3, "sellAllBut", "(I)V"⟩
abbrev cX3_settle : ByteArray := prog_5_method_28_code
def yX3_settle : MethodName := ⟨RX3, "settle", "(I)V"⟩
abbrev cX3_goesThrough : ByteArray := prog_5_method_29_code
def yX3_goesThrough : MethodName := ⟨RX3, "goesThrough", "(III)Z"⟩
abbrev cX3_chances : ByteArray := prog_5_method_30_code
def yX3_chances : MethodName := ⟨RX3, "chances", "(I)V"⟩
def RX4 : String := "PluckBroker$Text"
def TX4 : u_T := fun k => match k with
  | 0 => ("PluckBroker$Text", "bytes", "[I", true)
  | 1 => ("PluckBroker$Text", "length", "I", false)
  | _ => ("PluckBroker$Text", "cursor", "I", false)
def tyX4 : Nat → FieldType := fun k => match k with
  | 0 => .array .int
  | 1 => .int
  | _ => .int
abbrev wsX40 : List Cond := u_ws RX4 TX4 3
theorem nmX4 : ∀ a, a < 3 → ∀ b, b < 3 → a ≠ b → (TX4 a).2.1 ≠ (TX4 b).2.1 := by decide +kernel
theorem tyX4_ok : ∀ k, k < 3 → parseFieldDescriptor (TX4 k).2.2.1 = some (tyX4 k) := by decide +kernel
abbrev cX4_init : ByteArray := prog_6_method_1_code
def yX4_init : MethodName := ⟨RX4, "<init>", "()V"⟩
abbrev cX4_append : ByteArray := prog_6_method_2_code
def yX4_append : MethodName := ⟨RX4, "append", "(I)V"⟩
abbrev cX4_readInto : ByteArray := prog_6_method_3_code
def yX4_readInto : MethodName := ⟨RX4, "readInto", "(LPluckBroker$Plan;)I"⟩
abbrev cX4_readThing : ByteArray := prog_6_method_4_code
def yX4_readThing : MethodName := ⟨RX4, "readThing", "(LPluckBroker$Plan;)Z"⟩
abbrev cX4_readPerson : ByteArray := prog_6_method_5_code
def yX4_readPerson : MethodName := ⟨RX4, "readPerson", "(LPluckBroker$Plan;)Z"⟩
abbrev cX4_readQuality : ByteArray := prog_6_method_6_code
def yX4_readQuality : MethodName := ⟨RX4, "readQuality", "(LPluckBroker$Plan;)Z"⟩
abbrev cX4_readDeed : ByteArray := prog_6_method_7_code
def yX4_readDeed : MethodName := ⟨RX4, "readDeed", "(LPluckBroker$Plan;)Z"⟩
abbrev cX4_upcoming : ByteArray := prog_6_method_8_code
def yX4_upcoming : MethodName := ⟨RX4, "upcoming", "()I"⟩
abbrev cX4_figure : ByteArray := prog_6_method_9_code
def yX4_figure : MethodName := ⟨RX4, "figure", "(II)I"⟩
def RX5 : String := "PluckBroker"
def TX5 : u_T := fun k => match k with
  | 0 => ("PluckBroker", "text", "LPluckBroker$Text;", true)
  | 1 => ("PluckBroker", "plan", "LPluckBroker$Plan;", true)
  | 2 => ("PluckBroker", "draft", "LPluckBroker$Plan;", true)
  | 3 => ("PluckBroker", "now", "LPluckBroker$State;", true)
  | 4 => ("PluckBroker", "ahead", "LPluckBroker$State;", true)
  | 5 => ("PluckBroker", "acts", "LPluckBroker$Acts;", true)
  | 6 => ("PluckBroker", "asked", "LPluckBroker$Asked;", true)
  | 7 => ("PluckBroker", "kept", "[I", true)
  | 8 => ("PluckBroker", "keptSlots", "I", false)
  | _ => ("PluckBroker", "chance", "J", false)
def tyX5 : Nat → FieldType := fun k => match k with
  | 0 => .object "PluckBroker$Text"
  | 1 => .object "PluckBroker$Plan"
  | 2 => .object "PluckBroker$Plan"
  | 3 => .object "PluckBroker$State"
  | 4 => .object "PluckBroker$State"
  | 5 => .object "PluckBroker$Acts"
  | 6 => .object "PluckBroker$Asked"
  | 7 => .array .int
  | 8 => .int
  | _ => .long
abbrev wsX50 : List Cond := u_ws RX5 TX5 10
theorem nmX5 : ∀ a, a < 10 → ∀ b, b < 10 → a ≠ b → (TX5 a).2.1 ≠ (TX5 b).2.1 := by decide +kernel
theorem tyX5_ok : ∀ k, k < 10 → parseFieldDescriptor (TX5 k).2.2.1 = some (tyX5 k) := by decide +kernel
abbrev cX5_init : ByteArray := prog_1_method_1_code
def yX5_init : MethodName := ⟨RX5, "<init>", "()V"⟩
abbrev cX5_write : ByteArray := prog_1_method_2_code
def yX5_write : MethodName := ⟨RX5, "write", "(I)I"⟩
abbrev cX5_wipe : ByteArray := prog_1_method_3_code
def yX5_wipe : MethodName := ⟨RX5, "wipe", "()I"⟩
abbrev cX5_fault : ByteArray := prog_1_method_4_code
def yX5_fault : MethodName := ⟨RX5, "fault", "()I"⟩
abbrev cX5_shop : ByteArray := prog_1_method_5_code
def yX5_shop : MethodName := ⟨RX5, "shop", "()I"⟩
abbrev cX5_about : ByteArray := prog_1_method_6_code
def yX5_about : MethodName := ⟨RX5, "about", "(I)I"⟩
abbrev cX5_person : ByteArray := prog_1_method_7_code
def yX5_person : MethodName := ⟨RX5, "person", "(II)I"⟩
abbrev cX5_quality : ByteArray := prog_1_method_8_code
def yX5_quality : MethodName := ⟨RX5, "quality", "(II)I"⟩
abbrev cX5_deed : ByteArray := prog_1_method_9_code
def yX5_deed : MethodName := ⟨RX5, "deed", "(II)I"⟩
abbrev cX5_day : ByteArray := prog_1_method_10_code
def yX5_day : MethodName := ⟨RX5, "day", "()I"⟩
abbrev cX5_pledge : ByteArray := prog_1_method_11_code
def yX5_pledge : MethodName := ⟨RX5, "pledge", "(I)I"⟩
abbrev cX5_redeem : ByteArray := prog_1_method_12_code
def yX5_redeem : MethodName := ⟨RX5, "redeem", "(I)I"⟩
abbrev cX5_give : ByteArray := prog_1_method_13_code
def yX5_give : MethodName := ⟨RX5, "give", "(II)I"⟩
abbrev cX5_undo : ByteArray := prog_1_method_14_code
def yX5_undo : MethodName := ⟨RX5, "undo", "()I"⟩
abbrev cX5_due : ByteArray := prog_1_method_15_code
def yX5_due : MethodName := ⟨RX5, "due", "(II)I"⟩
abbrev cX5_done : ByteArray := prog_1_method_16_code
def yX5_done : MethodName := ⟨RX5, "done", "(I)I"⟩
abbrev cX5_coins : ByteArray := prog_1_method_17_code
def yX5_coins : MethodName := ⟨RX5, "coins", "(II)I"⟩
abbrev cX5_raise : ByteArray := prog_1_method_18_code
def yX5_raise : MethodName := ⟨RX5, "raise", "(III)I"⟩
abbrev cX5_back : ByteArray := prog_1_method_19_code
def yX5_back : MethodName := ⟨RX5, "back", "(I)I"⟩
abbrev cX5_judge : ByteArray := prog_1_method_20_code
def yX5_judge : MethodName := ⟨RX5, "judge", "(IJ)I"⟩
abbrev cX5_share : ByteArray := prog_1_method_21_code
def yX5_share : MethodName := ⟨RX5, "share", "(IZ)I"⟩
abbrev cX5_ask : ByteArray := prog_1_method_22_code
def yX5_ask : MethodName := ⟨RX5, "ask", "(II)I"⟩
abbrev cX5_unask : ByteArray := prog_1_method_23_code
def yX5_unask : MethodName := ⟨RX5, "unask", "()I"⟩
abbrev cX5_tickets : ByteArray := prog_1_method_24_code
def yX5_tickets : MethodName := ⟨RX5, "tickets", "(I)I"⟩
abbrev cX5_rests : ByteArray := prog_1_method_25_code
def yX5_rests : MethodName := ⟨RX5, "rests", "(III)I"⟩
abbrev cX5_sales : ByteArray := prog_1_method_26_code
def yX5_sales : MethodName := ⟨RX5, "sales", "(IIZ)I"⟩
abbrev cX5_seed : ByteArray := prog_1_method_27_code
def yX5_seed : MethodName := ⟨RX5, "seed", "(J)J"⟩
abbrev cX5_years : ByteArray := prog_1_method_28_code
def yX5_years : MethodName := ⟨RX5, "years", "(I)I"⟩
abbrev cX5_keep : ByteArray := prog_1_method_29_code
def yX5_keep : MethodName := ⟨RX5, "keep", "(I)I"⟩
abbrev cX5_again : ByteArray := prog_1_method_30_code
def yX5_again : MethodName := ⟨RX5, "again", "(I)I"⟩
abbrev cX5_isNoDaysAhead : ByteArray := prog_1_method_31_code
def yX5_isNoDaysAhead : MethodName := ⟨RX5, "isNoDaysAhead", "(I)Z"⟩
abbrev cX5_isNoChoice : ByteArray := prog_1_method_32_code
def yX5_isNoChoice : MethodName := ⟨RX5, "isNoChoice", "(I)Z"⟩
abbrev cX5_lookAhead : ByteArray := prog_1_method_33_code
def yX5_lookAhead : MethodName := ⟨RX5, "lookAhead", "(I)V"⟩
abbrev cX5_deedsIfPledged : ByteArray := prog_1_method_34_code
def yX5_deedsIfPledged : MethodName := ⟨RX5, "deedsIfPledged", "(III)I"⟩
abbrev cX5_gain : ByteArray := prog_1_method_35_code
def yX5_gain : MethodName := ⟨RX5, "gain", "(IIII)I"⟩
abbrev cX5_deedsIfSold : ByteArray := prog_1_method_36_code
def yX5_deedsIfSold : MethodName := ⟨RX5, "deedsIfSold", "(I)I"⟩
abbrev cX5_weightOfSale : ByteArray := prog_1_method_37_code
def yX5_weightOfSale : MethodName := ⟨RX5, "weightOfSale", "(III)I"⟩
abbrev cX5_partOfFraction : ByteArray := prog_1_method_38_code
def yX5_partOfFraction : MethodName := ⟨RX5, "partOfFraction", "(IIZ)I"⟩
abbrev cX5_dueFor : ByteArray := prog_1_method_39_code
def yX5_dueFor : MethodName := ⟨RX5, "dueFor", "(IIII)I"⟩
abbrev cX5_cell : ByteArray := prog_1_method_40_code
def yX5_cell : MethodName := ⟨RX5, "cell", "([II)I"⟩
abbrev cX5_put : ByteArray := prog_1_method_41_code
def yX5_put : MethodName := ⟨RX5, "put", "([III)V"⟩
def RX6 : String := "PluckBrokerModel"
def TX6 : u_T := fun k => match k with
  | 0 => ("PluckBrokerModel", "thrown", "I", false)
  | 1 => ("PluckBrokerModel", "text", "[I", true)
  | 2 => ("PluckBrokerModel", "textSize", "I", false)
  | 3 => ("PluckBrokerModel", "place", "I", false)
  | 4 => ("PluckBrokerModel", "persons", "I", false)
  | 5 => ("PluckBrokerModel", "qualities", "I", false)
  | 6 => ("PluckBrokerModel", "owner", "[I", true)
  | 7 => ("PluckBrokerModel", "worth", "[I", true)
  | 8 => ("PluckBrokerModel", "kind", "[I", true)
  | 9 => ("PluckBrokerModel", "deeds", "I", false)
  | 10 => ("PluckBrokerModel", "wants", "[I", true)
  | 11 => ("PluckBrokerModel", "when", "[I", true)
  | 12 => ("PluckBrokerModel", "pays", "[I", true)
  | 13 => ("PluckBrokerModel", "readTill", "I", false)
  | 14 => ("PluckBrokerModel", "readPersons", "I", false)
  | 15 => ("PluckBrokerModel", "readPerson", "[I", true)
  | 16 => ("PluckBrokerModel", "readQualities", "I", false)
  | 17 => ("PluckBrokerModel", "readQuality", "[I", true)
  | 18 => ("PluckBrokerModel", "readDeeds", "I", false)
  | 19 => ("PluckBrokerModel", "readDeed", "[I", true)
  | 20 => ("PluckBrokerModel", "page", "[I", true)
  | 21 => ("PluckBrokerModel", "trial", "[I", true)
  | 22 => ("PluckBrokerModel", "book", "[I", true)
  | 23 => ("PluckBrokerModel", "acts", "I", false)
  | 24 => ("PluckBrokerModel", "kept", "[I", true)
  | 25 => ("PluckBrokerModel", "isKept", "[Z", true)
  | 26 => ("PluckBrokerModel", "asked", "I", false)
  | 27 => ("PluckBrokerModel", "askedDay", "[I", true)
  | 28 => ("PluckBrokerModel", "askedDue", "[I", true)
  | 29 => ("PluckBrokerModel", "seed", "J", false)
  | 30 => ("PluckBrokerModel", "raiseWhich", "I", false)
  | 31 => ("PluckBrokerModel", "raiseMany", "I", false)
  | 32 => ("PluckBrokerModel", "ticketMany", "I", false)
  | 33 => ("PluckBrokerModel", "ticketFirst", "I", false)
  | 34 => ("PluckBrokerModel", "restMany", "I", false)
  | 35 => ("PluckBrokerModel", "restFirst", "I", false)
  | 36 => ("PluckBrokerModel", "gains", "[I", true)
  | _ => ("PluckBrokerModel", "value", "[I", true)
def tyX6 : Nat → FieldType := fun k => match k with
  | 0 => .int
  | 1 => .array .int
  | 2 => .int
  | 3 => .int
  | 4 => .int
  | 5 => .int
  | 6 => .array .int
  | 7 => .array .int
  | 8 => .array .int
  | 9 => .int
  | 10 => .array .int
  | 11 => .array .int
  | 12 => .array .int
  | 13 => .int
  | 14 => .int
  | 15 => .array .int
  | 16 => .int
  | 17 => .array .int
  | 18 => .int
  | 19 => .array .int
  | 20 => .array .int
  | 21 => .array .int
  | 22 => .array .int
  | 23 => .int
  | 24 => .array .int
  | 25 => .array .boolean
  | 26 => .int
  | 27 => .array .int
  | 28 => .array .int
  | 29 => .long
  | 30 => .int
  | 31 => .int
  | 32 => .int
  | 33 => .int
  | 34 => .int
  | 35 => .int
  | 36 => .array .int
  | _ => .array .int
abbrev wsX60 : List Cond := u_ws RX6 TX6 38
theorem nmX6 : ∀ a, a < 38 → ∀ b, b < 38 → a ≠ b → (TX6 a).2.1 ≠ (TX6 b).2.1 := by decide +kernel
theorem tyX6_ok : ∀ k, k < 38 → parseFieldDescriptor (TX6 k).2.2.1 = some (tyX6 k) := by decide +kernel
abbrev cX6_init : ByteArray := prog_8_method_1_code
def yX6_init : MethodName := ⟨RX6, "<init>", "()V"⟩
abbrev cX6_in : ByteArray := prog_8_method_3_code
def yX6_in : MethodName := ⟨RX6, "in", "(JJJ)Z"⟩
abbrev cX6_has : ByteArray := prog_8_method_4_code
def yX6_has : MethodName := ⟨RX6, "has", "(II)Z"⟩
abbrev cX6_many : ByteArray := prog_8_method_5_code
def yX6_many : MethodName := ⟨RX6, "many", "(I)I"⟩
abbrev cX6_power : ByteArray := prog_8_method_6_code
def yX6_power : MethodName := ⟨RX6, "power", "(II)I"⟩
abbrev cX6_noPerson : ByteArray := prog_8_method_7_code
def yX6_noPerson : MethodName := ⟨RX6, "noPerson", "(I)Z"⟩
abbrev cX6_noQuality : ByteArray := prog_8_method_8_code
def yX6_noQuality : MethodName := ⟨RX6, "noQuality", "(I)Z"⟩
abbrev cX6_noDeed : ByteArray := prog_8_method_9_code
def yX6_noDeed : MethodName := ⟨RX6, "noDeed", "(I)Z"⟩
abbrev cX6_write : ByteArray := prog_8_method_10_code
def yX6_write : MethodName := ⟨RX6, "write", "(I)I"⟩
abbrev cX6_wipe : ByteArray := prog_8_method_11_code
def yX6_wipe : MethodName := ⟨RX6, "wipe", "()I"⟩
abbrev cX6_figure : ByteArray := prog_8_method_12_code
def yX6_figure : MethodName := ⟨RX6, "figure", "(II)I"⟩
abbrev cX6_readOnePerson : ByteArray := prog_8_method_13_code
def yX6_readOnePerson : MethodName := ⟨RX6, "readOnePerson", "()Z"⟩
abbrev cX6_readOneQuality : ByteArray := prog_8_method_14_code
def yX6_readOneQuality : MethodName := ⟨RX6, "readOneQuality", "()Z"⟩
abbrev cX6_readOneDeed : ByteArray := prog_8_method_15_code
def yX6_readOneDeed : MethodName := ⟨RX6, "readOneDeed", "()Z"⟩
abbrev cX6_readThing : ByteArray := prog_8_method_16_code
def yX6_readThing : MethodName := ⟨RX6, "readThing", "()Z"⟩
abbrev cX6_readShop : ByteArray := prog_8_method_17_code
def yX6_readShop : MethodName := ⟨RX6, "readShop", "()I"⟩
abbrev cX6_fault : ByteArray := prog_8_method_18_code
def yX6_fault : MethodName := ⟨RX6, "fault", "()I"⟩
abbrev cX6_shop : ByteArray := prog_8_method_19_code
def yX6_shop : MethodName := ⟨RX6, "shop", "()I"⟩
abbrev cX6_dueBy : ByteArray := prog_8_method_20_code
def yX6_dueBy : MethodName := ⟨RX6, "dueBy", "(IIII)I"⟩
abbrev cX6_dueOf : ByteArray := prog_8_method_21_code
def yX6_dueOf : MethodName := ⟨RX6, "dueOf", "([II)I"⟩
abbrev cX6_thatAre : ByteArray := prog_8_method_22_code
def yX6_thatAre : MethodName := ⟨RX6, "thatAre", "([II)I"⟩
abbrev cX6_deedsThat : ByteArray := prog_8_method_23_code
def yX6_deedsThat : MethodName := ⟨RX6, "deedsThat", "([II)I"⟩
abbrev cX6_ownOf : ByteArray := prog_8_method_24_code
def yX6_ownOf : MethodName := ⟨RX6, "ownOf", "(I)I"⟩
abbrev cX6_deedsOf : ByteArray := prog_8_method_25_code
def yX6_deedsOf : MethodName := ⟨RX6, "deedsOf", "(I)I"⟩
abbrev cX6_goDay : ByteArray := prog_8_method_26_code
def yX6_goDay : MethodName := ⟨RX6, "goDay", "([I)I"⟩
abbrev cX6_goDays : ByteArray := prog_8_method_27_code
def yX6_goDays : MethodName := ⟨RX6, "goDays", "(I)V"⟩
abbrev cX6_about : ByteArray := prog_8_method_28_code
def yX6_about : MethodName := ⟨RX6, "about", "(I)I"⟩
abbrev cX6_person : ByteArray := prog_8_method_29_code
def yX6_person : MethodName := ⟨RX6, "person", "(II)I"⟩
abbrev cX6_quality : ByteArray := prog_8_method_30_code
def yX6_quality : MethodName := ⟨RX6, "quality", "(II)I"⟩
abbrev cX6_deed : ByteArray := prog_8_method_31_code
def yX6_deed : MethodName := ⟨RX6, "deed", "(II)I"⟩
abbrev cX6_note : ByteArray := prog_8_method_32_code
def yX6_note : MethodName := ⟨RX6, "note", "()V"⟩
abbrev cX6_day : ByteArray := prog_8_method_33_code
def yX6_day : MethodName := ⟨RX6, "day", "()I"⟩
abbrev cX6_canPledge : ByteArray := prog_8_method_34_code
def yX6_canPledge : MethodName := ⟨RX6, "canPledge", "([II)Z"⟩
abbrev cX6_goPledge : ByteArray := prog_8_method_35_code
def yX6_goPledge : MethodName := ⟨RX6, "goPledge", "([II)V"⟩
abbrev cX6_pledge : ByteArray := prog_8_method_36_code
def yX6_pledge : MethodName := ⟨RX6, "pledge", "(I)I"⟩
abbrev cX6_canRedeem : ByteArray := prog_8_method_37_code
def yX6_canRedeem : MethodName := ⟨RX6, "canRedeem", "([II)Z"⟩
abbrev cX6_goRedeem : ByteArray := prog_8_method_38_code
def yX6_goRedeem : MethodName := ⟨RX6, "goRedeem", "([II)V"⟩
abbrev cX6_redeem : ByteArray := prog_8_method_39_code
def yX6_redeem : MethodName := ⟨RX6, "redeem", "(I)I"⟩
abbrev cX6_give : ByteArray := prog_8_method_40_code
def yX6_give : MethodName := ⟨RX6, "give", "(II)I"⟩
abbrev cX6_undo : ByteArray := prog_8_method_41_code
def yX6_undo : MethodName := ⟨RX6, "undo", "()I"⟩
abbrev cX6_begin : ByteArray := prog_8_method_42_code
def yX6_begin : MethodName := ⟨RX6, "begin", "()V"⟩
abbrev cX6_due : ByteArray := prog_8_method_43_code
def yX6_due : MethodName := ⟨RX6, "due", "(II)I"⟩
abbrev cX6_done : ByteArray := prog_8_method_44_code
def yX6_done : MethodName := ⟨RX6, "done", "(I)I"⟩
abbrev cX6_coins : ByteArray := prog_8_method_45_code
def yX6_coins : MethodName := ⟨RX6, "coins", "(II)I"⟩
abbrev cX6_worthOf : ByteArray := prog_8_method_46_code
def yX6_worthOf : MethodName := ⟨RX6, "worthOf", "(I)I"⟩
abbrev cX6_doneBy : ByteArray := prog_8_method_47_code
def yX6_doneBy : MethodName := ⟨RX6, "doneBy", "(II)I"⟩
abbrev cX6_raise : ByteArray := prog_8_method_48_code
def yX6_raise : MethodName := ⟨RX6, "raise", "(III)I"⟩
abbrev cX6_back : ByteArray := prog_8_method_49_code
def yX6_back : MethodName := ⟨RX6, "back", "(I)I"⟩
abbrev cX6_longPower : ByteArray := prog_8_method_50_code
def yX6_longPower : MethodName := ⟨RX6, "longPower", "(JI)J"⟩
abbrev cX6_doesTo : ByteArray := prog_8_method_51_code
def yX6_doesTo : MethodName := ⟨RX6, "doesTo", "(II)Z"⟩
abbrev cX6_does : ByteArray := prog_8_method_52_code
def yX6_does : MethodName := ⟨RX6, "does", "(I)Z"⟩
abbrev cX6_judge : ByteArray := prog_8_method_53_code
def yX6_judge : MethodName := ⟨RX6, "judge", "(IJ)I"⟩
abbrev cX6_ways : ByteArray := prog_8_method_54_code
def yX6_ways : MethodName := ⟨RX6, "ways", "(I)I"⟩
abbrev cX6_divisor : ByteArray := prog_8_method_55_code
def yX6_divisor : MethodName := ⟨RX6, "divisor", "(II)I"⟩
abbrev cX6_fraction : ByteArray := prog_8_method_56_code
def yX6_fraction : MethodName := ⟨RX6, "fraction", "(IIZ)I"⟩
abbrev cX6_share : ByteArray := prog_8_method_57_code
def yX6_share : MethodName := ⟨RX6, "share", "(IZ)I"⟩
abbrev cX6_ask : ByteArray := prog_8_method_58_code
def yX6_ask : MethodName := ⟨RX6, "ask", "(II)I"⟩
abbrev cX6_unask : ByteArray := prog_8_method_59_code
def yX6_unask : MethodName := ⟨RX6, "unask", "()I"⟩
abbrev cX6_tickets : ByteArray := prog_8_method_60_code
def yX6_tickets : MethodName := ⟨RX6, "tickets", "(I)I"⟩
abbrev cX6_goBest : ByteArray := prog_8_method_61_code
def yX6_goBest : MethodName := ⟨RX6, "goBest", "(I)V"⟩
abbrev cX6_rests : ByteArray := prog_8_method_62_code
def yX6_rests : MethodName := ⟨RX6, "rests", "(III)I"⟩
abbrev cX6_sales : ByteArray := prog_8_method_63_code
def yX6_sales : MethodName := ⟨RX6, "sales", "(IIZ)I"⟩
abbrev cX6_seed : ByteArray := prog_8_method_64_code
def yX6_seed : MethodName := ⟨RX6, "seed", "(J)J"⟩
abbrev cX6_years : ByteArray := prog_8_method_65_code
def yX6_years : MethodName := ⟨RX6, "years", "(I)I"⟩
abbrev cX6_keep : ByteArray := prog_8_method_66_code
def yX6_keep : MethodName := ⟨RX6, "keep", "(I)I"⟩
abbrev cX6_again : ByteArray := prog_8_method_67_code
def yX6_again : MethodName := ⟨RX6, "again", "(I)I"⟩
def RJ6 : String := "java/lang/Integer"
def TJ6 : u_T := fun k => match k with
  | _ => ("", "", "", false)
def tyJ6 : Nat → FieldType := fun k => match k with
  | _ => .int
abbrev wsJ60 : List Cond := u_ws RJ6 TJ6 0
theorem nmJ6 : ∀ a, a < 0 → ∀ b, b < 0 → a ≠ b → (TJ6 a).2.1 ≠ (TJ6 b).2.1 := by decide +kernel
theorem tyJ6_ok : ∀ k, k < 0 → parseFieldDescriptor (TJ6 k).2.2.1 = some (tyJ6 k) := by decide +kernel
abbrev cJ6_bitCount_0f7a4 : ByteArray := prog_9_method_49_code
def yJ6_bitCount_0f7a4 : MethodName := ⟨RJ6, "bitCount", "(I)I"⟩
def RL : String := "PluckBrokerLaw"
abbrev cL_law : ByteArray := code
def yL_law : MethodName := ⟨RL, "law", "([I)Z"⟩
def wsX0_init : List Cond := .code yX0_init cX0_init 1 none :: ([.methodLink RX0 3 objectInit, .instanceMethod objectInit, .code objectInit ⟨#[0xb1]⟩ 1 none, .arrayClass .int, .fieldLink RX0 11 "PluckBroker$Acts" "states" "[I"] ++ wsX00)
def wsX5_put : List Cond := .code yX5_put cX5_put 3 none :: ([])
def wsX3_saveTo : List Cond := .code yX3_saveTo cX3_saveTo 4 none :: ([.fieldLink RX3 11 "PluckBroker$State" "cells" "[I", .static yX5_put, .initialized RX5, .code yX5_put cX5_put 3 none] ++ wsX30)
def wsX0_remember : List Cond := .code yX0_remember cX0_remember 2 none :: ([.fieldLink RX0 11 "PluckBroker$Acts" "states" "[I", .fieldLink RX0 17 "PluckBroker$Acts" "upcoming" "I", .fieldLink RX0 25 "PluckBroker$Acts" "count" "I", .methodLink RX0 21 yX3_saveTo, .instanceMethod yX3_saveTo, .selects RX3 yX3_saveTo yX3_saveTo, .initialized RX3, .code yX3_saveTo cX3_saveTo 4 none, .fieldLink RX3 11 "PluckBroker$State" "cells" "[I", .static yX5_put, .initialized RX5, .code yX5_put cX5_put 3 none] ++ wsX00 ++ wsX30)
def wsX5_cell : List Cond := .code yX5_cell cX5_cell 2 (some .int) :: ([])
def wsX3_loadFrom : List Cond := .code yX3_loadFrom cX3_loadFrom 4 none :: ([.fieldLink RX3 11 "PluckBroker$State" "cells" "[I", .static yX5_cell, .initialized RX5, .code yX5_cell cX5_cell 2 (some .int)] ++ wsX30)
def wsX0_takeBack : List Cond := .code yX0_takeBack cX0_takeBack 2 none :: ([.fieldLink RX0 17 "PluckBroker$Acts" "upcoming" "I", .fieldLink RX0 25 "PluckBroker$Acts" "count" "I", .fieldLink RX0 11 "PluckBroker$Acts" "states" "[I", .methodLink RX0 28 yX3_loadFrom, .instanceMethod yX3_loadFrom, .selects RX3 yX3_loadFrom yX3_loadFrom, .initialized RX3, .code yX3_loadFrom cX3_loadFrom 4 none, .fieldLink RX3 11 "PluckBroker$State" "cells" "[I", .static yX5_cell, .initialized RX5, .code yX5_cell cX5_cell 2 (some .int)] ++ wsX00 ++ wsX30)
def wsX0_forget : List Cond := .code yX0_forget cX0_forget 1 none :: ([.fieldLink RX0 25 "PluckBroker$Acts" "count" "I"] ++ wsX00)
def wsX1_init : List Cond := .code yX1_init cX1_init 1 none :: ([.methodLink RX1 3 objectInit, .instanceMethod objectInit, .code objectInit ⟨#[0xb1]⟩ 1 none, .arrayClass .int, .fieldLink RX1 9 "PluckBroker$Asked" "days" "[I", .fieldLink RX1 15 "PluckBroker$Asked" "dues" "[I"] ++ wsX10)
def wsX1_add : List Cond := .code yX1_add cX1_add 3 none :: ([.fieldLink RX1 9 "PluckBroker$Asked" "days" "[I", .fieldLink RX1 18 "PluckBroker$Asked" "count" "I", .fieldLink RX1 15 "PluckBroker$Asked" "dues" "[I", .static yX5_put, .initialized RX5, .code yX5_put cX5_put 3 none] ++ wsX10)
def wsX5_dueFor : List Cond := .code yX5_dueFor cX5_dueFor 4 (some .int) :: ([])
def wsX1_fits : List Cond := .code yX1_fits cX1_fits 5 (some .boolean) :: ([.fieldLink RX1 18 "PluckBroker$Asked" "count" "I", .fieldLink RX1 9 "PluckBroker$Asked" "days" "[I", .fieldLink RX1 15 "PluckBroker$Asked" "dues" "[I", .static yX5_cell, .initialized RX5, .code yX5_cell cX5_cell 2 (some .int), .static yX5_dueFor, .code yX5_dueFor cX5_dueFor 4 (some .int)] ++ wsX10)
def wsX2_init : List Cond := .code yX2_init cX2_init 1 none :: ([.methodLink RX2 3 objectInit, .instanceMethod objectInit, .code objectInit ⟨#[0xb1]⟩ 1 none, .arrayClass .int, .fieldLink RX2 9 "PluckBroker$Plan" "purses" "[I", .fieldLink RX2 15 "PluckBroker$Plan" "owners" "[I", .fieldLink RX2 18 "PluckBroker$Plan" "worths" "[I", .fieldLink RX2 21 "PluckBroker$Plan" "kinds" "[I", .fieldLink RX2 24 "PluckBroker$Plan" "wanted" "[I", .fieldLink RX2 27 "PluckBroker$Plan" "onDays" "[I", .fieldLink RX2 30 "PluckBroker$Plan" "rewards" "[I"] ++ wsX20)
def wsX2_clear : List Cond := .code yX2_clear cX2_clear 1 none :: ([.fieldLink RX2 33 "PluckBroker$Plan" "tillFigure" "I", .fieldLink RX2 37 "PluckBroker$Plan" "persons" "I", .fieldLink RX2 40 "PluckBroker$Plan" "qualities" "I", .fieldLink RX2 43 "PluckBroker$Plan" "deeds" "I"] ++ wsX20)
def wsX2_addPerson : List Cond := .code yX2_addPerson cX2_addPerson 2 none :: ([.fieldLink RX2 9 "PluckBroker$Plan" "purses" "[I", .fieldLink RX2 37 "PluckBroker$Plan" "persons" "I", .static yX5_put, .initialized RX5, .code yX5_put cX5_put 3 none] ++ wsX20)
def wsX2_addQuality : List Cond := .code yX2_addQuality cX2_addQuality 4 none :: ([.fieldLink RX2 15 "PluckBroker$Plan" "owners" "[I", .fieldLink RX2 40 "PluckBroker$Plan" "qualities" "I", .fieldLink RX2 18 "PluckBroker$Plan" "worths" "[I", .fieldLink RX2 21 "PluckBroker$Plan" "kinds" "[I", .static yX5_put, .initialized RX5, .code yX5_put cX5_put 3 none] ++ wsX20)
def wsX2_addDeed : List Cond := .code yX2_addDeed cX2_addDeed 4 none :: ([.fieldLink RX2 24 "PluckBroker$Plan" "wanted" "[I", .fieldLink RX2 43 "PluckBroker$Plan" "deeds" "I", .fieldLink RX2 27 "PluckBroker$Plan" "onDays" "[I", .fieldLink RX2 30 "PluckBroker$Plan" "rewards" "[I", .static yX5_put, .initialized RX5, .code yX5_put cX5_put 3 none] ++ wsX20)
def wsX2_hasPerson : List Cond := .code yX2_hasPerson cX2_hasPerson 2 (some .boolean) :: ([.fieldLink RX2 37 "PluckBroker$Plan" "persons" "I"] ++ wsX20)
def wsX2_hasQuality : List Cond := .code yX2_hasQuality cX2_hasQuality 2 (some .boolean) :: ([.fieldLink RX2 40 "PluckBroker$Plan" "qualities" "I"] ++ wsX20)
def wsX2_hasDeed : List Cond := .code yX2_hasDeed cX2_hasDeed 2 (some .boolean) :: ([.fieldLink RX2 43 "PluckBroker$Plan" "deeds" "I"] ++ wsX20)
def wsX2_firstPurseOf : List Cond := .code yX2_firstPurseOf cX2_firstPurseOf 2 (some .int) :: ([.fieldLink RX2 9 "PluckBroker$Plan" "purses" "[I", .static yX5_cell, .initialized RX5, .code yX5_cell cX5_cell 2 (some .int)] ++ wsX20)
def wsX2_ownerOf : List Cond := .code yX2_ownerOf cX2_ownerOf 2 (some .int) :: ([.fieldLink RX2 15 "PluckBroker$Plan" "owners" "[I", .static yX5_cell, .initialized RX5, .code yX5_cell cX5_cell 2 (some .int)] ++ wsX20)
def wsX2_worthOf : List Cond := .code yX2_worthOf cX2_worthOf 2 (some .int) :: ([.fieldLink RX2 18 "PluckBroker$Plan" "worths" "[I", .static yX5_cell, .initialized RX5, .code yX5_cell cX5_cell 2 (some .int)] ++ wsX20)
def wsX2_kindOf : List Cond := .code yX2_kindOf cX2_kindOf 2 (some .int) :: ([.fieldLink RX2 21 "PluckBroker$Plan" "kinds" "[I", .static yX5_cell, .initialized RX5, .code yX5_cell cX5_cell 2 (some .int)] ++ wsX20)
def wsX2_wantedBy : List Cond := .code yX2_wantedBy cX2_wantedBy 2 (some .int) :: ([.fieldLink RX2 24 "PluckBroker$Plan" "wanted" "[I", .static yX5_cell, .initialized RX5, .code yX5_cell cX5_cell 2 (some .int)] ++ wsX20)
def wsX2_dayOf : List Cond := .code yX2_dayOf cX2_dayOf 2 (some .int) :: ([.fieldLink RX2 27 "PluckBroker$Plan" "onDays" "[I", .static yX5_cell, .initialized RX5, .code yX5_cell cX5_cell 2 (some .int)] ++ wsX20)
def wsX2_rewardOf : List Cond := .code yX2_rewardOf cX2_rewardOf 2 (some .int) :: ([.fieldLink RX2 30 "PluckBroker$Plan" "rewards" "[I", .static yX5_cell, .initialized RX5, .code yX5_cell cX5_cell 2 (some .int)] ++ wsX20)
def wsX2_qualitiesOf : List Cond := .code yX2_qualitiesOf cX2_qualitiesOf 4 (some .int) :: ([.fieldLink RX2 40 "PluckBroker$Plan" "qualities" "I", .methodLink RX2 54 yX2_ownerOf, .instanceMethod yX2_ownerOf, .selects RX2 yX2_ownerOf yX2_ownerOf, .initialized RX2, .code yX2_ownerOf cX2_ownerOf 2 (some .int), .fieldLink RX2 15 "PluckBroker$Plan" "owners" "[I", .static yX5_cell, .initialized RX5, .code yX5_cell cX5_cell 2 (some .int)] ++ wsX20)
def wsX2_deedsOf : List Cond := .code yX2_deedsOf cX2_deedsOf 4 (some .int) :: ([.fieldLink RX2 43 "PluckBroker$Plan" "deeds" "I", .methodLink RX2 58 yX2_wantedBy, .instanceMethod yX2_wantedBy, .selects RX2 yX2_wantedBy yX2_wantedBy, .initialized RX2, .code yX2_wantedBy cX2_wantedBy 2 (some .int), .fieldLink RX2 24 "PluckBroker$Plan" "wanted" "[I", .static yX5_cell, .initialized RX5, .code yX5_cell cX5_cell 2 (some .int), .methodLink RX2 54 yX2_ownerOf, .instanceMethod yX2_ownerOf, .selects RX2 yX2_ownerOf yX2_ownerOf, .code yX2_ownerOf cX2_ownerOf 2 (some .int), .fieldLink RX2 15 "PluckBroker$Plan" "owners" "[I"] ++ wsX20)
def wsX3_init : List Cond := .code yX3_init cX3_init 2 none :: ([.methodLink RX3 5 objectInit, .instanceMethod objectInit, .code objectInit ⟨#[0xb1]⟩ 1 none, .arrayClass .int, .fieldLink RX3 11 "PluckBroker$State" "cells" "[I", .fieldLink RX3 15 "PluckBroker$State" "plan" "LPluckBroker$Plan;"] ++ wsX30)
def wsX3_begin : List Cond := .code yX3_begin cX3_begin 2 none :: ([.fieldLink RX3 11 "PluckBroker$State" "cells" "[I", .fieldLink RX3 15 "PluckBroker$State" "plan" "LPluckBroker$Plan;", .static yX5_put, .initialized RX5, .code yX5_put cX5_put 3 none, .methodLink RX3 32 yX2_firstPurseOf, .instanceMethod yX2_firstPurseOf, .selects RX2 yX2_firstPurseOf yX2_firstPurseOf, .initialized RX2, .code yX2_firstPurseOf cX2_firstPurseOf 2 (some .int), .fieldLink RX2 9 "PluckBroker$Plan" "purses" "[I", .static yX5_cell, .code yX5_cell cX5_cell 2 (some .int)] ++ wsX30 ++ wsX20)
def wsX3_copy : List Cond := .code yX3_copy cX3_copy 2 none :: ([.fieldLink RX3 11 "PluckBroker$State" "cells" "[I", .methodLink RX3 36 yX3_saveTo, .instanceMethod yX3_saveTo, .selects RX3 yX3_saveTo yX3_saveTo, .initialized RX3, .code yX3_saveTo cX3_saveTo 4 none, .static yX5_put, .initialized RX5, .code yX5_put cX5_put 3 none] ++ wsX30)
def wsX3_inTill : List Cond := .code yX3_inTill cX3_inTill 1 (some .int) :: ([.fieldLink RX3 11 "PluckBroker$State" "cells" "[I", .static yX5_cell, .initialized RX5, .code yX5_cell cX5_cell 2 (some .int)] ++ wsX30)
def wsX3_today : List Cond := .code yX3_today cX3_today 1 (some .int) :: ([.fieldLink RX3 11 "PluckBroker$State" "cells" "[I", .static yX5_cell, .initialized RX5, .code yX5_cell cX5_cell 2 (some .int)] ++ wsX30)
def wsX3_purseOf : List Cond := .code yX3_purseOf cX3_purseOf 2 (some .int) :: ([.fieldLink RX3 11 "PluckBroker$State" "cells" "[I", .static yX5_cell, .initialized RX5, .code yX5_cell cX5_cell 2 (some .int)] ++ wsX30)
def wsX3_standingOf : List Cond := .code yX3_standingOf cX3_standingOf 2 (some .int) :: ([.fieldLink RX3 11 "PluckBroker$State" "cells" "[I", .static yX5_cell, .initialized RX5, .code yX5_cell cX5_cell 2 (some .int)] ++ wsX30)
def wsX3_pledgedOn : List Cond := .code yX3_pledgedOn cX3_pledgedOn 2 (some .int) :: ([.fieldLink RX3 11 "PluckBroker$State" "cells" "[I", .static yX5_cell, .initialized RX5, .code yX5_cell cX5_cell 2 (some .int)] ++ wsX30)
def wsX3_outcomeOf : List Cond := .code yX3_outcomeOf cX3_outcomeOf 2 (some .int) :: ([.fieldLink RX3 11 "PluckBroker$State" "cells" "[I", .static yX5_cell, .initialized RX5, .code yX5_cell cX5_cell 2 (some .int)] ++ wsX30)
def wsX3_inAllPurses : List Cond := .code yX3_inAllPurses cX3_inAllPurses 3 (some .int) :: ([.fieldLink RX3 15 "PluckBroker$State" "plan" "LPluckBroker$Plan;", .methodLink RX3 44 yX3_purseOf, .instanceMethod yX3_purseOf, .selects RX3 yX3_purseOf yX3_purseOf, .initialized RX3, .code yX3_purseOf cX3_purseOf 2 (some .int), .fieldLink RX3 11 "PluckBroker$State" "cells" "[I", .static yX5_cell, .initialized RX5, .code yX5_cell cX5_cell 2 (some .int)] ++ wsX30 ++ wsX20)
def wsX3_qualitiesThatAre : List Cond := .code yX3_qualitiesThatAre cX3_qualitiesThatAre 4 (some .int) :: ([.fieldLink RX3 15 "PluckBroker$State" "plan" "LPluckBroker$Plan;", .methodLink RX3 50 yX3_standingOf, .instanceMethod yX3_standingOf, .selects RX3 yX3_standingOf yX3_standingOf, .initialized RX3, .code yX3_standingOf cX3_standingOf 2 (some .int), .fieldLink RX3 11 "PluckBroker$State" "cells" "[I", .static yX5_cell, .initialized RX5, .code yX5_cell cX5_cell 2 (some .int)] ++ wsX30 ++ wsX20)
def wsX3_deedsThatAre : List Cond := .code yX3_deedsThatAre cX3_deedsThatAre 4 (some .int) :: ([.fieldLink RX3 15 "PluckBroker$State" "plan" "LPluckBroker$Plan;", .methodLink RX3 56 yX3_outcomeOf, .instanceMethod yX3_outcomeOf, .selects RX3 yX3_outcomeOf yX3_outcomeOf, .initialized RX3, .code yX3_outcomeOf cX3_outcomeOf 2 (some .int), .fieldLink RX3 11 "PluckBroker$State" "cells" "[I", .static yX5_cell, .initialized RX5, .code yX5_cell cX5_cell 2 (some .int)] ++ wsX30 ++ wsX20)
def wsX3_owedFor_r1 : List Cond := [Cond.fieldLink RX3 15 "PluckBroker$State" "plan" "LPluckBroker$Plan;", Cond.methodLink RX3 50 yX3_standingOf, Cond.instanceMethod yX3_standingOf, Cond.selects RX3 yX3_standingOf yX3_standingOf, Cond.initialized RX3, Cond.code yX3_standingOf cX3_standingOf 2 (some .int), Cond.fieldLink RX3 11 "PluckBroker$State" "cells" "[I", Cond.static yX5_cell, Cond.initialized RX5, Cond.code yX5_cell cX5_cell 2 (some .int), Cond.methodLink RX3 59 yX2_kindOf, Cond.instanceMethod yX2_kindOf, Cond.selects RX2 yX2_kindOf yX2_kindOf, Cond.initialized RX2, Cond.code yX2_kindOf cX2_kindOf 2 (some .int), Cond.fieldLink RX2 21 "PluckBroker$Plan" "kinds" "[I", Cond.methodLink RX3 62 yX2_worthOf, Cond.instanceMethod yX2_worthOf, Cond.selects RX2 yX2_worthOf yX2_worthOf, Cond.code yX2_worthOf cX2_worthOf 2 (some .int), Cond.fieldLink RX2 18 "PluckBroker$Plan" "worths" "[I", Cond.methodLink RX3 65 yX3_today, Cond.instanceMethod yX3_today, Cond.selects RX3 yX3_today yX3_today]
def wsX3_owedFor_r2 : List Cond := [Cond.code yX3_today cX3_today 1 (some .int), Cond.methodLink RX3 69 yX3_pledgedOn, Cond.instanceMethod yX3_pledgedOn, Cond.selects RX3 yX3_pledgedOn yX3_pledgedOn, Cond.code yX3_pledgedOn cX3_pledgedOn 2 (some .int), Cond.static yX5_dueFor, Cond.code yX5_dueFor cX5_dueFor 4 (some .int)]
def wsX3_owedFor : List Cond := .code yX3_owedFor cX3_owedFor 2 (some .int) :: ((wsX3_owedFor_r1 ++ wsX3_owedFor_r2) ++ wsX30 ++ wsX20)
def wsX3_dearestOf : List Cond := .code yX3_dearestOf cX3_dearestOf 5 (some .int) :: ([.fieldLink RX3 15 "PluckBroker$State" "plan" "LPluckBroker$Plan;", .methodLink RX3 76 yX2_ownerOf, .instanceMethod yX2_ownerOf, .selects RX2 yX2_ownerOf yX2_ownerOf, .initialized RX2, .code yX2_ownerOf cX2_ownerOf 2 (some .int), .fieldLink RX2 15 "PluckBroker$Plan" "owners" "[I", .static yX5_cell, .initialized RX5, .code yX5_cell cX5_cell 2 (some .int), .methodLink RX3 50 yX3_standingOf, .instanceMethod yX3_standingOf, .selects RX3 yX3_standingOf yX3_standingOf, .initialized RX3, .code yX3_standingOf cX3_standingOf 2 (some .int), .fieldLink RX3 11 "PluckBroker$State" "cells" "[I", .methodLink RX3 62 yX2_worthOf, .instanceMethod yX2_worthOf, .selects RX2 yX2_worthOf yX2_worthOf, .code yX2_worthOf cX2_worthOf 2 (some .int), .fieldLink RX2 18 "PluckBroker$Plan" "worths" "[I"] ++ wsX30 ++ wsX20)
def wsX3_canPledge_r1 : List Cond := [Cond.fieldLink RX3 15 "PluckBroker$State" "plan" "LPluckBroker$Plan;", Cond.methodLink RX3 79 yX2_hasQuality, Cond.instanceMethod yX2_hasQuality, Cond.selects RX2 yX2_hasQuality yX2_hasQuality, Cond.initialized RX2, Cond.code yX2_hasQuality cX2_hasQuality 2 (some .boolean), Cond.fieldLink RX2 40 "PluckBroker$Plan" "qualities" "I", Cond.methodLink RX3 50 yX3_standingOf, Cond.instanceMethod yX3_standingOf, Cond.selects RX3 yX3_standingOf yX3_standingOf, Cond.initialized RX3, Cond.code yX3_standingOf cX3_standingOf 2 (some .int), Cond.fieldLink RX3 11 "PluckBroker$State" "cells" "[I", Cond.static yX5_cell, Cond.initialized RX5, Cond.code yX5_cell cX5_cell 2 (some .int), Cond.methodLink RX3 83 yX3_inTill, Cond.instanceMethod yX3_inTill, Cond.selects RX3 yX3_inTill yX3_inTill, Cond.code yX3_inTill cX3_inTill 1 (some .int), Cond.methodLink RX3 62 yX2_worthOf, Cond.instanceMethod yX2_worthOf, Cond.selects RX2 yX2_worthOf yX2_worthOf, Cond.code yX2_worthOf cX2_worthOf 2 (some .int)]
def wsX3_canPledge_r2 : List Cond := [Cond.fieldLink RX2 18 "PluckBroker$Plan" "worths" "[I"]
def wsX3_canPledge : List Cond := .code yX3_canPledge cX3_canPledge 2 (some .boolean) :: ((wsX3_canPledge_r1 ++ wsX3_canPledge_r2) ++ wsX30 ++ wsX20)
def wsX3_canRedeem_r1 : List Cond := [Cond.fieldLink RX3 15 "PluckBroker$State" "plan" "LPluckBroker$Plan;", Cond.methodLink RX3 79 yX2_hasQuality, Cond.instanceMethod yX2_hasQuality, Cond.selects RX2 yX2_hasQuality yX2_hasQuality, Cond.initialized RX2, Cond.code yX2_hasQuality cX2_hasQuality 2 (some .boolean), Cond.fieldLink RX2 40 "PluckBroker$Plan" "qualities" "I", Cond.methodLink RX3 50 yX3_standingOf, Cond.instanceMethod yX3_standingOf, Cond.selects RX3 yX3_standingOf yX3_standingOf, Cond.initialized RX3, Cond.code yX3_standingOf cX3_standingOf 2 (some .int), Cond.fieldLink RX3 11 "PluckBroker$State" "cells" "[I", Cond.static yX5_cell, Cond.initialized RX5, Cond.code yX5_cell cX5_cell 2 (some .int), Cond.methodLink RX3 76 yX2_ownerOf, Cond.instanceMethod yX2_ownerOf, Cond.selects RX2 yX2_ownerOf yX2_ownerOf, Cond.code yX2_ownerOf cX2_ownerOf 2 (some .int), Cond.fieldLink RX2 15 "PluckBroker$Plan" "owners" "[I", Cond.methodLink RX3 44 yX3_purseOf, Cond.instanceMethod yX3_purseOf, Cond.selects RX3 yX3_purseOf yX3_purseOf]
def wsX3_canRedeem_r2 : List Cond := [Cond.code yX3_purseOf cX3_purseOf 2 (some .int), Cond.methodLink RX3 86 yX3_owedFor, Cond.instanceMethod yX3_owedFor, Cond.selects RX3 yX3_owedFor yX3_owedFor, Cond.code yX3_owedFor cX3_owedFor 2 (some .int), Cond.methodLink RX3 59 yX2_kindOf, Cond.instanceMethod yX2_kindOf, Cond.selects RX2 yX2_kindOf yX2_kindOf, Cond.code yX2_kindOf cX2_kindOf 2 (some .int), Cond.fieldLink RX2 21 "PluckBroker$Plan" "kinds" "[I", Cond.methodLink RX3 62 yX2_worthOf, Cond.instanceMethod yX2_worthOf, Cond.selects RX2 yX2_worthOf yX2_worthOf, Cond.code yX2_worthOf cX2_worthOf 2 (some .int), Cond.fieldLink RX2 18 "PluckBroker$Plan" "worths" "[I", Cond.methodLink RX3 65 yX3_today, Cond.instanceMethod yX3_today, Cond.selects RX3 yX3_today yX3_today, Cond.code yX3_today cX3_today 1 (some .int), Cond.methodLink RX3 69 yX3_pledgedOn, Cond.instanceMethod yX3_pledgedOn, Cond.selects RX3 yX3_pledgedOn yX3_pledgedOn, Cond.code yX3_pledgedOn cX3_pledgedOn 2 (some .int), Cond.static yX5_dueFor]
def wsX3_canRedeem_r3 : List Cond := [Cond.code yX5_dueFor cX5_dueFor 4 (some .int)]
def wsX3_canRedeem : List Cond := .code yX3_canRedeem cX3_canRedeem 2 (some .boolean) :: ((wsX3_canRedeem_r1 ++ (wsX3_canRedeem_r2 ++ wsX3_canRedeem_r3)) ++ wsX30 ++ wsX20)
def wsX3_pay : List Cond := .code yX3_pay cX3_pay 3 none :: ([.fieldLink RX3 11 "PluckBroker$State" "cells" "[I", .static yX5_cell, .initialized RX5, .code yX5_cell cX5_cell 2 (some .int), .static yX5_put, .code yX5_put cX5_put 3 none] ++ wsX30)
def wsX3_tryPledge_r1 : List Cond := [Cond.fieldLink RX3 15 "PluckBroker$State" "plan" "LPluckBroker$Plan;", Cond.fieldLink RX3 11 "PluckBroker$State" "cells" "[I", Cond.methodLink RX3 89 yX3_canPledge, Cond.instanceMethod yX3_canPledge, Cond.selects RX3 yX3_canPledge yX3_canPledge, Cond.initialized RX3, Cond.code yX3_canPledge cX3_canPledge 2 (some .boolean), Cond.methodLink RX3 79 yX2_hasQuality, Cond.instanceMethod yX2_hasQuality, Cond.selects RX2 yX2_hasQuality yX2_hasQuality, Cond.initialized RX2, Cond.code yX2_hasQuality cX2_hasQuality 2 (some .boolean), Cond.fieldLink RX2 40 "PluckBroker$Plan" "qualities" "I", Cond.methodLink RX3 50 yX3_standingOf, Cond.instanceMethod yX3_standingOf, Cond.selects RX3 yX3_standingOf yX3_standingOf, Cond.code yX3_standingOf cX3_standingOf 2 (some .int), Cond.static yX5_cell, Cond.initialized RX5, Cond.code yX5_cell cX5_cell 2 (some .int), Cond.methodLink RX3 83 yX3_inTill, Cond.instanceMethod yX3_inTill, Cond.selects RX3 yX3_inTill yX3_inTill, Cond.code yX3_inTill cX3_inTill 1 (some .int)]
def wsX3_tryPledge_r2 : List Cond := [Cond.methodLink RX3 62 yX2_worthOf, Cond.instanceMethod yX2_worthOf, Cond.selects RX2 yX2_worthOf yX2_worthOf, Cond.code yX2_worthOf cX2_worthOf 2 (some .int), Cond.fieldLink RX2 18 "PluckBroker$Plan" "worths" "[I", Cond.methodLink RX3 76 yX2_ownerOf, Cond.instanceMethod yX2_ownerOf, Cond.selects RX2 yX2_ownerOf yX2_ownerOf, Cond.code yX2_ownerOf cX2_ownerOf 2 (some .int), Cond.fieldLink RX2 15 "PluckBroker$Plan" "owners" "[I", Cond.methodLink RX3 92 yX3_pay, Cond.instanceMethod yX3_pay, Cond.selects RX3 yX3_pay yX3_pay, Cond.code yX3_pay cX3_pay 3 none, Cond.static yX5_put, Cond.code yX5_put cX5_put 3 none, Cond.methodLink RX3 65 yX3_today, Cond.instanceMethod yX3_today, Cond.selects RX3 yX3_today yX3_today, Cond.code yX3_today cX3_today 1 (some .int)]
def wsX3_tryPledge : List Cond := .code yX3_tryPledge cX3_tryPledge 2 (some .boolean) :: ((wsX3_tryPledge_r1 ++ wsX3_tryPledge_r2) ++ wsX30 ++ wsX20)
def wsX3_tryRedeem_r1 : List Cond := [Cond.fieldLink RX3 15 "PluckBroker$State" "plan" "LPluckBroker$Plan;", Cond.fieldLink RX3 11 "PluckBroker$State" "cells" "[I", Cond.methodLink RX3 96 yX3_canRedeem, Cond.instanceMethod yX3_canRedeem, Cond.selects RX3 yX3_canRedeem yX3_canRedeem, Cond.initialized RX3, Cond.code yX3_canRedeem cX3_canRedeem 2 (some .boolean), Cond.methodLink RX3 79 yX2_hasQuality, Cond.instanceMethod yX2_hasQuality, Cond.selects RX2 yX2_hasQuality yX2_hasQuality, Cond.initialized RX2, Cond.code yX2_hasQuality cX2_hasQuality 2 (some .boolean), Cond.fieldLink RX2 40 "PluckBroker$Plan" "qualities" "I", Cond.methodLink RX3 50 yX3_standingOf, Cond.instanceMethod yX3_standingOf, Cond.selects RX3 yX3_standingOf yX3_standingOf, Cond.code yX3_standingOf cX3_standingOf 2 (some .int), Cond.static yX5_cell, Cond.initialized RX5, Cond.code yX5_cell cX5_cell 2 (some .int), Cond.methodLink RX3 76 yX2_ownerOf, Cond.instanceMethod yX2_ownerOf, Cond.selects RX2 yX2_ownerOf yX2_ownerOf, Cond.code yX2_ownerOf cX2_ownerOf 2 (some .int)]
def wsX3_tryRedeem_r2 : List Cond := [Cond.fieldLink RX2 15 "PluckBroker$Plan" "owners" "[I", Cond.methodLink RX3 44 yX3_purseOf, Cond.instanceMethod yX3_purseOf, Cond.selects RX3 yX3_purseOf yX3_purseOf, Cond.code yX3_purseOf cX3_purseOf 2 (some .int), Cond.methodLink RX3 86 yX3_owedFor, Cond.instanceMethod yX3_owedFor, Cond.selects RX3 yX3_owedFor yX3_owedFor, Cond.code yX3_owedFor cX3_owedFor 2 (some .int), Cond.methodLink RX3 59 yX2_kindOf, Cond.instanceMethod yX2_kindOf, Cond.selects RX2 yX2_kindOf yX2_kindOf, Cond.code yX2_kindOf cX2_kindOf 2 (some .int), Cond.fieldLink RX2 21 "PluckBroker$Plan" "kinds" "[I", Cond.methodLink RX3 62 yX2_worthOf, Cond.instanceMethod yX2_worthOf, Cond.selects RX2 yX2_worthOf yX2_worthOf, Cond.code yX2_worthOf cX2_worthOf 2 (some .int), Cond.fieldLink RX2 18 "PluckBroker$Plan" "worths" "[I", Cond.methodLink RX3 65 yX3_today, Cond.instanceMethod yX3_today, Cond.selects RX3 yX3_today yX3_today, Cond.code yX3_today cX3_today 1 (some .int), Cond.methodLink RX3 69 yX3_pledgedOn]
def wsX3_tryRedeem_r3 : List Cond := [Cond.instanceMethod yX3_pledgedOn, Cond.selects RX3 yX3_pledgedOn yX3_pledgedOn, Cond.code yX3_pledgedOn cX3_pledgedOn 2 (some .int), Cond.static yX5_dueFor, Cond.code yX5_dueFor cX5_dueFor 4 (some .int), Cond.methodLink RX3 92 yX3_pay, Cond.instanceMethod yX3_pay, Cond.selects RX3 yX3_pay yX3_pay, Cond.code yX3_pay cX3_pay 3 none, Cond.static yX5_put, Cond.code yX5_put cX5_put 3 none, Cond.methodLink RX3 83 yX3_inTill, Cond.instanceMethod yX3_inTill, Cond.selects RX3 yX3_inTill yX3_inTill, Cond.code yX3_inTill cX3_inTill 1 (some .int)]
def wsX3_tryRedeem : List Cond := .code yX3_tryRedeem cX3_tryRedeem 3 (some .boolean) :: ((wsX3_tryRedeem_r1 ++ (wsX3_tryRedeem_r2 ++ wsX3_tryRedeem_r3)) ++ wsX30 ++ wsX20)
def wsX3_tryGive : List Cond := .code yX3_tryGive cX3_tryGive 3 (some .boolean) :: ([.fieldLink RX3 15 "PluckBroker$State" "plan" "LPluckBroker$Plan;", .methodLink RX3 99 yX2_hasPerson, .instanceMethod yX2_hasPerson, .selects RX2 yX2_hasPerson yX2_hasPerson, .initialized RX2, .code yX2_hasPerson cX2_hasPerson 2 (some .boolean), .fieldLink RX2 37 "PluckBroker$Plan" "persons" "I", .methodLink RX3 92 yX3_pay, .instanceMethod yX3_pay, .selects RX3 yX3_pay yX3_pay, .initialized RX3, .code yX3_pay cX3_pay 3 none, .fieldLink RX3 11 "PluckBroker$State" "cells" "[I", .static yX5_cell, .initialized RX5, .code yX5_cell cX5_cell 2 (some .int), .static yX5_put, .code yX5_put cX5_put 3 none] ++ wsX30 ++ wsX20)
def wsX3_tryDeed_r1 : List Cond := [Cond.fieldLink RX3 15 "PluckBroker$State" "plan" "LPluckBroker$Plan;", Cond.fieldLink RX3 11 "PluckBroker$State" "cells" "[I", Cond.methodLink RX3 111 yX2_wantedBy, Cond.instanceMethod yX2_wantedBy, Cond.selects RX2 yX2_wantedBy yX2_wantedBy, Cond.initialized RX2, Cond.code yX2_wantedBy cX2_wantedBy 2 (some .int), Cond.fieldLink RX2 24 "PluckBroker$Plan" "wanted" "[I", Cond.static yX5_cell, Cond.initialized RX5, Cond.code yX5_cell cX5_cell 2 (some .int), Cond.methodLink RX3 50 yX3_standingOf, Cond.instanceMethod yX3_standingOf, Cond.selects RX3 yX3_standingOf yX3_standingOf, Cond.initialized RX3, Cond.code yX3_standingOf cX3_standingOf 2 (some .int), Cond.static yX5_put, Cond.code yX5_put cX5_put 3 none, Cond.methodLink RX3 76 yX2_ownerOf, Cond.instanceMethod yX2_ownerOf, Cond.selects RX2 yX2_ownerOf yX2_ownerOf, Cond.code yX2_ownerOf cX2_ownerOf 2 (some .int), Cond.fieldLink RX2 15 "PluckBroker$Plan" "owners" "[I", Cond.methodLink RX3 114 yX2_rewardOf]
def wsX3_tryDeed_r2 : List Cond := [Cond.instanceMethod yX2_rewardOf, Cond.selects RX2 yX2_rewardOf yX2_rewardOf, Cond.code yX2_rewardOf cX2_rewardOf 2 (some .int), Cond.fieldLink RX2 30 "PluckBroker$Plan" "rewards" "[I", Cond.methodLink RX3 92 yX3_pay, Cond.instanceMethod yX3_pay, Cond.selects RX3 yX3_pay yX3_pay, Cond.code yX3_pay cX3_pay 3 none]
def wsX3_tryDeed : List Cond := .code yX3_tryDeed cX3_tryDeed 3 (some .boolean) :: ((wsX3_tryDeed_r1 ++ wsX3_tryDeed_r2) ++ wsX30 ++ wsX20)
def wsX3_sellOverdue_r1 : List Cond := [Cond.fieldLink RX3 15 "PluckBroker$State" "plan" "LPluckBroker$Plan;", Cond.fieldLink RX3 11 "PluckBroker$State" "cells" "[I", Cond.methodLink RX3 50 yX3_standingOf, Cond.instanceMethod yX3_standingOf, Cond.selects RX3 yX3_standingOf yX3_standingOf, Cond.initialized RX3, Cond.code yX3_standingOf cX3_standingOf 2 (some .int), Cond.static yX5_cell, Cond.initialized RX5, Cond.code yX5_cell cX5_cell 2 (some .int), Cond.methodLink RX3 65 yX3_today, Cond.instanceMethod yX3_today, Cond.selects RX3 yX3_today yX3_today, Cond.code yX3_today cX3_today 1 (some .int), Cond.methodLink RX3 69 yX3_pledgedOn, Cond.instanceMethod yX3_pledgedOn, Cond.selects RX3 yX3_pledgedOn yX3_pledgedOn, Cond.code yX3_pledgedOn cX3_pledgedOn 2 (some .int), Cond.methodLink RX3 59 yX2_kindOf, Cond.instanceMethod yX2_kindOf, Cond.selects RX2 yX2_kindOf yX2_kindOf, Cond.initialized RX2, Cond.code yX2_kindOf cX2_kindOf 2 (some .int), Cond.fieldLink RX2 21 "PluckBroker$Plan" "kinds" "[I"]
def wsX3_sellOverdue_r2 : List Cond := [Cond.static yX5_put, Cond.code yX5_put cX5_put 3 none]
def wsX3_sellOverdue : List Cond := .code yX3_sellOverdue cX3_sellOverdue 3 none :: ((wsX3_sellOverdue_r1 ++ wsX3_sellOverdue_r2) ++ wsX30 ++ wsX20)
def wsX3_passDay_r1 : List Cond := [Cond.fieldLink RX3 15 "PluckBroker$State" "plan" "LPluckBroker$Plan;", Cond.fieldLink RX3 11 "PluckBroker$State" "cells" "[I", Cond.methodLink RX3 102 yX2_dayOf, Cond.instanceMethod yX2_dayOf, Cond.selects RX2 yX2_dayOf yX2_dayOf, Cond.initialized RX2, Cond.code yX2_dayOf cX2_dayOf 2 (some .int), Cond.fieldLink RX2 27 "PluckBroker$Plan" "onDays" "[I", Cond.static yX5_cell, Cond.initialized RX5, Cond.code yX5_cell cX5_cell 2 (some .int), Cond.methodLink RX3 65 yX3_today, Cond.instanceMethod yX3_today, Cond.selects RX3 yX3_today yX3_today, Cond.initialized RX3, Cond.code yX3_today cX3_today 1 (some .int), Cond.methodLink RX3 105 yX3_tryDeed, Cond.instanceMethod yX3_tryDeed, Cond.selects RX3 yX3_tryDeed yX3_tryDeed, Cond.code yX3_tryDeed cX3_tryDeed 3 (some .boolean), Cond.methodLink RX3 111 yX2_wantedBy, Cond.instanceMethod yX2_wantedBy, Cond.selects RX2 yX2_wantedBy yX2_wantedBy, Cond.code yX2_wantedBy cX2_wantedBy 2 (some .int)]
def wsX3_passDay_r2 : List Cond := [Cond.fieldLink RX2 24 "PluckBroker$Plan" "wanted" "[I", Cond.methodLink RX3 50 yX3_standingOf, Cond.instanceMethod yX3_standingOf, Cond.selects RX3 yX3_standingOf yX3_standingOf, Cond.code yX3_standingOf cX3_standingOf 2 (some .int), Cond.static yX5_put, Cond.code yX5_put cX5_put 3 none, Cond.methodLink RX3 76 yX2_ownerOf, Cond.instanceMethod yX2_ownerOf, Cond.selects RX2 yX2_ownerOf yX2_ownerOf, Cond.code yX2_ownerOf cX2_ownerOf 2 (some .int), Cond.fieldLink RX2 15 "PluckBroker$Plan" "owners" "[I", Cond.methodLink RX3 114 yX2_rewardOf, Cond.instanceMethod yX2_rewardOf, Cond.selects RX2 yX2_rewardOf yX2_rewardOf, Cond.code yX2_rewardOf cX2_rewardOf 2 (some .int), Cond.fieldLink RX2 30 "PluckBroker$Plan" "rewards" "[I", Cond.methodLink RX3 92 yX3_pay, Cond.instanceMethod yX3_pay, Cond.selects RX3 yX3_pay yX3_pay, Cond.code yX3_pay cX3_pay 3 none, Cond.methodLink RX3 108 yX3_sellOverdue, Cond.instanceMethod yX3_sellOverdue, Cond.selects RX3 yX3_sellOverdue yX3_sellOverdue]
def wsX3_passDay_r3 : List Cond := [Cond.code yX3_sellOverdue cX3_sellOverdue 3 none, Cond.methodLink RX3 69 yX3_pledgedOn, Cond.instanceMethod yX3_pledgedOn, Cond.selects RX3 yX3_pledgedOn yX3_pledgedOn, Cond.code yX3_pledgedOn cX3_pledgedOn 2 (some .int), Cond.methodLink RX3 59 yX2_kindOf, Cond.instanceMethod yX2_kindOf, Cond.selects RX2 yX2_kindOf yX2_kindOf, Cond.code yX2_kindOf cX2_kindOf 2 (some .int), Cond.fieldLink RX2 21 "PluckBroker$Plan" "kinds" "[I"]
def wsX3_passDay : List Cond := .code yX3_passDay cX3_passDay 3 (some .int) :: ((wsX3_passDay_r1 ++ (wsX3_passDay_r2 ++ wsX3_passDay_r3)) ++ wsX30 ++ wsX20)
def wsX3_deedsInTheEnd_r1 : List Cond := [Cond.methodLink RX3 117 yX3_passDay, Cond.instanceMethod yX3_passDay, Cond.selects RX3 yX3_passDay yX3_passDay, Cond.initialized RX3, Cond.code yX3_passDay cX3_passDay 3 (some .int), Cond.fieldLink RX3 15 "PluckBroker$State" "plan" "LPluckBroker$Plan;", Cond.fieldLink RX3 11 "PluckBroker$State" "cells" "[I", Cond.methodLink RX3 102 yX2_dayOf, Cond.instanceMethod yX2_dayOf, Cond.selects RX2 yX2_dayOf yX2_dayOf, Cond.initialized RX2, Cond.code yX2_dayOf cX2_dayOf 2 (some .int), Cond.fieldLink RX2 27 "PluckBroker$Plan" "onDays" "[I", Cond.static yX5_cell, Cond.initialized RX5, Cond.code yX5_cell cX5_cell 2 (some .int), Cond.methodLink RX3 65 yX3_today, Cond.instanceMethod yX3_today, Cond.selects RX3 yX3_today yX3_today, Cond.code yX3_today cX3_today 1 (some .int), Cond.methodLink RX3 105 yX3_tryDeed, Cond.instanceMethod yX3_tryDeed, Cond.selects RX3 yX3_tryDeed yX3_tryDeed, Cond.code yX3_tryDeed cX3_tryDeed 3 (some .boolean)]
def wsX3_deedsInTheEnd_r2 : List Cond := [Cond.methodLink RX3 111 yX2_wantedBy, Cond.instanceMethod yX2_wantedBy, Cond.selects RX2 yX2_wantedBy yX2_wantedBy, Cond.code yX2_wantedBy cX2_wantedBy 2 (some .int), Cond.fieldLink RX2 24 "PluckBroker$Plan" "wanted" "[I", Cond.methodLink RX3 50 yX3_standingOf, Cond.instanceMethod yX3_standingOf, Cond.selects RX3 yX3_standingOf yX3_standingOf, Cond.code yX3_standingOf cX3_standingOf 2 (some .int), Cond.static yX5_put, Cond.code yX5_put cX5_put 3 none, Cond.methodLink RX3 76 yX2_ownerOf, Cond.instanceMethod yX2_ownerOf, Cond.selects RX2 yX2_ownerOf yX2_ownerOf, Cond.code yX2_ownerOf cX2_ownerOf 2 (some .int), Cond.fieldLink RX2 15 "PluckBroker$Plan" "owners" "[I", Cond.methodLink RX3 114 yX2_rewardOf, Cond.instanceMethod yX2_rewardOf, Cond.selects RX2 yX2_rewardOf yX2_rewardOf, Cond.code yX2_rewardOf cX2_rewardOf 2 (some .int), Cond.fieldLink RX2 30 "PluckBroker$Plan" "rewards" "[I", Cond.methodLink RX3 92 yX3_pay, Cond.instanceMethod yX3_pay, Cond.selects RX3 yX3_pay yX3_pay]
def wsX3_deedsInTheEnd_r3 : List Cond := [Cond.code yX3_pay cX3_pay 3 none, Cond.methodLink RX3 108 yX3_sellOverdue, Cond.instanceMethod yX3_sellOverdue, Cond.selects RX3 yX3_sellOverdue yX3_sellOverdue, Cond.code yX3_sellOverdue cX3_sellOverdue 3 none, Cond.methodLink RX3 69 yX3_pledgedOn, Cond.instanceMethod yX3_pledgedOn, Cond.selects RX3 yX3_pledgedOn yX3_pledgedOn, Cond.code yX3_pledgedOn cX3_pledgedOn 2 (some .int), Cond.methodLink RX3 59 yX2_kindOf, Cond.instanceMethod yX2_kindOf, Cond.selects RX2 yX2_kindOf yX2_kindOf, Cond.code yX2_kindOf cX2_kindOf 2 (some .int), Cond.fieldLink RX2 21 "PluckBroker$Plan" "kinds" "[I", Cond.methodLink RX3 120 yX3_deedsThatAre, Cond.instanceMethod yX3_deedsThatAre, Cond.selects RX3 yX3_deedsThatAre yX3_deedsThatAre, Cond.code yX3_deedsThatAre cX3_deedsThatAre 4 (some .int), Cond.methodLink RX3 56 yX3_outcomeOf, Cond.instanceMethod yX3_outcomeOf, Cond.selects RX3 yX3_outcomeOf yX3_outcomeOf, Cond.code yX3_outcomeOf cX3_outcomeOf 2 (some .int)]
def wsX3_deedsInTheEnd : List Cond := .code yX3_deedsInTheEnd cX3_deedsInTheEnd 2 (some .int) :: ((wsX3_deedsInTheEnd_r1 ++ (wsX3_deedsInTheEnd_r2 ++ wsX3_deedsInTheEnd_r3)) ++ wsX30 ++ wsX20)
def wsX3_sellAllBut : List Cond := .code yX3_sellAllBut cX3_sellAllBut 3 none :: ([.fieldLink RX3 15 "PluckBroker$State" "plan" "LPluckBroker$Plan;", .fieldLink RX3 11 "PluckBroker$State" "cells" "[I", .static yX5_put, .initialized RX5, .code yX5_put cX5_put 3 none] ++ wsX30 ++ wsX20)
def wsX3_settle : List Cond := .code yX3_settle cX3_settle 3 none :: ([.fieldLink RX3 15 "PluckBroker$State" "plan" "LPluckBroker$Plan;", .fieldLink RX3 11 "PluckBroker$State" "cells" "[I", .methodLink RX3 50 yX3_standingOf, .instanceMethod yX3_standingOf, .selects RX3 yX3_standingOf yX3_standingOf, .initialized RX3, .code yX3_standingOf cX3_standingOf 2 (some .int), .static yX5_cell, .initialized RX5, .code yX5_cell cX5_cell 2 (some .int), .static yX5_put, .code yX5_put cX5_put 3 none] ++ wsX30 ++ wsX20)
def wsX3_goesThrough_r1 : List Cond := [Cond.fieldLink RX3 15 "PluckBroker$State" "plan" "LPluckBroker$Plan;", Cond.methodLink RX3 123 yX3_tryGive, Cond.instanceMethod yX3_tryGive, Cond.selects RX3 yX3_tryGive yX3_tryGive, Cond.initialized RX3, Cond.code yX3_tryGive cX3_tryGive 3 (some .boolean), Cond.methodLink RX3 99 yX2_hasPerson, Cond.instanceMethod yX2_hasPerson, Cond.selects RX2 yX2_hasPerson yX2_hasPerson, Cond.initialized RX2, Cond.code yX2_hasPerson cX2_hasPerson 2 (some .boolean), Cond.fieldLink RX2 37 "PluckBroker$Plan" "persons" "I", Cond.methodLink RX3 92 yX3_pay, Cond.instanceMethod yX3_pay, Cond.selects RX3 yX3_pay yX3_pay, Cond.code yX3_pay cX3_pay 3 none, Cond.fieldLink RX3 11 "PluckBroker$State" "cells" "[I", Cond.static yX5_cell, Cond.initialized RX5, Cond.code yX5_cell cX5_cell 2 (some .int), Cond.static yX5_put, Cond.code yX5_put cX5_put 3 none, Cond.methodLink RX3 44 yX3_purseOf, Cond.instanceMethod yX3_purseOf]
def wsX3_goesThrough_r2 : List Cond := [Cond.selects RX3 yX3_purseOf yX3_purseOf, Cond.code yX3_purseOf cX3_purseOf 2 (some .int), Cond.methodLink RX3 117 yX3_passDay, Cond.instanceMethod yX3_passDay, Cond.selects RX3 yX3_passDay yX3_passDay, Cond.code yX3_passDay cX3_passDay 3 (some .int), Cond.methodLink RX3 102 yX2_dayOf, Cond.instanceMethod yX2_dayOf, Cond.selects RX2 yX2_dayOf yX2_dayOf, Cond.code yX2_dayOf cX2_dayOf 2 (some .int), Cond.fieldLink RX2 27 "PluckBroker$Plan" "onDays" "[I", Cond.methodLink RX3 65 yX3_today, Cond.instanceMethod yX3_today, Cond.selects RX3 yX3_today yX3_today, Cond.code yX3_today cX3_today 1 (some .int), Cond.methodLink RX3 105 yX3_tryDeed, Cond.instanceMethod yX3_tryDeed, Cond.selects RX3 yX3_tryDeed yX3_tryDeed, Cond.code yX3_tryDeed cX3_tryDeed 3 (some .boolean), Cond.methodLink RX3 111 yX2_wantedBy, Cond.instanceMethod yX2_wantedBy, Cond.selects RX2 yX2_wantedBy yX2_wantedBy, Cond.code yX2_wantedBy cX2_wantedBy 2 (some .int), Cond.fieldLink RX2 24 "PluckBroker$Plan" "wanted" "[I"]
def wsX3_goesThrough_r3 : List Cond := [Cond.methodLink RX3 50 yX3_standingOf, Cond.instanceMethod yX3_standingOf, Cond.selects RX3 yX3_standingOf yX3_standingOf, Cond.code yX3_standingOf cX3_standingOf 2 (some .int), Cond.methodLink RX3 76 yX2_ownerOf, Cond.instanceMethod yX2_ownerOf, Cond.selects RX2 yX2_ownerOf yX2_ownerOf, Cond.code yX2_ownerOf cX2_ownerOf 2 (some .int), Cond.fieldLink RX2 15 "PluckBroker$Plan" "owners" "[I", Cond.methodLink RX3 114 yX2_rewardOf, Cond.instanceMethod yX2_rewardOf, Cond.selects RX2 yX2_rewardOf yX2_rewardOf, Cond.code yX2_rewardOf cX2_rewardOf 2 (some .int), Cond.fieldLink RX2 30 "PluckBroker$Plan" "rewards" "[I", Cond.methodLink RX3 108 yX3_sellOverdue, Cond.instanceMethod yX3_sellOverdue, Cond.selects RX3 yX3_sellOverdue yX3_sellOverdue, Cond.code yX3_sellOverdue cX3_sellOverdue 3 none, Cond.methodLink RX3 69 yX3_pledgedOn, Cond.instanceMethod yX3_pledgedOn, Cond.selects RX3 yX3_pledgedOn yX3_pledgedOn, Cond.code yX3_pledgedOn cX3_pledgedOn 2 (some .int), Cond.methodLink RX3 59 yX2_kindOf, Cond.instanceMethod yX2_kindOf]
def wsX3_goesThrough_r4 : List Cond := [Cond.selects RX2 yX2_kindOf yX2_kindOf, Cond.code yX2_kindOf cX2_kindOf 2 (some .int), Cond.fieldLink RX2 21 "PluckBroker$Plan" "kinds" "[I", Cond.methodLink RX3 127 yX3_tryPledge, Cond.instanceMethod yX3_tryPledge, Cond.selects RX3 yX3_tryPledge yX3_tryPledge, Cond.code yX3_tryPledge cX3_tryPledge 2 (some .boolean), Cond.methodLink RX3 89 yX3_canPledge, Cond.instanceMethod yX3_canPledge, Cond.selects RX3 yX3_canPledge yX3_canPledge, Cond.code yX3_canPledge cX3_canPledge 2 (some .boolean), Cond.methodLink RX3 79 yX2_hasQuality, Cond.instanceMethod yX2_hasQuality, Cond.selects RX2 yX2_hasQuality yX2_hasQuality, Cond.code yX2_hasQuality cX2_hasQuality 2 (some .boolean), Cond.fieldLink RX2 40 "PluckBroker$Plan" "qualities" "I", Cond.methodLink RX3 83 yX3_inTill, Cond.instanceMethod yX3_inTill, Cond.selects RX3 yX3_inTill yX3_inTill, Cond.code yX3_inTill cX3_inTill 1 (some .int), Cond.methodLink RX3 62 yX2_worthOf, Cond.instanceMethod yX2_worthOf, Cond.selects RX2 yX2_worthOf yX2_worthOf, Cond.code yX2_worthOf cX2_worthOf 2 (some .int)]
def wsX3_goesThrough_r5 : List Cond := [Cond.fieldLink RX2 18 "PluckBroker$Plan" "worths" "[I", Cond.methodLink RX3 130 yX3_tryRedeem, Cond.instanceMethod yX3_tryRedeem, Cond.selects RX3 yX3_tryRedeem yX3_tryRedeem, Cond.code yX3_tryRedeem cX3_tryRedeem 3 (some .boolean), Cond.methodLink RX3 96 yX3_canRedeem, Cond.instanceMethod yX3_canRedeem, Cond.selects RX3 yX3_canRedeem yX3_canRedeem, Cond.code yX3_canRedeem cX3_canRedeem 2 (some .boolean), Cond.methodLink RX3 86 yX3_owedFor, Cond.instanceMethod yX3_owedFor, Cond.selects RX3 yX3_owedFor yX3_owedFor, Cond.code yX3_owedFor cX3_owedFor 2 (some .int), Cond.static yX5_dueFor, Cond.code yX5_dueFor cX5_dueFor 4 (some .int), Cond.methodLink RX3 133 yX2_hasDeed, Cond.instanceMethod yX2_hasDeed, Cond.selects RX2 yX2_hasDeed yX2_hasDeed, Cond.code yX2_hasDeed cX2_hasDeed 2 (some .boolean), Cond.fieldLink RX2 43 "PluckBroker$Plan" "deeds" "I", Cond.methodLink RX3 56 yX3_outcomeOf, Cond.instanceMethod yX3_outcomeOf, Cond.selects RX3 yX3_outcomeOf yX3_outcomeOf, Cond.code yX3_outcomeOf cX3_outcomeOf 2 (some .int)]
def wsX3_goesThrough : List Cond := .code yX3_goesThrough cX3_goesThrough 4 (some .boolean) :: ((wsX3_goesThrough_r1 ++ (wsX3_goesThrough_r2 ++ (wsX3_goesThrough_r3 ++ (wsX3_goesThrough_r4 ++ wsX3_goesThrough_r5)))) ++ wsX30 ++ wsX20)
def wsX3_chances_r1 : List Cond := [Cond.methodLink RX3 127 yX3_tryPledge, Cond.instanceMethod yX3_tryPledge, Cond.selects RX3 yX3_tryPledge yX3_tryPledge, Cond.initialized RX3, Cond.code yX3_tryPledge cX3_tryPledge 2 (some .boolean), Cond.fieldLink RX3 15 "PluckBroker$State" "plan" "LPluckBroker$Plan;", Cond.fieldLink RX3 11 "PluckBroker$State" "cells" "[I", Cond.methodLink RX3 89 yX3_canPledge, Cond.instanceMethod yX3_canPledge, Cond.selects RX3 yX3_canPledge yX3_canPledge, Cond.code yX3_canPledge cX3_canPledge 2 (some .boolean), Cond.methodLink RX3 79 yX2_hasQuality, Cond.instanceMethod yX2_hasQuality, Cond.selects RX2 yX2_hasQuality yX2_hasQuality, Cond.initialized RX2, Cond.code yX2_hasQuality cX2_hasQuality 2 (some .boolean), Cond.fieldLink RX2 40 "PluckBroker$Plan" "qualities" "I", Cond.methodLink RX3 50 yX3_standingOf, Cond.instanceMethod yX3_standingOf, Cond.selects RX3 yX3_standingOf yX3_standingOf, Cond.code yX3_standingOf cX3_standingOf 2 (some .int), Cond.static yX5_cell, Cond.initialized RX5, Cond.code yX5_cell cX5_cell 2 (some .int)]
def wsX3_chances_r2 : List Cond := [Cond.methodLink RX3 83 yX3_inTill, Cond.instanceMethod yX3_inTill, Cond.selects RX3 yX3_inTill yX3_inTill, Cond.code yX3_inTill cX3_inTill 1 (some .int), Cond.methodLink RX3 62 yX2_worthOf, Cond.instanceMethod yX2_worthOf, Cond.selects RX2 yX2_worthOf yX2_worthOf, Cond.code yX2_worthOf cX2_worthOf 2 (some .int), Cond.fieldLink RX2 18 "PluckBroker$Plan" "worths" "[I", Cond.methodLink RX3 76 yX2_ownerOf, Cond.instanceMethod yX2_ownerOf, Cond.selects RX2 yX2_ownerOf yX2_ownerOf, Cond.code yX2_ownerOf cX2_ownerOf 2 (some .int), Cond.fieldLink RX2 15 "PluckBroker$Plan" "owners" "[I", Cond.methodLink RX3 92 yX3_pay, Cond.instanceMethod yX3_pay, Cond.selects RX3 yX3_pay yX3_pay, Cond.code yX3_pay cX3_pay 3 none, Cond.static yX5_put, Cond.code yX5_put cX5_put 3 none, Cond.methodLink RX3 65 yX3_today, Cond.instanceMethod yX3_today, Cond.selects RX3 yX3_today yX3_today, Cond.code yX3_today cX3_today 1 (some .int)]
def wsX3_chances_r3 : List Cond := [Cond.methodLink RX3 130 yX3_tryRedeem, Cond.instanceMethod yX3_tryRedeem, Cond.selects RX3 yX3_tryRedeem yX3_tryRedeem, Cond.code yX3_tryRedeem cX3_tryRedeem 3 (some .boolean), Cond.methodLink RX3 96 yX3_canRedeem, Cond.instanceMethod yX3_canRedeem, Cond.selects RX3 yX3_canRedeem yX3_canRedeem, Cond.code yX3_canRedeem cX3_canRedeem 2 (some .boolean), Cond.methodLink RX3 44 yX3_purseOf, Cond.instanceMethod yX3_purseOf, Cond.selects RX3 yX3_purseOf yX3_purseOf, Cond.code yX3_purseOf cX3_purseOf 2 (some .int), Cond.methodLink RX3 86 yX3_owedFor, Cond.instanceMethod yX3_owedFor, Cond.selects RX3 yX3_owedFor yX3_owedFor, Cond.code yX3_owedFor cX3_owedFor 2 (some .int), Cond.methodLink RX3 59 yX2_kindOf, Cond.instanceMethod yX2_kindOf, Cond.selects RX2 yX2_kindOf yX2_kindOf, Cond.code yX2_kindOf cX2_kindOf 2 (some .int), Cond.fieldLink RX2 21 "PluckBroker$Plan" "kinds" "[I", Cond.methodLink RX3 69 yX3_pledgedOn, Cond.instanceMethod yX3_pledgedOn, Cond.selects RX3 yX3_pledgedOn yX3_pledgedOn]
def wsX3_chances_r4 : List Cond := [Cond.code yX3_pledgedOn cX3_pledgedOn 2 (some .int), Cond.static yX5_dueFor, Cond.code yX5_dueFor cX5_dueFor 4 (some .int), Cond.methodLink RX3 123 yX3_tryGive, Cond.instanceMethod yX3_tryGive, Cond.selects RX3 yX3_tryGive yX3_tryGive, Cond.code yX3_tryGive cX3_tryGive 3 (some .boolean), Cond.methodLink RX3 99 yX2_hasPerson, Cond.instanceMethod yX2_hasPerson, Cond.selects RX2 yX2_hasPerson yX2_hasPerson, Cond.code yX2_hasPerson cX2_hasPerson 2 (some .boolean), Cond.fieldLink RX2 37 "PluckBroker$Plan" "persons" "I", Cond.methodLink RX3 117 yX3_passDay, Cond.instanceMethod yX3_passDay, Cond.selects RX3 yX3_passDay yX3_passDay, Cond.code yX3_passDay cX3_passDay 3 (some .int), Cond.methodLink RX3 102 yX2_dayOf, Cond.instanceMethod yX2_dayOf, Cond.selects RX2 yX2_dayOf yX2_dayOf, Cond.code yX2_dayOf cX2_dayOf 2 (some .int), Cond.fieldLink RX2 27 "PluckBroker$Plan" "onDays" "[I", Cond.methodLink RX3 105 yX3_tryDeed, Cond.instanceMethod yX3_tryDeed, Cond.selects RX3 yX3_tryDeed yX3_tryDeed]
def wsX3_chances_r5 : List Cond := [Cond.code yX3_tryDeed cX3_tryDeed 3 (some .boolean), Cond.methodLink RX3 111 yX2_wantedBy, Cond.instanceMethod yX2_wantedBy, Cond.selects RX2 yX2_wantedBy yX2_wantedBy, Cond.code yX2_wantedBy cX2_wantedBy 2 (some .int), Cond.fieldLink RX2 24 "PluckBroker$Plan" "wanted" "[I", Cond.methodLink RX3 114 yX2_rewardOf, Cond.instanceMethod yX2_rewardOf, Cond.selects RX2 yX2_rewardOf yX2_rewardOf, Cond.code yX2_rewardOf cX2_rewardOf 2 (some .int), Cond.fieldLink RX2 30 "PluckBroker$Plan" "rewards" "[I", Cond.methodLink RX3 108 yX3_sellOverdue, Cond.instanceMethod yX3_sellOverdue, Cond.selects RX3 yX3_sellOverdue yX3_sellOverdue, Cond.code yX3_sellOverdue cX3_sellOverdue 3 none]
def wsX3_chances : List Cond := .code yX3_chances cX3_chances 2 none :: ((wsX3_chances_r1 ++ (wsX3_chances_r2 ++ (wsX3_chances_r3 ++ (wsX3_chances_r4 ++ wsX3_chances_r5)))) ++ wsX30 ++ wsX20)
def wsX4_init : List Cond := .code yX4_init cX4_init 1 none :: ([.methodLink RX4 3 objectInit, .instanceMethod objectInit, .code objectInit ⟨#[0xb1]⟩ 1 none, .arrayClass .int, .fieldLink RX4 9 "PluckBroker$Text" "bytes" "[I"] ++ wsX40)
def wsX4_append : List Cond := .code yX4_append cX4_append 2 none :: ([.fieldLink RX4 9 "PluckBroker$Text" "bytes" "[I", .fieldLink RX4 15 "PluckBroker$Text" "length" "I", .static yX5_put, .initialized RX5, .code yX5_put cX5_put 3 none] ++ wsX40)
def wsX4_upcoming : List Cond := .code yX4_upcoming cX4_upcoming 1 (some .int) :: ([.fieldLink RX4 28 "PluckBroker$Text" "cursor" "I", .fieldLink RX4 15 "PluckBroker$Text" "length" "I", .fieldLink RX4 9 "PluckBroker$Text" "bytes" "[I", .static yX5_cell, .initialized RX5, .code yX5_cell cX5_cell 2 (some .int)] ++ wsX40)
def wsX4_figure : List Cond := .code yX4_figure cX4_figure 4 (some .int) :: ([.fieldLink RX4 28 "PluckBroker$Text" "cursor" "I", .methodLink RX4 31 yX4_upcoming, .instanceMethod yX4_upcoming, .selects RX4 yX4_upcoming yX4_upcoming, .initialized RX4, .code yX4_upcoming cX4_upcoming 1 (some .int), .fieldLink RX4 15 "PluckBroker$Text" "length" "I", .fieldLink RX4 9 "PluckBroker$Text" "bytes" "[I", .static yX5_cell, .initialized RX5, .code yX5_cell cX5_cell 2 (some .int)] ++ wsX40)
def wsX4_readPerson : List Cond := .code yX4_readPerson cX4_readPerson 3 (some .boolean) :: ([.methodLink RX4 35 yX4_figure, .instanceMethod yX4_figure, .selects RX4 yX4_figure yX4_figure, .initialized RX4, .code yX4_figure cX4_figure 4 (some .int), .fieldLink RX4 28 "PluckBroker$Text" "cursor" "I", .methodLink RX4 31 yX4_upcoming, .instanceMethod yX4_upcoming, .selects RX4 yX4_upcoming yX4_upcoming, .code yX4_upcoming cX4_upcoming 1 (some .int), .fieldLink RX4 15 "PluckBroker$Text" "length" "I", .fieldLink RX4 9 "PluckBroker$Text" "bytes" "[I", .static yX5_cell, .initialized RX5, .code yX5_cell cX5_cell 2 (some .int), .methodLink RX4 64 yX2_addPerson, .instanceMethod yX2_addPerson, .selects RX2 yX2_addPerson yX2_addPerson, .initialized RX2, .code yX2_addPerson cX2_addPerson 2 none, .fieldLink RX2 9 "PluckBroker$Plan" "purses" "[I", .fieldLink RX2 37 "PluckBroker$Plan" "persons" "I", .static yX5_put, .code yX5_put cX5_put 3 none] ++ wsX40 ++ wsX20)
def wsX4_readQuality_r1 : List Cond := [Cond.methodLink RX4 35 yX4_figure, Cond.instanceMethod yX4_figure, Cond.selects RX4 yX4_figure yX4_figure, Cond.initialized RX4, Cond.code yX4_figure cX4_figure 4 (some .int), Cond.fieldLink RX4 28 "PluckBroker$Text" "cursor" "I", Cond.methodLink RX4 31 yX4_upcoming, Cond.instanceMethod yX4_upcoming, Cond.selects RX4 yX4_upcoming yX4_upcoming, Cond.code yX4_upcoming cX4_upcoming 1 (some .int), Cond.fieldLink RX4 15 "PluckBroker$Text" "length" "I", Cond.fieldLink RX4 9 "PluckBroker$Text" "bytes" "[I", Cond.static yX5_cell, Cond.initialized RX5, Cond.code yX5_cell cX5_cell 2 (some .int), Cond.methodLink RX4 68 yX2_addQuality, Cond.instanceMethod yX2_addQuality, Cond.selects RX2 yX2_addQuality yX2_addQuality, Cond.initialized RX2, Cond.code yX2_addQuality cX2_addQuality 4 none, Cond.fieldLink RX2 15 "PluckBroker$Plan" "owners" "[I", Cond.fieldLink RX2 40 "PluckBroker$Plan" "qualities" "I", Cond.fieldLink RX2 18 "PluckBroker$Plan" "worths" "[I", Cond.fieldLink RX2 21 "PluckBroker$Plan" "kinds" "[I"]
def wsX4_readQuality_r2 : List Cond := [Cond.static yX5_put, Cond.code yX5_put cX5_put 3 none]
def wsX4_readQuality : List Cond := .code yX4_readQuality cX4_readQuality 5 (some .boolean) :: ((wsX4_readQuality_r1 ++ wsX4_readQuality_r2) ++ wsX20 ++ wsX40)
def wsX4_readDeed_r1 : List Cond := [Cond.methodLink RX4 35 yX4_figure, Cond.instanceMethod yX4_figure, Cond.selects RX4 yX4_figure yX4_figure, Cond.initialized RX4, Cond.code yX4_figure cX4_figure 4 (some .int), Cond.fieldLink RX4 28 "PluckBroker$Text" "cursor" "I", Cond.methodLink RX4 31 yX4_upcoming, Cond.instanceMethod yX4_upcoming, Cond.selects RX4 yX4_upcoming yX4_upcoming, Cond.code yX4_upcoming cX4_upcoming 1 (some .int), Cond.fieldLink RX4 15 "PluckBroker$Text" "length" "I", Cond.fieldLink RX4 9 "PluckBroker$Text" "bytes" "[I", Cond.static yX5_cell, Cond.initialized RX5, Cond.code yX5_cell cX5_cell 2 (some .int), Cond.methodLink RX4 72 yX2_addDeed, Cond.instanceMethod yX2_addDeed, Cond.selects RX2 yX2_addDeed yX2_addDeed, Cond.initialized RX2, Cond.code yX2_addDeed cX2_addDeed 4 none, Cond.fieldLink RX2 24 "PluckBroker$Plan" "wanted" "[I", Cond.fieldLink RX2 43 "PluckBroker$Plan" "deeds" "I", Cond.fieldLink RX2 27 "PluckBroker$Plan" "onDays" "[I", Cond.fieldLink RX2 30 "PluckBroker$Plan" "rewards" "[I"]
def wsX4_readDeed_r2 : List Cond := [Cond.static yX5_put, Cond.code yX5_put cX5_put 3 none]
def wsX4_readDeed : List Cond := .code yX4_readDeed cX4_readDeed 5 (some .boolean) :: ((wsX4_readDeed_r1 ++ wsX4_readDeed_r2) ++ wsX20 ++ wsX40)
def wsX4_readThing_r1 : List Cond := [Cond.fieldLink RX4 28 "PluckBroker$Text" "cursor" "I", Cond.methodLink RX4 31 yX4_upcoming, Cond.instanceMethod yX4_upcoming, Cond.selects RX4 yX4_upcoming yX4_upcoming, Cond.initialized RX4, Cond.code yX4_upcoming cX4_upcoming 1 (some .int), Cond.fieldLink RX4 15 "PluckBroker$Text" "length" "I", Cond.fieldLink RX4 9 "PluckBroker$Text" "bytes" "[I", Cond.static yX5_cell, Cond.initialized RX5, Cond.code yX5_cell cX5_cell 2 (some .int), Cond.methodLink RX4 49 yX4_readPerson, Cond.instanceMethod yX4_readPerson, Cond.selects RX4 yX4_readPerson yX4_readPerson, Cond.code yX4_readPerson cX4_readPerson 3 (some .boolean), Cond.methodLink RX4 35 yX4_figure, Cond.instanceMethod yX4_figure, Cond.selects RX4 yX4_figure yX4_figure, Cond.code yX4_figure cX4_figure 4 (some .int), Cond.methodLink RX4 64 yX2_addPerson, Cond.instanceMethod yX2_addPerson, Cond.selects RX2 yX2_addPerson yX2_addPerson, Cond.initialized RX2, Cond.code yX2_addPerson cX2_addPerson 2 none]
def wsX4_readThing_r2 : List Cond := [Cond.fieldLink RX2 9 "PluckBroker$Plan" "purses" "[I", Cond.fieldLink RX2 37 "PluckBroker$Plan" "persons" "I", Cond.static yX5_put, Cond.code yX5_put cX5_put 3 none, Cond.methodLink RX4 55 yX4_readQuality, Cond.instanceMethod yX4_readQuality, Cond.selects RX4 yX4_readQuality yX4_readQuality, Cond.code yX4_readQuality cX4_readQuality 5 (some .boolean), Cond.methodLink RX4 68 yX2_addQuality, Cond.instanceMethod yX2_addQuality, Cond.selects RX2 yX2_addQuality yX2_addQuality, Cond.code yX2_addQuality cX2_addQuality 4 none, Cond.fieldLink RX2 15 "PluckBroker$Plan" "owners" "[I", Cond.fieldLink RX2 40 "PluckBroker$Plan" "qualities" "I", Cond.fieldLink RX2 18 "PluckBroker$Plan" "worths" "[I", Cond.fieldLink RX2 21 "PluckBroker$Plan" "kinds" "[I", Cond.methodLink RX4 61 yX4_readDeed, Cond.instanceMethod yX4_readDeed, Cond.selects RX4 yX4_readDeed yX4_readDeed, Cond.code yX4_readDeed cX4_readDeed 5 (some .boolean), Cond.methodLink RX4 72 yX2_addDeed, Cond.instanceMethod yX2_addDeed, Cond.selects RX2 yX2_addDeed yX2_addDeed, Cond.code yX2_addDeed cX2_addDeed 4 none]
def wsX4_readThing_r3 : List Cond := [Cond.fieldLink RX2 24 "PluckBroker$Plan" "wanted" "[I", Cond.fieldLink RX2 43 "PluckBroker$Plan" "deeds" "I", Cond.fieldLink RX2 27 "PluckBroker$Plan" "onDays" "[I", Cond.fieldLink RX2 30 "PluckBroker$Plan" "rewards" "[I"]
def wsX4_readThing : List Cond := .code yX4_readThing cX4_readThing 3 (some .boolean) :: ((wsX4_readThing_r1 ++ (wsX4_readThing_r2 ++ wsX4_readThing_r3)) ++ wsX20 ++ wsX40)
def wsX4_readInto_r1 : List Cond := [Cond.fieldLink RX4 28 "PluckBroker$Text" "cursor" "I", Cond.fieldLink RX4 15 "PluckBroker$Text" "length" "I", Cond.methodLink RX4 23 yX2_clear, Cond.instanceMethod yX2_clear, Cond.selects RX2 yX2_clear yX2_clear, Cond.initialized RX2, Cond.code yX2_clear cX2_clear 1 none, Cond.fieldLink RX2 33 "PluckBroker$Plan" "tillFigure" "I", Cond.fieldLink RX2 37 "PluckBroker$Plan" "persons" "I", Cond.fieldLink RX2 40 "PluckBroker$Plan" "qualities" "I", Cond.fieldLink RX2 43 "PluckBroker$Plan" "deeds" "I", Cond.methodLink RX4 31 yX4_upcoming, Cond.instanceMethod yX4_upcoming, Cond.selects RX4 yX4_upcoming yX4_upcoming, Cond.initialized RX4, Cond.code yX4_upcoming cX4_upcoming 1 (some .int), Cond.fieldLink RX4 9 "PluckBroker$Text" "bytes" "[I", Cond.static yX5_cell, Cond.initialized RX5, Cond.code yX5_cell cX5_cell 2 (some .int), Cond.methodLink RX4 35 yX4_figure, Cond.instanceMethod yX4_figure, Cond.selects RX4 yX4_figure yX4_figure, Cond.code yX4_figure cX4_figure 4 (some .int)]
def wsX4_readInto_r2 : List Cond := [Cond.methodLink RX4 42 yX4_readThing, Cond.instanceMethod yX4_readThing, Cond.selects RX4 yX4_readThing yX4_readThing, Cond.code yX4_readThing cX4_readThing 3 (some .boolean), Cond.methodLink RX4 49 yX4_readPerson, Cond.instanceMethod yX4_readPerson, Cond.selects RX4 yX4_readPerson yX4_readPerson, Cond.code yX4_readPerson cX4_readPerson 3 (some .boolean), Cond.methodLink RX4 64 yX2_addPerson, Cond.instanceMethod yX2_addPerson, Cond.selects RX2 yX2_addPerson yX2_addPerson, Cond.code yX2_addPerson cX2_addPerson 2 none, Cond.fieldLink RX2 9 "PluckBroker$Plan" "purses" "[I", Cond.static yX5_put, Cond.code yX5_put cX5_put 3 none, Cond.methodLink RX4 55 yX4_readQuality, Cond.instanceMethod yX4_readQuality, Cond.selects RX4 yX4_readQuality yX4_readQuality, Cond.code yX4_readQuality cX4_readQuality 5 (some .boolean), Cond.methodLink RX4 68 yX2_addQuality, Cond.instanceMethod yX2_addQuality, Cond.selects RX2 yX2_addQuality yX2_addQuality, Cond.code yX2_addQuality cX2_addQuality 4 none, Cond.fieldLink RX2 15 "PluckBroker$Plan" "owners" "[I"]
def wsX4_readInto_r3 : List Cond := [Cond.fieldLink RX2 18 "PluckBroker$Plan" "worths" "[I", Cond.fieldLink RX2 21 "PluckBroker$Plan" "kinds" "[I", Cond.methodLink RX4 61 yX4_readDeed, Cond.instanceMethod yX4_readDeed, Cond.selects RX4 yX4_readDeed yX4_readDeed, Cond.code yX4_readDeed cX4_readDeed 5 (some .boolean), Cond.methodLink RX4 72 yX2_addDeed, Cond.instanceMethod yX2_addDeed, Cond.selects RX2 yX2_addDeed yX2_addDeed, Cond.code yX2_addDeed cX2_addDeed 4 none, Cond.fieldLink RX2 24 "PluckBroker$Plan" "wanted" "[I", Cond.fieldLink RX2 27 "PluckBroker$Plan" "onDays" "[I", Cond.fieldLink RX2 30 "PluckBroker$Plan" "rewards" "[I"]
def wsX4_readInto : List Cond := .code yX4_readInto cX4_readInto 4 (some .int) :: ((wsX4_readInto_r1 ++ (wsX4_readInto_r2 ++ wsX4_readInto_r3)) ++ wsX40 ++ wsX20)
def wsX5_init_r1 : List Cond := [Cond.methodLink RX5 3 objectInit, Cond.instanceMethod objectInit, Cond.code objectInit ⟨#[0xb1]⟩ 1 none, Cond.classLink RX5 9 RX4, Cond.instantiable RX4 3, Cond.initialized RX4, Cond.fieldLink RX5 12 "PluckBroker" "text" "LPluckBroker$Text;", Cond.classLink RX5 16 RX2, Cond.instantiable RX2 11, Cond.initialized RX2, Cond.fieldLink RX5 19 "PluckBroker" "plan" "LPluckBroker$Plan;", Cond.fieldLink RX5 23 "PluckBroker" "draft" "LPluckBroker$Plan;", Cond.classLink RX5 26 RX3, Cond.instantiable RX3 2, Cond.initialized RX3, Cond.fieldLink RX5 31 "PluckBroker" "now" "LPluckBroker$State;", Cond.fieldLink RX5 35 "PluckBroker" "ahead" "LPluckBroker$State;", Cond.classLink RX5 38 RX0, Cond.instantiable RX0 3, Cond.initialized RX0, Cond.fieldLink RX5 41 "PluckBroker" "acts" "LPluckBroker$Acts;", Cond.classLink RX5 45 RX1, Cond.instantiable RX1 3, Cond.initialized RX1]
def wsX5_init_r2 : List Cond := [Cond.fieldLink RX5 48 "PluckBroker" "asked" "LPluckBroker$Asked;", Cond.arrayClass .int, Cond.fieldLink RX5 52 "PluckBroker" "kept" "[I", Cond.instanceMethod yX4_init, Cond.code yX4_init cX4_init 1 none, Cond.methodLink RX4 3 objectInit, Cond.fieldLink RX4 9 "PluckBroker$Text" "bytes" "[I", Cond.instanceMethod yX2_init, Cond.code yX2_init cX2_init 1 none, Cond.methodLink RX2 3 objectInit, Cond.fieldLink RX2 9 "PluckBroker$Plan" "purses" "[I", Cond.fieldLink RX2 15 "PluckBroker$Plan" "owners" "[I", Cond.fieldLink RX2 18 "PluckBroker$Plan" "worths" "[I", Cond.fieldLink RX2 21 "PluckBroker$Plan" "kinds" "[I", Cond.fieldLink RX2 24 "PluckBroker$Plan" "wanted" "[I", Cond.fieldLink RX2 27 "PluckBroker$Plan" "onDays" "[I", Cond.fieldLink RX2 30 "PluckBroker$Plan" "rewards" "[I", Cond.methodLink RX5 28 yX3_init, Cond.instanceMethod yX3_init, Cond.code yX3_init cX3_init 2 none, Cond.methodLink RX3 5 objectInit, Cond.fieldLink RX3 11 "PluckBroker$State" "cells" "[I", Cond.fieldLink RX3 15 "PluckBroker$State" "plan" "LPluckBroker$Plan;", Cond.instanceMethod yX0_init]
def wsX5_init_r3 : List Cond := [Cond.code yX0_init cX0_init 1 none, Cond.methodLink RX0 3 objectInit, Cond.fieldLink RX0 11 "PluckBroker$Acts" "states" "[I", Cond.instanceMethod yX1_init, Cond.code yX1_init cX1_init 1 none, Cond.methodLink RX1 3 objectInit, Cond.fieldLink RX1 9 "PluckBroker$Asked" "days" "[I", Cond.fieldLink RX1 15 "PluckBroker$Asked" "dues" "[I"]
def wsX5_init : List Cond := .code yX5_init cX5_init 1 none :: ((wsX5_init_r1 ++ (wsX5_init_r2 ++ wsX5_init_r3)) ++ wsX40 ++ wsX50 ++ wsX20 ++ wsX30 ++ wsX00 ++ wsX10)
def wsX5_write : List Cond := .code yX5_write cX5_write 2 (some .int) :: ([.fieldLink RX5 12 "PluckBroker" "text" "LPluckBroker$Text;", .methodLink RX5 60 yX4_append, .instanceMethod yX4_append, .selects RX4 yX4_append yX4_append, .initialized RX4, .code yX4_append cX4_append 2 none, .fieldLink RX4 9 "PluckBroker$Text" "bytes" "[I", .fieldLink RX4 15 "PluckBroker$Text" "length" "I", .static yX5_put, .initialized RX5, .code yX5_put cX5_put 3 none] ++ wsX50 ++ wsX40)
def wsX5_wipe : List Cond := .code yX5_wipe cX5_wipe 2 (some .int) :: ([.fieldLink RX5 12 "PluckBroker" "text" "LPluckBroker$Text;"] ++ wsX50 ++ wsX40)
def wsX5_fault_r1 : List Cond := [Cond.fieldLink RX5 12 "PluckBroker" "text" "LPluckBroker$Text;", Cond.fieldLink RX5 23 "PluckBroker" "draft" "LPluckBroker$Plan;", Cond.methodLink RX5 64 yX4_readInto, Cond.instanceMethod yX4_readInto, Cond.selects RX4 yX4_readInto yX4_readInto, Cond.initialized RX4, Cond.code yX4_readInto cX4_readInto 4 (some .int), Cond.fieldLink RX4 28 "PluckBroker$Text" "cursor" "I", Cond.fieldLink RX4 15 "PluckBroker$Text" "length" "I", Cond.methodLink RX4 23 yX2_clear, Cond.instanceMethod yX2_clear, Cond.selects RX2 yX2_clear yX2_clear, Cond.initialized RX2, Cond.code yX2_clear cX2_clear 1 none, Cond.fieldLink RX2 33 "PluckBroker$Plan" "tillFigure" "I", Cond.fieldLink RX2 37 "PluckBroker$Plan" "persons" "I", Cond.fieldLink RX2 40 "PluckBroker$Plan" "qualities" "I", Cond.fieldLink RX2 43 "PluckBroker$Plan" "deeds" "I", Cond.methodLink RX4 31 yX4_upcoming, Cond.instanceMethod yX4_upcoming, Cond.selects RX4 yX4_upcoming yX4_upcoming, Cond.code yX4_upcoming cX4_upcoming 1 (some .int), Cond.fieldLink RX4 9 "PluckBroker$Text" "bytes" "[I", Cond.static yX5_cell]
def wsX5_fault_r2 : List Cond := [Cond.initialized RX5, Cond.code yX5_cell cX5_cell 2 (some .int), Cond.methodLink RX4 35 yX4_figure, Cond.instanceMethod yX4_figure, Cond.selects RX4 yX4_figure yX4_figure, Cond.code yX4_figure cX4_figure 4 (some .int), Cond.methodLink RX4 42 yX4_readThing, Cond.instanceMethod yX4_readThing, Cond.selects RX4 yX4_readThing yX4_readThing, Cond.code yX4_readThing cX4_readThing 3 (some .boolean), Cond.methodLink RX4 49 yX4_readPerson, Cond.instanceMethod yX4_readPerson, Cond.selects RX4 yX4_readPerson yX4_readPerson, Cond.code yX4_readPerson cX4_readPerson 3 (some .boolean), Cond.methodLink RX4 64 yX2_addPerson, Cond.instanceMethod yX2_addPerson, Cond.selects RX2 yX2_addPerson yX2_addPerson, Cond.code yX2_addPerson cX2_addPerson 2 none, Cond.fieldLink RX2 9 "PluckBroker$Plan" "purses" "[I", Cond.static yX5_put, Cond.code yX5_put cX5_put 3 none, Cond.methodLink RX4 55 yX4_readQuality, Cond.instanceMethod yX4_readQuality, Cond.selects RX4 yX4_readQuality yX4_readQuality]
def wsX5_fault_r3 : List Cond := [Cond.code yX4_readQuality cX4_readQuality 5 (some .boolean), Cond.methodLink RX4 68 yX2_addQuality, Cond.instanceMethod yX2_addQuality, Cond.selects RX2 yX2_addQuality yX2_addQuality, Cond.code yX2_addQuality cX2_addQuality 4 none, Cond.fieldLink RX2 15 "PluckBroker$Plan" "owners" "[I", Cond.fieldLink RX2 18 "PluckBroker$Plan" "worths" "[I", Cond.fieldLink RX2 21 "PluckBroker$Plan" "kinds" "[I", Cond.methodLink RX4 61 yX4_readDeed, Cond.instanceMethod yX4_readDeed, Cond.selects RX4 yX4_readDeed yX4_readDeed, Cond.code yX4_readDeed cX4_readDeed 5 (some .boolean), Cond.methodLink RX4 72 yX2_addDeed, Cond.instanceMethod yX2_addDeed, Cond.selects RX2 yX2_addDeed yX2_addDeed, Cond.code yX2_addDeed cX2_addDeed 4 none, Cond.fieldLink RX2 24 "PluckBroker$Plan" "wanted" "[I", Cond.fieldLink RX2 27 "PluckBroker$Plan" "onDays" "[I", Cond.fieldLink RX2 30 "PluckBroker$Plan" "rewards" "[I"]
def wsX5_fault : List Cond := .code yX5_fault cX5_fault 1 (some .int) :: ((wsX5_fault_r1 ++ (wsX5_fault_r2 ++ wsX5_fault_r3)) ++ wsX50 ++ wsX40 ++ wsX20)
def wsX5_shop_r1 : List Cond := [Cond.fieldLink RX5 12 "PluckBroker" "text" "LPluckBroker$Text;", Cond.fieldLink RX5 23 "PluckBroker" "draft" "LPluckBroker$Plan;", Cond.fieldLink RX5 19 "PluckBroker" "plan" "LPluckBroker$Plan;", Cond.fieldLink RX5 31 "PluckBroker" "now" "LPluckBroker$State;", Cond.fieldLink RX5 41 "PluckBroker" "acts" "LPluckBroker$Acts;", Cond.fieldLink RX5 74 "PluckBroker" "keptSlots" "I", Cond.methodLink RX5 64 yX4_readInto, Cond.instanceMethod yX4_readInto, Cond.selects RX4 yX4_readInto yX4_readInto, Cond.initialized RX4, Cond.code yX4_readInto cX4_readInto 4 (some .int), Cond.fieldLink RX4 28 "PluckBroker$Text" "cursor" "I", Cond.fieldLink RX4 15 "PluckBroker$Text" "length" "I", Cond.methodLink RX4 23 yX2_clear, Cond.instanceMethod yX2_clear, Cond.selects RX2 yX2_clear yX2_clear, Cond.initialized RX2, Cond.code yX2_clear cX2_clear 1 none, Cond.fieldLink RX2 33 "PluckBroker$Plan" "tillFigure" "I", Cond.fieldLink RX2 37 "PluckBroker$Plan" "persons" "I", Cond.fieldLink RX2 40 "PluckBroker$Plan" "qualities" "I", Cond.fieldLink RX2 43 "PluckBroker$Plan" "deeds" "I", Cond.methodLink RX4 31 yX4_upcoming, Cond.instanceMethod yX4_upcoming]
def wsX5_shop_r2 : List Cond := [Cond.selects RX4 yX4_upcoming yX4_upcoming, Cond.code yX4_upcoming cX4_upcoming 1 (some .int), Cond.fieldLink RX4 9 "PluckBroker$Text" "bytes" "[I", Cond.static yX5_cell, Cond.initialized RX5, Cond.code yX5_cell cX5_cell 2 (some .int), Cond.methodLink RX4 35 yX4_figure, Cond.instanceMethod yX4_figure, Cond.selects RX4 yX4_figure yX4_figure, Cond.code yX4_figure cX4_figure 4 (some .int), Cond.methodLink RX4 42 yX4_readThing, Cond.instanceMethod yX4_readThing, Cond.selects RX4 yX4_readThing yX4_readThing, Cond.code yX4_readThing cX4_readThing 3 (some .boolean), Cond.methodLink RX4 49 yX4_readPerson, Cond.instanceMethod yX4_readPerson, Cond.selects RX4 yX4_readPerson yX4_readPerson, Cond.code yX4_readPerson cX4_readPerson 3 (some .boolean), Cond.methodLink RX4 64 yX2_addPerson, Cond.instanceMethod yX2_addPerson, Cond.selects RX2 yX2_addPerson yX2_addPerson, Cond.code yX2_addPerson cX2_addPerson 2 none, Cond.fieldLink RX2 9 "PluckBroker$Plan" "purses" "[I", Cond.static yX5_put]
def wsX5_shop_r3 : List Cond := [Cond.code yX5_put cX5_put 3 none, Cond.methodLink RX4 55 yX4_readQuality, Cond.instanceMethod yX4_readQuality, Cond.selects RX4 yX4_readQuality yX4_readQuality, Cond.code yX4_readQuality cX4_readQuality 5 (some .boolean), Cond.methodLink RX4 68 yX2_addQuality, Cond.instanceMethod yX2_addQuality, Cond.selects RX2 yX2_addQuality yX2_addQuality, Cond.code yX2_addQuality cX2_addQuality 4 none, Cond.fieldLink RX2 15 "PluckBroker$Plan" "owners" "[I", Cond.fieldLink RX2 18 "PluckBroker$Plan" "worths" "[I", Cond.fieldLink RX2 21 "PluckBroker$Plan" "kinds" "[I", Cond.methodLink RX4 61 yX4_readDeed, Cond.instanceMethod yX4_readDeed, Cond.selects RX4 yX4_readDeed yX4_readDeed, Cond.code yX4_readDeed cX4_readDeed 5 (some .boolean), Cond.methodLink RX4 72 yX2_addDeed, Cond.instanceMethod yX2_addDeed, Cond.selects RX2 yX2_addDeed yX2_addDeed, Cond.code yX2_addDeed cX2_addDeed 4 none, Cond.fieldLink RX2 24 "PluckBroker$Plan" "wanted" "[I", Cond.fieldLink RX2 27 "PluckBroker$Plan" "onDays" "[I", Cond.fieldLink RX2 30 "PluckBroker$Plan" "rewards" "[I", Cond.methodLink RX5 68 yX3_begin]
def wsX5_shop_r4 : List Cond := [Cond.instanceMethod yX3_begin, Cond.selects RX3 yX3_begin yX3_begin, Cond.initialized RX3, Cond.code yX3_begin cX3_begin 2 none, Cond.fieldLink RX3 11 "PluckBroker$State" "cells" "[I", Cond.fieldLink RX3 15 "PluckBroker$State" "plan" "LPluckBroker$Plan;", Cond.methodLink RX3 32 yX2_firstPurseOf, Cond.instanceMethod yX2_firstPurseOf, Cond.selects RX2 yX2_firstPurseOf yX2_firstPurseOf, Cond.code yX2_firstPurseOf cX2_firstPurseOf 2 (some .int), Cond.methodLink RX5 71 yX0_forget, Cond.instanceMethod yX0_forget, Cond.selects RX0 yX0_forget yX0_forget, Cond.initialized RX0, Cond.code yX0_forget cX0_forget 1 none, Cond.fieldLink RX0 25 "PluckBroker$Acts" "count" "I"]
def wsX5_shop : List Cond := .code yX5_shop cX5_shop 1 (some .int) :: ((wsX5_shop_r1 ++ (wsX5_shop_r2 ++ (wsX5_shop_r3 ++ wsX5_shop_r4))) ++ wsX50 ++ wsX20 ++ wsX40 ++ wsX30 ++ wsX00)
def wsX5_about_r1 : List Cond := [Cond.fieldLink RX5 19 "PluckBroker" "plan" "LPluckBroker$Plan;", Cond.fieldLink RX5 31 "PluckBroker" "now" "LPluckBroker$State;", Cond.fieldLink RX5 41 "PluckBroker" "acts" "LPluckBroker$Acts;", Cond.fieldLink RX5 48 "PluckBroker" "asked" "LPluckBroker$Asked;", Cond.fieldLink RX5 12 "PluckBroker" "text" "LPluckBroker$Text;", Cond.methodLink RX5 86 yX3_today, Cond.instanceMethod yX3_today, Cond.selects RX3 yX3_today yX3_today, Cond.initialized RX3, Cond.code yX3_today cX3_today 1 (some .int), Cond.fieldLink RX3 11 "PluckBroker$State" "cells" "[I", Cond.static yX5_cell, Cond.initialized RX5, Cond.code yX5_cell cX5_cell 2 (some .int), Cond.methodLink RX5 90 yX3_inTill, Cond.instanceMethod yX3_inTill, Cond.selects RX3 yX3_inTill yX3_inTill, Cond.code yX3_inTill cX3_inTill 1 (some .int), Cond.methodLink RX5 93 yX3_qualitiesThatAre, Cond.instanceMethod yX3_qualitiesThatAre, Cond.selects RX3 yX3_qualitiesThatAre yX3_qualitiesThatAre, Cond.code yX3_qualitiesThatAre cX3_qualitiesThatAre 4 (some .int), Cond.fieldLink RX3 15 "PluckBroker$State" "plan" "LPluckBroker$Plan;", Cond.methodLink RX3 50 yX3_standingOf]
def wsX5_about_r2 : List Cond := [Cond.instanceMethod yX3_standingOf, Cond.selects RX3 yX3_standingOf yX3_standingOf, Cond.code yX3_standingOf cX3_standingOf 2 (some .int), Cond.methodLink RX5 97 yX3_deedsThatAre, Cond.instanceMethod yX3_deedsThatAre, Cond.selects RX3 yX3_deedsThatAre yX3_deedsThatAre, Cond.code yX3_deedsThatAre cX3_deedsThatAre 4 (some .int), Cond.methodLink RX3 56 yX3_outcomeOf, Cond.instanceMethod yX3_outcomeOf, Cond.selects RX3 yX3_outcomeOf yX3_outcomeOf, Cond.code yX3_outcomeOf cX3_outcomeOf 2 (some .int)]
def wsX5_about : List Cond := .code yX5_about cX5_about 2 (some .int) :: ((wsX5_about_r1 ++ wsX5_about_r2) ++ wsX50 ++ wsX20 ++ wsX00 ++ wsX10 ++ wsX40 ++ wsX30)
def wsX5_person_r1 : List Cond := [Cond.fieldLink RX5 19 "PluckBroker" "plan" "LPluckBroker$Plan;", Cond.fieldLink RX5 31 "PluckBroker" "now" "LPluckBroker$State;", Cond.methodLink RX5 104 yX2_hasPerson, Cond.instanceMethod yX2_hasPerson, Cond.selects RX2 yX2_hasPerson yX2_hasPerson, Cond.initialized RX2, Cond.code yX2_hasPerson cX2_hasPerson 2 (some .boolean), Cond.fieldLink RX2 37 "PluckBroker$Plan" "persons" "I", Cond.methodLink RX5 108 yX3_purseOf, Cond.instanceMethod yX3_purseOf, Cond.selects RX3 yX3_purseOf yX3_purseOf, Cond.initialized RX3, Cond.code yX3_purseOf cX3_purseOf 2 (some .int), Cond.fieldLink RX3 11 "PluckBroker$State" "cells" "[I", Cond.static yX5_cell, Cond.initialized RX5, Cond.code yX5_cell cX5_cell 2 (some .int), Cond.methodLink RX5 111 yX2_qualitiesOf, Cond.instanceMethod yX2_qualitiesOf, Cond.selects RX2 yX2_qualitiesOf yX2_qualitiesOf, Cond.code yX2_qualitiesOf cX2_qualitiesOf 4 (some .int), Cond.fieldLink RX2 40 "PluckBroker$Plan" "qualities" "I", Cond.methodLink RX2 54 yX2_ownerOf, Cond.instanceMethod yX2_ownerOf]
def wsX5_person_r2 : List Cond := [Cond.selects RX2 yX2_ownerOf yX2_ownerOf, Cond.code yX2_ownerOf cX2_ownerOf 2 (some .int), Cond.fieldLink RX2 15 "PluckBroker$Plan" "owners" "[I", Cond.methodLink RX5 114 yX2_deedsOf, Cond.instanceMethod yX2_deedsOf, Cond.selects RX2 yX2_deedsOf yX2_deedsOf, Cond.code yX2_deedsOf cX2_deedsOf 4 (some .int), Cond.fieldLink RX2 43 "PluckBroker$Plan" "deeds" "I", Cond.methodLink RX2 58 yX2_wantedBy, Cond.instanceMethod yX2_wantedBy, Cond.selects RX2 yX2_wantedBy yX2_wantedBy, Cond.code yX2_wantedBy cX2_wantedBy 2 (some .int), Cond.fieldLink RX2 24 "PluckBroker$Plan" "wanted" "[I"]
def wsX5_person : List Cond := .code yX5_person cX5_person 3 (some .int) :: ((wsX5_person_r1 ++ wsX5_person_r2) ++ wsX50 ++ wsX20 ++ wsX30)
def wsX5_quality_r1 : List Cond := [Cond.fieldLink RX5 19 "PluckBroker" "plan" "LPluckBroker$Plan;", Cond.fieldLink RX5 31 "PluckBroker" "now" "LPluckBroker$State;", Cond.methodLink RX5 117 yX2_hasQuality, Cond.instanceMethod yX2_hasQuality, Cond.selects RX2 yX2_hasQuality yX2_hasQuality, Cond.initialized RX2, Cond.code yX2_hasQuality cX2_hasQuality 2 (some .boolean), Cond.fieldLink RX2 40 "PluckBroker$Plan" "qualities" "I", Cond.methodLink RX5 120 yX2_ownerOf, Cond.instanceMethod yX2_ownerOf, Cond.selects RX2 yX2_ownerOf yX2_ownerOf, Cond.code yX2_ownerOf cX2_ownerOf 2 (some .int), Cond.fieldLink RX2 15 "PluckBroker$Plan" "owners" "[I", Cond.static yX5_cell, Cond.initialized RX5, Cond.code yX5_cell cX5_cell 2 (some .int), Cond.methodLink RX5 123 yX2_worthOf, Cond.instanceMethod yX2_worthOf, Cond.selects RX2 yX2_worthOf yX2_worthOf, Cond.code yX2_worthOf cX2_worthOf 2 (some .int), Cond.fieldLink RX2 18 "PluckBroker$Plan" "worths" "[I", Cond.methodLink RX5 126 yX2_kindOf, Cond.instanceMethod yX2_kindOf, Cond.selects RX2 yX2_kindOf yX2_kindOf]
def wsX5_quality_r2 : List Cond := [Cond.code yX2_kindOf cX2_kindOf 2 (some .int), Cond.fieldLink RX2 21 "PluckBroker$Plan" "kinds" "[I", Cond.methodLink RX5 129 yX3_standingOf, Cond.instanceMethod yX3_standingOf, Cond.selects RX3 yX3_standingOf yX3_standingOf, Cond.initialized RX3, Cond.code yX3_standingOf cX3_standingOf 2 (some .int), Cond.fieldLink RX3 11 "PluckBroker$State" "cells" "[I", Cond.methodLink RX5 132 yX3_pledgedOn, Cond.instanceMethod yX3_pledgedOn, Cond.selects RX3 yX3_pledgedOn yX3_pledgedOn, Cond.code yX3_pledgedOn cX3_pledgedOn 2 (some .int), Cond.methodLink RX5 135 yX3_owedFor, Cond.instanceMethod yX3_owedFor, Cond.selects RX3 yX3_owedFor yX3_owedFor, Cond.code yX3_owedFor cX3_owedFor 2 (some .int), Cond.fieldLink RX3 15 "PluckBroker$State" "plan" "LPluckBroker$Plan;", Cond.methodLink RX3 50 yX3_standingOf, Cond.methodLink RX3 59 yX2_kindOf, Cond.methodLink RX3 62 yX2_worthOf, Cond.methodLink RX3 65 yX3_today, Cond.instanceMethod yX3_today, Cond.selects RX3 yX3_today yX3_today, Cond.code yX3_today cX3_today 1 (some .int)]
def wsX5_quality_r3 : List Cond := [Cond.methodLink RX3 69 yX3_pledgedOn, Cond.static yX5_dueFor, Cond.code yX5_dueFor cX5_dueFor 4 (some .int)]
def wsX5_quality : List Cond := .code yX5_quality cX5_quality 3 (some .int) :: ((wsX5_quality_r1 ++ (wsX5_quality_r2 ++ wsX5_quality_r3)) ++ wsX50 ++ wsX20 ++ wsX30)
def wsX5_deed_r1 : List Cond := [Cond.fieldLink RX5 19 "PluckBroker" "plan" "LPluckBroker$Plan;", Cond.fieldLink RX5 31 "PluckBroker" "now" "LPluckBroker$State;", Cond.methodLink RX5 138 yX2_hasDeed, Cond.instanceMethod yX2_hasDeed, Cond.selects RX2 yX2_hasDeed yX2_hasDeed, Cond.initialized RX2, Cond.code yX2_hasDeed cX2_hasDeed 2 (some .boolean), Cond.fieldLink RX2 43 "PluckBroker$Plan" "deeds" "I", Cond.methodLink RX5 141 yX2_wantedBy, Cond.instanceMethod yX2_wantedBy, Cond.selects RX2 yX2_wantedBy yX2_wantedBy, Cond.code yX2_wantedBy cX2_wantedBy 2 (some .int), Cond.fieldLink RX2 24 "PluckBroker$Plan" "wanted" "[I", Cond.static yX5_cell, Cond.initialized RX5, Cond.code yX5_cell cX5_cell 2 (some .int), Cond.methodLink RX5 144 yX2_dayOf, Cond.instanceMethod yX2_dayOf, Cond.selects RX2 yX2_dayOf yX2_dayOf, Cond.code yX2_dayOf cX2_dayOf 2 (some .int), Cond.fieldLink RX2 27 "PluckBroker$Plan" "onDays" "[I", Cond.methodLink RX5 147 yX2_rewardOf, Cond.instanceMethod yX2_rewardOf, Cond.selects RX2 yX2_rewardOf yX2_rewardOf]
def wsX5_deed_r2 : List Cond := [Cond.code yX2_rewardOf cX2_rewardOf 2 (some .int), Cond.fieldLink RX2 30 "PluckBroker$Plan" "rewards" "[I", Cond.methodLink RX5 150 yX3_outcomeOf, Cond.instanceMethod yX3_outcomeOf, Cond.selects RX3 yX3_outcomeOf yX3_outcomeOf, Cond.initialized RX3, Cond.code yX3_outcomeOf cX3_outcomeOf 2 (some .int), Cond.fieldLink RX3 11 "PluckBroker$State" "cells" "[I"]
def wsX5_deed : List Cond := .code yX5_deed cX5_deed 3 (some .int) :: ((wsX5_deed_r1 ++ wsX5_deed_r2) ++ wsX50 ++ wsX20 ++ wsX30)
def wsX5_day_r1 : List Cond := [Cond.fieldLink RX5 41 "PluckBroker" "acts" "LPluckBroker$Acts;", Cond.fieldLink RX5 31 "PluckBroker" "now" "LPluckBroker$State;", Cond.methodLink RX5 153 yX0_remember, Cond.instanceMethod yX0_remember, Cond.selects RX0 yX0_remember yX0_remember, Cond.initialized RX0, Cond.code yX0_remember cX0_remember 2 none, Cond.fieldLink RX0 11 "PluckBroker$Acts" "states" "[I", Cond.fieldLink RX0 17 "PluckBroker$Acts" "upcoming" "I", Cond.fieldLink RX0 25 "PluckBroker$Acts" "count" "I", Cond.methodLink RX0 21 yX3_saveTo, Cond.instanceMethod yX3_saveTo, Cond.selects RX3 yX3_saveTo yX3_saveTo, Cond.initialized RX3, Cond.code yX3_saveTo cX3_saveTo 4 none, Cond.fieldLink RX3 11 "PluckBroker$State" "cells" "[I", Cond.static yX5_put, Cond.initialized RX5, Cond.code yX5_put cX5_put 3 none, Cond.methodLink RX5 157 yX3_passDay, Cond.instanceMethod yX3_passDay, Cond.selects RX3 yX3_passDay yX3_passDay, Cond.code yX3_passDay cX3_passDay 3 (some .int), Cond.fieldLink RX3 15 "PluckBroker$State" "plan" "LPluckBroker$Plan;"]
def wsX5_day_r2 : List Cond := [Cond.methodLink RX3 102 yX2_dayOf, Cond.instanceMethod yX2_dayOf, Cond.selects RX2 yX2_dayOf yX2_dayOf, Cond.initialized RX2, Cond.code yX2_dayOf cX2_dayOf 2 (some .int), Cond.fieldLink RX2 27 "PluckBroker$Plan" "onDays" "[I", Cond.static yX5_cell, Cond.code yX5_cell cX5_cell 2 (some .int), Cond.methodLink RX3 65 yX3_today, Cond.instanceMethod yX3_today, Cond.selects RX3 yX3_today yX3_today, Cond.code yX3_today cX3_today 1 (some .int), Cond.methodLink RX3 105 yX3_tryDeed, Cond.instanceMethod yX3_tryDeed, Cond.selects RX3 yX3_tryDeed yX3_tryDeed, Cond.code yX3_tryDeed cX3_tryDeed 3 (some .boolean), Cond.methodLink RX3 111 yX2_wantedBy, Cond.instanceMethod yX2_wantedBy, Cond.selects RX2 yX2_wantedBy yX2_wantedBy, Cond.code yX2_wantedBy cX2_wantedBy 2 (some .int), Cond.fieldLink RX2 24 "PluckBroker$Plan" "wanted" "[I", Cond.methodLink RX3 50 yX3_standingOf, Cond.instanceMethod yX3_standingOf, Cond.selects RX3 yX3_standingOf yX3_standingOf]
def wsX5_day_r3 : List Cond := [Cond.code yX3_standingOf cX3_standingOf 2 (some .int), Cond.methodLink RX3 76 yX2_ownerOf, Cond.instanceMethod yX2_ownerOf, Cond.selects RX2 yX2_ownerOf yX2_ownerOf, Cond.code yX2_ownerOf cX2_ownerOf 2 (some .int), Cond.fieldLink RX2 15 "PluckBroker$Plan" "owners" "[I", Cond.methodLink RX3 114 yX2_rewardOf, Cond.instanceMethod yX2_rewardOf, Cond.selects RX2 yX2_rewardOf yX2_rewardOf, Cond.code yX2_rewardOf cX2_rewardOf 2 (some .int), Cond.fieldLink RX2 30 "PluckBroker$Plan" "rewards" "[I", Cond.methodLink RX3 92 yX3_pay, Cond.instanceMethod yX3_pay, Cond.selects RX3 yX3_pay yX3_pay, Cond.code yX3_pay cX3_pay 3 none, Cond.methodLink RX3 108 yX3_sellOverdue, Cond.instanceMethod yX3_sellOverdue, Cond.selects RX3 yX3_sellOverdue yX3_sellOverdue, Cond.code yX3_sellOverdue cX3_sellOverdue 3 none, Cond.methodLink RX3 69 yX3_pledgedOn, Cond.instanceMethod yX3_pledgedOn, Cond.selects RX3 yX3_pledgedOn yX3_pledgedOn, Cond.code yX3_pledgedOn cX3_pledgedOn 2 (some .int), Cond.methodLink RX3 59 yX2_kindOf]
def wsX5_day_r4 : List Cond := [Cond.instanceMethod yX2_kindOf, Cond.selects RX2 yX2_kindOf yX2_kindOf, Cond.code yX2_kindOf cX2_kindOf 2 (some .int), Cond.fieldLink RX2 21 "PluckBroker$Plan" "kinds" "[I"]
def wsX5_day : List Cond := .code yX5_day cX5_day 1 (some .int) :: ((wsX5_day_r1 ++ (wsX5_day_r2 ++ (wsX5_day_r3 ++ wsX5_day_r4))) ++ wsX50 ++ wsX00 ++ wsX30 ++ wsX20)
def wsX5_pledge_r1 : List Cond := [Cond.fieldLink RX5 19 "PluckBroker" "plan" "LPluckBroker$Plan;", Cond.fieldLink RX5 31 "PluckBroker" "now" "LPluckBroker$State;", Cond.fieldLink RX5 41 "PluckBroker" "acts" "LPluckBroker$Acts;", Cond.methodLink RX5 117 yX2_hasQuality, Cond.instanceMethod yX2_hasQuality, Cond.selects RX2 yX2_hasQuality yX2_hasQuality, Cond.initialized RX2, Cond.code yX2_hasQuality cX2_hasQuality 2 (some .boolean), Cond.fieldLink RX2 40 "PluckBroker$Plan" "qualities" "I", Cond.methodLink RX5 160 yX3_canPledge, Cond.instanceMethod yX3_canPledge, Cond.selects RX3 yX3_canPledge yX3_canPledge, Cond.initialized RX3, Cond.code yX3_canPledge cX3_canPledge 2 (some .boolean), Cond.fieldLink RX3 15 "PluckBroker$State" "plan" "LPluckBroker$Plan;", Cond.methodLink RX3 79 yX2_hasQuality, Cond.methodLink RX3 50 yX3_standingOf, Cond.instanceMethod yX3_standingOf, Cond.selects RX3 yX3_standingOf yX3_standingOf, Cond.code yX3_standingOf cX3_standingOf 2 (some .int), Cond.fieldLink RX3 11 "PluckBroker$State" "cells" "[I", Cond.static yX5_cell, Cond.initialized RX5, Cond.code yX5_cell cX5_cell 2 (some .int)]
def wsX5_pledge_r2 : List Cond := [Cond.methodLink RX3 83 yX3_inTill, Cond.instanceMethod yX3_inTill, Cond.selects RX3 yX3_inTill yX3_inTill, Cond.code yX3_inTill cX3_inTill 1 (some .int), Cond.methodLink RX3 62 yX2_worthOf, Cond.instanceMethod yX2_worthOf, Cond.selects RX2 yX2_worthOf yX2_worthOf, Cond.code yX2_worthOf cX2_worthOf 2 (some .int), Cond.fieldLink RX2 18 "PluckBroker$Plan" "worths" "[I", Cond.methodLink RX5 153 yX0_remember, Cond.instanceMethod yX0_remember, Cond.selects RX0 yX0_remember yX0_remember, Cond.initialized RX0, Cond.code yX0_remember cX0_remember 2 none, Cond.fieldLink RX0 11 "PluckBroker$Acts" "states" "[I", Cond.fieldLink RX0 17 "PluckBroker$Acts" "upcoming" "I", Cond.fieldLink RX0 25 "PluckBroker$Acts" "count" "I", Cond.methodLink RX0 21 yX3_saveTo, Cond.instanceMethod yX3_saveTo, Cond.selects RX3 yX3_saveTo yX3_saveTo, Cond.code yX3_saveTo cX3_saveTo 4 none, Cond.static yX5_put, Cond.code yX5_put cX5_put 3 none, Cond.methodLink RX5 163 yX3_tryPledge]
def wsX5_pledge_r3 : List Cond := [Cond.instanceMethod yX3_tryPledge, Cond.selects RX3 yX3_tryPledge yX3_tryPledge, Cond.code yX3_tryPledge cX3_tryPledge 2 (some .boolean), Cond.methodLink RX3 89 yX3_canPledge, Cond.methodLink RX3 76 yX2_ownerOf, Cond.instanceMethod yX2_ownerOf, Cond.selects RX2 yX2_ownerOf yX2_ownerOf, Cond.code yX2_ownerOf cX2_ownerOf 2 (some .int), Cond.fieldLink RX2 15 "PluckBroker$Plan" "owners" "[I", Cond.methodLink RX3 92 yX3_pay, Cond.instanceMethod yX3_pay, Cond.selects RX3 yX3_pay yX3_pay, Cond.code yX3_pay cX3_pay 3 none, Cond.methodLink RX3 65 yX3_today, Cond.instanceMethod yX3_today, Cond.selects RX3 yX3_today yX3_today, Cond.code yX3_today cX3_today 1 (some .int), Cond.methodLink RX5 90 yX3_inTill]
def wsX5_pledge : List Cond := .code yX5_pledge cX5_pledge 2 (some .int) :: ((wsX5_pledge_r1 ++ (wsX5_pledge_r2 ++ wsX5_pledge_r3)) ++ wsX50 ++ wsX20 ++ wsX30 ++ wsX00)
def wsX5_redeem_r1 : List Cond := [Cond.fieldLink RX5 19 "PluckBroker" "plan" "LPluckBroker$Plan;", Cond.fieldLink RX5 31 "PluckBroker" "now" "LPluckBroker$State;", Cond.fieldLink RX5 41 "PluckBroker" "acts" "LPluckBroker$Acts;", Cond.methodLink RX5 117 yX2_hasQuality, Cond.instanceMethod yX2_hasQuality, Cond.selects RX2 yX2_hasQuality yX2_hasQuality, Cond.initialized RX2, Cond.code yX2_hasQuality cX2_hasQuality 2 (some .boolean), Cond.fieldLink RX2 40 "PluckBroker$Plan" "qualities" "I", Cond.methodLink RX5 166 yX3_canRedeem, Cond.instanceMethod yX3_canRedeem, Cond.selects RX3 yX3_canRedeem yX3_canRedeem, Cond.initialized RX3, Cond.code yX3_canRedeem cX3_canRedeem 2 (some .boolean), Cond.fieldLink RX3 15 "PluckBroker$State" "plan" "LPluckBroker$Plan;", Cond.methodLink RX3 79 yX2_hasQuality, Cond.methodLink RX3 50 yX3_standingOf, Cond.instanceMethod yX3_standingOf, Cond.selects RX3 yX3_standingOf yX3_standingOf, Cond.code yX3_standingOf cX3_standingOf 2 (some .int), Cond.fieldLink RX3 11 "PluckBroker$State" "cells" "[I", Cond.static yX5_cell, Cond.initialized RX5, Cond.code yX5_cell cX5_cell 2 (some .int)]
def wsX5_redeem_r2 : List Cond := [Cond.methodLink RX3 76 yX2_ownerOf, Cond.instanceMethod yX2_ownerOf, Cond.selects RX2 yX2_ownerOf yX2_ownerOf, Cond.code yX2_ownerOf cX2_ownerOf 2 (some .int), Cond.fieldLink RX2 15 "PluckBroker$Plan" "owners" "[I", Cond.methodLink RX3 44 yX3_purseOf, Cond.instanceMethod yX3_purseOf, Cond.selects RX3 yX3_purseOf yX3_purseOf, Cond.code yX3_purseOf cX3_purseOf 2 (some .int), Cond.methodLink RX3 86 yX3_owedFor, Cond.instanceMethod yX3_owedFor, Cond.selects RX3 yX3_owedFor yX3_owedFor, Cond.code yX3_owedFor cX3_owedFor 2 (some .int), Cond.methodLink RX3 59 yX2_kindOf, Cond.instanceMethod yX2_kindOf, Cond.selects RX2 yX2_kindOf yX2_kindOf, Cond.code yX2_kindOf cX2_kindOf 2 (some .int), Cond.fieldLink RX2 21 "PluckBroker$Plan" "kinds" "[I", Cond.methodLink RX3 62 yX2_worthOf, Cond.instanceMethod yX2_worthOf, Cond.selects RX2 yX2_worthOf yX2_worthOf, Cond.code yX2_worthOf cX2_worthOf 2 (some .int), Cond.fieldLink RX2 18 "PluckBroker$Plan" "worths" "[I", Cond.methodLink RX3 65 yX3_today]
def wsX5_redeem_r3 : List Cond := [Cond.instanceMethod yX3_today, Cond.selects RX3 yX3_today yX3_today, Cond.code yX3_today cX3_today 1 (some .int), Cond.methodLink RX3 69 yX3_pledgedOn, Cond.instanceMethod yX3_pledgedOn, Cond.selects RX3 yX3_pledgedOn yX3_pledgedOn, Cond.code yX3_pledgedOn cX3_pledgedOn 2 (some .int), Cond.static yX5_dueFor, Cond.code yX5_dueFor cX5_dueFor 4 (some .int), Cond.methodLink RX5 153 yX0_remember, Cond.instanceMethod yX0_remember, Cond.selects RX0 yX0_remember yX0_remember, Cond.initialized RX0, Cond.code yX0_remember cX0_remember 2 none, Cond.fieldLink RX0 11 "PluckBroker$Acts" "states" "[I", Cond.fieldLink RX0 17 "PluckBroker$Acts" "upcoming" "I", Cond.fieldLink RX0 25 "PluckBroker$Acts" "count" "I", Cond.methodLink RX0 21 yX3_saveTo, Cond.instanceMethod yX3_saveTo, Cond.selects RX3 yX3_saveTo yX3_saveTo, Cond.code yX3_saveTo cX3_saveTo 4 none, Cond.static yX5_put, Cond.code yX5_put cX5_put 3 none, Cond.methodLink RX5 169 yX3_tryRedeem]
def wsX5_redeem_r4 : List Cond := [Cond.instanceMethod yX3_tryRedeem, Cond.selects RX3 yX3_tryRedeem yX3_tryRedeem, Cond.code yX3_tryRedeem cX3_tryRedeem 3 (some .boolean), Cond.methodLink RX3 96 yX3_canRedeem, Cond.methodLink RX3 92 yX3_pay, Cond.instanceMethod yX3_pay, Cond.selects RX3 yX3_pay yX3_pay, Cond.code yX3_pay cX3_pay 3 none, Cond.methodLink RX3 83 yX3_inTill, Cond.instanceMethod yX3_inTill, Cond.selects RX3 yX3_inTill yX3_inTill, Cond.code yX3_inTill cX3_inTill 1 (some .int), Cond.methodLink RX5 120 yX2_ownerOf, Cond.methodLink RX5 108 yX3_purseOf]
def wsX5_redeem : List Cond := .code yX5_redeem cX5_redeem 2 (some .int) :: ((wsX5_redeem_r1 ++ (wsX5_redeem_r2 ++ (wsX5_redeem_r3 ++ wsX5_redeem_r4))) ++ wsX50 ++ wsX20 ++ wsX30 ++ wsX00)
def wsX5_give_r1 : List Cond := [Cond.fieldLink RX5 19 "PluckBroker" "plan" "LPluckBroker$Plan;", Cond.fieldLink RX5 41 "PluckBroker" "acts" "LPluckBroker$Acts;", Cond.fieldLink RX5 31 "PluckBroker" "now" "LPluckBroker$State;", Cond.methodLink RX5 104 yX2_hasPerson, Cond.instanceMethod yX2_hasPerson, Cond.selects RX2 yX2_hasPerson yX2_hasPerson, Cond.initialized RX2, Cond.code yX2_hasPerson cX2_hasPerson 2 (some .boolean), Cond.fieldLink RX2 37 "PluckBroker$Plan" "persons" "I", Cond.methodLink RX5 153 yX0_remember, Cond.instanceMethod yX0_remember, Cond.selects RX0 yX0_remember yX0_remember, Cond.initialized RX0, Cond.code yX0_remember cX0_remember 2 none, Cond.fieldLink RX0 11 "PluckBroker$Acts" "states" "[I", Cond.fieldLink RX0 17 "PluckBroker$Acts" "upcoming" "I", Cond.fieldLink RX0 25 "PluckBroker$Acts" "count" "I", Cond.methodLink RX0 21 yX3_saveTo, Cond.instanceMethod yX3_saveTo, Cond.selects RX3 yX3_saveTo yX3_saveTo, Cond.initialized RX3, Cond.code yX3_saveTo cX3_saveTo 4 none, Cond.fieldLink RX3 11 "PluckBroker$State" "cells" "[I", Cond.static yX5_put]
def wsX5_give_r2 : List Cond := [Cond.initialized RX5, Cond.code yX5_put cX5_put 3 none, Cond.methodLink RX5 172 yX3_tryGive, Cond.instanceMethod yX3_tryGive, Cond.selects RX3 yX3_tryGive yX3_tryGive, Cond.code yX3_tryGive cX3_tryGive 3 (some .boolean), Cond.fieldLink RX3 15 "PluckBroker$State" "plan" "LPluckBroker$Plan;", Cond.methodLink RX3 99 yX2_hasPerson, Cond.methodLink RX3 92 yX3_pay, Cond.instanceMethod yX3_pay, Cond.selects RX3 yX3_pay yX3_pay, Cond.code yX3_pay cX3_pay 3 none, Cond.static yX5_cell, Cond.code yX5_cell cX5_cell 2 (some .int), Cond.methodLink RX5 108 yX3_purseOf, Cond.instanceMethod yX3_purseOf, Cond.selects RX3 yX3_purseOf yX3_purseOf, Cond.code yX3_purseOf cX3_purseOf 2 (some .int)]
def wsX5_give : List Cond := .code yX5_give cX5_give 3 (some .int) :: ((wsX5_give_r1 ++ wsX5_give_r2) ++ wsX50 ++ wsX20 ++ wsX00 ++ wsX30)
def wsX5_undo : List Cond := .code yX5_undo cX5_undo 1 (some .int) :: ([.fieldLink RX5 41 "PluckBroker" "acts" "LPluckBroker$Acts;", .fieldLink RX5 31 "PluckBroker" "now" "LPluckBroker$State;", .methodLink RX5 176 yX0_takeBack, .instanceMethod yX0_takeBack, .selects RX0 yX0_takeBack yX0_takeBack, .initialized RX0, .code yX0_takeBack cX0_takeBack 2 none, .fieldLink RX0 17 "PluckBroker$Acts" "upcoming" "I", .fieldLink RX0 25 "PluckBroker$Acts" "count" "I", .fieldLink RX0 11 "PluckBroker$Acts" "states" "[I", .methodLink RX0 28 yX3_loadFrom, .instanceMethod yX3_loadFrom, .selects RX3 yX3_loadFrom yX3_loadFrom, .initialized RX3, .code yX3_loadFrom cX3_loadFrom 4 none, .fieldLink RX3 11 "PluckBroker$State" "cells" "[I", .static yX5_cell, .initialized RX5, .code yX5_cell cX5_cell 2 (some .int)] ++ wsX50 ++ wsX00 ++ wsX30)
def wsX5_isNoDaysAhead : List Cond := .code yX5_isNoDaysAhead cX5_isNoDaysAhead 1 (some .boolean) :: ([])
def wsX5_lookAhead_r1 : List Cond := [Cond.fieldLink RX5 35 "PluckBroker" "ahead" "LPluckBroker$State;", Cond.fieldLink RX5 31 "PluckBroker" "now" "LPluckBroker$State;", Cond.methodLink RX5 197 yX3_copy, Cond.instanceMethod yX3_copy, Cond.selects RX3 yX3_copy yX3_copy, Cond.initialized RX3, Cond.code yX3_copy cX3_copy 2 none, Cond.fieldLink RX3 11 "PluckBroker$State" "cells" "[I", Cond.methodLink RX3 36 yX3_saveTo, Cond.instanceMethod yX3_saveTo, Cond.selects RX3 yX3_saveTo yX3_saveTo, Cond.code yX3_saveTo cX3_saveTo 4 none, Cond.static yX5_put, Cond.initialized RX5, Cond.code yX5_put cX5_put 3 none, Cond.methodLink RX5 157 yX3_passDay, Cond.instanceMethod yX3_passDay, Cond.selects RX3 yX3_passDay yX3_passDay, Cond.code yX3_passDay cX3_passDay 3 (some .int), Cond.fieldLink RX3 15 "PluckBroker$State" "plan" "LPluckBroker$Plan;", Cond.methodLink RX3 102 yX2_dayOf, Cond.instanceMethod yX2_dayOf, Cond.selects RX2 yX2_dayOf yX2_dayOf, Cond.initialized RX2]
def wsX5_lookAhead_r2 : List Cond := [Cond.code yX2_dayOf cX2_dayOf 2 (some .int), Cond.fieldLink RX2 27 "PluckBroker$Plan" "onDays" "[I", Cond.static yX5_cell, Cond.code yX5_cell cX5_cell 2 (some .int), Cond.methodLink RX3 65 yX3_today, Cond.instanceMethod yX3_today, Cond.selects RX3 yX3_today yX3_today, Cond.code yX3_today cX3_today 1 (some .int), Cond.methodLink RX3 105 yX3_tryDeed, Cond.instanceMethod yX3_tryDeed, Cond.selects RX3 yX3_tryDeed yX3_tryDeed, Cond.code yX3_tryDeed cX3_tryDeed 3 (some .boolean), Cond.methodLink RX3 111 yX2_wantedBy, Cond.instanceMethod yX2_wantedBy, Cond.selects RX2 yX2_wantedBy yX2_wantedBy, Cond.code yX2_wantedBy cX2_wantedBy 2 (some .int), Cond.fieldLink RX2 24 "PluckBroker$Plan" "wanted" "[I", Cond.methodLink RX3 50 yX3_standingOf, Cond.instanceMethod yX3_standingOf, Cond.selects RX3 yX3_standingOf yX3_standingOf, Cond.code yX3_standingOf cX3_standingOf 2 (some .int), Cond.methodLink RX3 76 yX2_ownerOf, Cond.instanceMethod yX2_ownerOf, Cond.selects RX2 yX2_ownerOf yX2_ownerOf]
def wsX5_lookAhead_r3 : List Cond := [Cond.code yX2_ownerOf cX2_ownerOf 2 (some .int), Cond.fieldLink RX2 15 "PluckBroker$Plan" "owners" "[I", Cond.methodLink RX3 114 yX2_rewardOf, Cond.instanceMethod yX2_rewardOf, Cond.selects RX2 yX2_rewardOf yX2_rewardOf, Cond.code yX2_rewardOf cX2_rewardOf 2 (some .int), Cond.fieldLink RX2 30 "PluckBroker$Plan" "rewards" "[I", Cond.methodLink RX3 92 yX3_pay, Cond.instanceMethod yX3_pay, Cond.selects RX3 yX3_pay yX3_pay, Cond.code yX3_pay cX3_pay 3 none, Cond.methodLink RX3 108 yX3_sellOverdue, Cond.instanceMethod yX3_sellOverdue, Cond.selects RX3 yX3_sellOverdue yX3_sellOverdue, Cond.code yX3_sellOverdue cX3_sellOverdue 3 none, Cond.methodLink RX3 69 yX3_pledgedOn, Cond.instanceMethod yX3_pledgedOn, Cond.selects RX3 yX3_pledgedOn yX3_pledgedOn, Cond.code yX3_pledgedOn cX3_pledgedOn 2 (some .int), Cond.methodLink RX3 59 yX2_kindOf, Cond.instanceMethod yX2_kindOf, Cond.selects RX2 yX2_kindOf yX2_kindOf, Cond.code yX2_kindOf cX2_kindOf 2 (some .int), Cond.fieldLink RX2 21 "PluckBroker$Plan" "kinds" "[I"]
def wsX5_lookAhead : List Cond := .code yX5_lookAhead cX5_lookAhead 3 none :: ((wsX5_lookAhead_r1 ++ (wsX5_lookAhead_r2 ++ wsX5_lookAhead_r3)) ++ wsX50 ++ wsX30 ++ wsX20)
def wsX5_due_r1 : List Cond := [Cond.fieldLink RX5 19 "PluckBroker" "plan" "LPluckBroker$Plan;", Cond.fieldLink RX5 35 "PluckBroker" "ahead" "LPluckBroker$State;", Cond.methodLink RX5 117 yX2_hasQuality, Cond.instanceMethod yX2_hasQuality, Cond.selects RX2 yX2_hasQuality yX2_hasQuality, Cond.initialized RX2, Cond.code yX2_hasQuality cX2_hasQuality 2 (some .boolean), Cond.fieldLink RX2 40 "PluckBroker$Plan" "qualities" "I", Cond.methodLink RX5 179 yX5_isNoDaysAhead, Cond.static yX5_isNoDaysAhead, Cond.initialized RX5, Cond.code yX5_isNoDaysAhead cX5_isNoDaysAhead 1 (some .boolean), Cond.methodLink RX5 182 yX5_lookAhead, Cond.instanceMethod yX5_lookAhead, Cond.selects RX5 yX5_lookAhead yX5_lookAhead, Cond.code yX5_lookAhead cX5_lookAhead 3 none, Cond.fieldLink RX5 31 "PluckBroker" "now" "LPluckBroker$State;", Cond.methodLink RX5 197 yX3_copy, Cond.instanceMethod yX3_copy, Cond.selects RX3 yX3_copy yX3_copy, Cond.initialized RX3, Cond.code yX3_copy cX3_copy 2 none, Cond.fieldLink RX3 11 "PluckBroker$State" "cells" "[I", Cond.methodLink RX3 36 yX3_saveTo]
def wsX5_due_r2 : List Cond := [Cond.instanceMethod yX3_saveTo, Cond.selects RX3 yX3_saveTo yX3_saveTo, Cond.code yX3_saveTo cX3_saveTo 4 none, Cond.static yX5_put, Cond.code yX5_put cX5_put 3 none, Cond.methodLink RX5 157 yX3_passDay, Cond.instanceMethod yX3_passDay, Cond.selects RX3 yX3_passDay yX3_passDay, Cond.code yX3_passDay cX3_passDay 3 (some .int), Cond.fieldLink RX3 15 "PluckBroker$State" "plan" "LPluckBroker$Plan;", Cond.methodLink RX3 102 yX2_dayOf, Cond.instanceMethod yX2_dayOf, Cond.selects RX2 yX2_dayOf yX2_dayOf, Cond.code yX2_dayOf cX2_dayOf 2 (some .int), Cond.fieldLink RX2 27 "PluckBroker$Plan" "onDays" "[I", Cond.static yX5_cell, Cond.code yX5_cell cX5_cell 2 (some .int), Cond.methodLink RX3 65 yX3_today, Cond.instanceMethod yX3_today, Cond.selects RX3 yX3_today yX3_today, Cond.code yX3_today cX3_today 1 (some .int), Cond.methodLink RX3 105 yX3_tryDeed, Cond.instanceMethod yX3_tryDeed, Cond.selects RX3 yX3_tryDeed yX3_tryDeed]
def wsX5_due_r3 : List Cond := [Cond.code yX3_tryDeed cX3_tryDeed 3 (some .boolean), Cond.methodLink RX3 111 yX2_wantedBy, Cond.instanceMethod yX2_wantedBy, Cond.selects RX2 yX2_wantedBy yX2_wantedBy, Cond.code yX2_wantedBy cX2_wantedBy 2 (some .int), Cond.fieldLink RX2 24 "PluckBroker$Plan" "wanted" "[I", Cond.methodLink RX3 50 yX3_standingOf, Cond.instanceMethod yX3_standingOf, Cond.selects RX3 yX3_standingOf yX3_standingOf, Cond.code yX3_standingOf cX3_standingOf 2 (some .int), Cond.methodLink RX3 76 yX2_ownerOf, Cond.instanceMethod yX2_ownerOf, Cond.selects RX2 yX2_ownerOf yX2_ownerOf, Cond.code yX2_ownerOf cX2_ownerOf 2 (some .int), Cond.fieldLink RX2 15 "PluckBroker$Plan" "owners" "[I", Cond.methodLink RX3 114 yX2_rewardOf, Cond.instanceMethod yX2_rewardOf, Cond.selects RX2 yX2_rewardOf yX2_rewardOf, Cond.code yX2_rewardOf cX2_rewardOf 2 (some .int), Cond.fieldLink RX2 30 "PluckBroker$Plan" "rewards" "[I", Cond.methodLink RX3 92 yX3_pay, Cond.instanceMethod yX3_pay, Cond.selects RX3 yX3_pay yX3_pay, Cond.code yX3_pay cX3_pay 3 none]
def wsX5_due_r4 : List Cond := [Cond.methodLink RX3 108 yX3_sellOverdue, Cond.instanceMethod yX3_sellOverdue, Cond.selects RX3 yX3_sellOverdue yX3_sellOverdue, Cond.code yX3_sellOverdue cX3_sellOverdue 3 none, Cond.methodLink RX3 69 yX3_pledgedOn, Cond.instanceMethod yX3_pledgedOn, Cond.selects RX3 yX3_pledgedOn yX3_pledgedOn, Cond.code yX3_pledgedOn cX3_pledgedOn 2 (some .int), Cond.methodLink RX3 59 yX2_kindOf, Cond.instanceMethod yX2_kindOf, Cond.selects RX2 yX2_kindOf yX2_kindOf, Cond.code yX2_kindOf cX2_kindOf 2 (some .int), Cond.fieldLink RX2 21 "PluckBroker$Plan" "kinds" "[I", Cond.methodLink RX5 135 yX3_owedFor, Cond.instanceMethod yX3_owedFor, Cond.selects RX3 yX3_owedFor yX3_owedFor, Cond.code yX3_owedFor cX3_owedFor 2 (some .int), Cond.methodLink RX3 62 yX2_worthOf, Cond.instanceMethod yX2_worthOf, Cond.selects RX2 yX2_worthOf yX2_worthOf, Cond.code yX2_worthOf cX2_worthOf 2 (some .int), Cond.fieldLink RX2 18 "PluckBroker$Plan" "worths" "[I", Cond.static yX5_dueFor, Cond.code yX5_dueFor cX5_dueFor 4 (some .int)]
def wsX5_due : List Cond := .code yX5_due cX5_due 3 (some .int) :: ((wsX5_due_r1 ++ (wsX5_due_r2 ++ (wsX5_due_r3 ++ wsX5_due_r4))) ++ wsX50 ++ wsX20 ++ wsX30)
def wsX5_done_r1 : List Cond := [Cond.fieldLink RX5 35 "PluckBroker" "ahead" "LPluckBroker$State;", Cond.methodLink RX5 179 yX5_isNoDaysAhead, Cond.static yX5_isNoDaysAhead, Cond.initialized RX5, Cond.code yX5_isNoDaysAhead cX5_isNoDaysAhead 1 (some .boolean), Cond.methodLink RX5 182 yX5_lookAhead, Cond.instanceMethod yX5_lookAhead, Cond.selects RX5 yX5_lookAhead yX5_lookAhead, Cond.code yX5_lookAhead cX5_lookAhead 3 none, Cond.fieldLink RX5 31 "PluckBroker" "now" "LPluckBroker$State;", Cond.methodLink RX5 197 yX3_copy, Cond.instanceMethod yX3_copy, Cond.selects RX3 yX3_copy yX3_copy, Cond.initialized RX3, Cond.code yX3_copy cX3_copy 2 none, Cond.fieldLink RX3 11 "PluckBroker$State" "cells" "[I", Cond.methodLink RX3 36 yX3_saveTo, Cond.instanceMethod yX3_saveTo, Cond.selects RX3 yX3_saveTo yX3_saveTo, Cond.code yX3_saveTo cX3_saveTo 4 none, Cond.static yX5_put, Cond.code yX5_put cX5_put 3 none, Cond.methodLink RX5 157 yX3_passDay, Cond.instanceMethod yX3_passDay]
def wsX5_done_r2 : List Cond := [Cond.selects RX3 yX3_passDay yX3_passDay, Cond.code yX3_passDay cX3_passDay 3 (some .int), Cond.fieldLink RX3 15 "PluckBroker$State" "plan" "LPluckBroker$Plan;", Cond.methodLink RX3 102 yX2_dayOf, Cond.instanceMethod yX2_dayOf, Cond.selects RX2 yX2_dayOf yX2_dayOf, Cond.initialized RX2, Cond.code yX2_dayOf cX2_dayOf 2 (some .int), Cond.fieldLink RX2 27 "PluckBroker$Plan" "onDays" "[I", Cond.static yX5_cell, Cond.code yX5_cell cX5_cell 2 (some .int), Cond.methodLink RX3 65 yX3_today, Cond.instanceMethod yX3_today, Cond.selects RX3 yX3_today yX3_today, Cond.code yX3_today cX3_today 1 (some .int), Cond.methodLink RX3 105 yX3_tryDeed, Cond.instanceMethod yX3_tryDeed, Cond.selects RX3 yX3_tryDeed yX3_tryDeed, Cond.code yX3_tryDeed cX3_tryDeed 3 (some .boolean), Cond.methodLink RX3 111 yX2_wantedBy, Cond.instanceMethod yX2_wantedBy, Cond.selects RX2 yX2_wantedBy yX2_wantedBy, Cond.code yX2_wantedBy cX2_wantedBy 2 (some .int), Cond.fieldLink RX2 24 "PluckBroker$Plan" "wanted" "[I"]
def wsX5_done_r3 : List Cond := [Cond.methodLink RX3 50 yX3_standingOf, Cond.instanceMethod yX3_standingOf, Cond.selects RX3 yX3_standingOf yX3_standingOf, Cond.code yX3_standingOf cX3_standingOf 2 (some .int), Cond.methodLink RX3 76 yX2_ownerOf, Cond.instanceMethod yX2_ownerOf, Cond.selects RX2 yX2_ownerOf yX2_ownerOf, Cond.code yX2_ownerOf cX2_ownerOf 2 (some .int), Cond.fieldLink RX2 15 "PluckBroker$Plan" "owners" "[I", Cond.methodLink RX3 114 yX2_rewardOf, Cond.instanceMethod yX2_rewardOf, Cond.selects RX2 yX2_rewardOf yX2_rewardOf, Cond.code yX2_rewardOf cX2_rewardOf 2 (some .int), Cond.fieldLink RX2 30 "PluckBroker$Plan" "rewards" "[I", Cond.methodLink RX3 92 yX3_pay, Cond.instanceMethod yX3_pay, Cond.selects RX3 yX3_pay yX3_pay, Cond.code yX3_pay cX3_pay 3 none, Cond.methodLink RX3 108 yX3_sellOverdue, Cond.instanceMethod yX3_sellOverdue, Cond.selects RX3 yX3_sellOverdue yX3_sellOverdue, Cond.code yX3_sellOverdue cX3_sellOverdue 3 none, Cond.methodLink RX3 69 yX3_pledgedOn, Cond.instanceMethod yX3_pledgedOn]
def wsX5_done_r4 : List Cond := [Cond.selects RX3 yX3_pledgedOn yX3_pledgedOn, Cond.code yX3_pledgedOn cX3_pledgedOn 2 (some .int), Cond.methodLink RX3 59 yX2_kindOf, Cond.instanceMethod yX2_kindOf, Cond.selects RX2 yX2_kindOf yX2_kindOf, Cond.code yX2_kindOf cX2_kindOf 2 (some .int), Cond.fieldLink RX2 21 "PluckBroker$Plan" "kinds" "[I", Cond.methodLink RX5 97 yX3_deedsThatAre, Cond.instanceMethod yX3_deedsThatAre, Cond.selects RX3 yX3_deedsThatAre yX3_deedsThatAre, Cond.code yX3_deedsThatAre cX3_deedsThatAre 4 (some .int), Cond.methodLink RX3 56 yX3_outcomeOf, Cond.instanceMethod yX3_outcomeOf, Cond.selects RX3 yX3_outcomeOf yX3_outcomeOf, Cond.code yX3_outcomeOf cX3_outcomeOf 2 (some .int)]
def wsX5_done : List Cond := .code yX5_done cX5_done 2 (some .int) :: ((wsX5_done_r1 ++ (wsX5_done_r2 ++ (wsX5_done_r3 ++ wsX5_done_r4))) ++ wsX50 ++ wsX30 ++ wsX20)
def wsX5_coins_r1 : List Cond := [Cond.fieldLink RX5 19 "PluckBroker" "plan" "LPluckBroker$Plan;", Cond.fieldLink RX5 35 "PluckBroker" "ahead" "LPluckBroker$State;", Cond.methodLink RX5 104 yX2_hasPerson, Cond.instanceMethod yX2_hasPerson, Cond.selects RX2 yX2_hasPerson yX2_hasPerson, Cond.initialized RX2, Cond.code yX2_hasPerson cX2_hasPerson 2 (some .boolean), Cond.fieldLink RX2 37 "PluckBroker$Plan" "persons" "I", Cond.methodLink RX5 179 yX5_isNoDaysAhead, Cond.static yX5_isNoDaysAhead, Cond.initialized RX5, Cond.code yX5_isNoDaysAhead cX5_isNoDaysAhead 1 (some .boolean), Cond.methodLink RX5 182 yX5_lookAhead, Cond.instanceMethod yX5_lookAhead, Cond.selects RX5 yX5_lookAhead yX5_lookAhead, Cond.code yX5_lookAhead cX5_lookAhead 3 none, Cond.fieldLink RX5 31 "PluckBroker" "now" "LPluckBroker$State;", Cond.methodLink RX5 197 yX3_copy, Cond.instanceMethod yX3_copy, Cond.selects RX3 yX3_copy yX3_copy, Cond.initialized RX3, Cond.code yX3_copy cX3_copy 2 none, Cond.fieldLink RX3 11 "PluckBroker$State" "cells" "[I", Cond.methodLink RX3 36 yX3_saveTo]
def wsX5_coins_r2 : List Cond := [Cond.instanceMethod yX3_saveTo, Cond.selects RX3 yX3_saveTo yX3_saveTo, Cond.code yX3_saveTo cX3_saveTo 4 none, Cond.static yX5_put, Cond.code yX5_put cX5_put 3 none, Cond.methodLink RX5 157 yX3_passDay, Cond.instanceMethod yX3_passDay, Cond.selects RX3 yX3_passDay yX3_passDay, Cond.code yX3_passDay cX3_passDay 3 (some .int), Cond.fieldLink RX3 15 "PluckBroker$State" "plan" "LPluckBroker$Plan;", Cond.methodLink RX3 102 yX2_dayOf, Cond.instanceMethod yX2_dayOf, Cond.selects RX2 yX2_dayOf yX2_dayOf, Cond.code yX2_dayOf cX2_dayOf 2 (some .int), Cond.fieldLink RX2 27 "PluckBroker$Plan" "onDays" "[I", Cond.static yX5_cell, Cond.code yX5_cell cX5_cell 2 (some .int), Cond.methodLink RX3 65 yX3_today, Cond.instanceMethod yX3_today, Cond.selects RX3 yX3_today yX3_today, Cond.code yX3_today cX3_today 1 (some .int), Cond.methodLink RX3 105 yX3_tryDeed, Cond.instanceMethod yX3_tryDeed, Cond.selects RX3 yX3_tryDeed yX3_tryDeed]
def wsX5_coins_r3 : List Cond := [Cond.code yX3_tryDeed cX3_tryDeed 3 (some .boolean), Cond.methodLink RX3 111 yX2_wantedBy, Cond.instanceMethod yX2_wantedBy, Cond.selects RX2 yX2_wantedBy yX2_wantedBy, Cond.code yX2_wantedBy cX2_wantedBy 2 (some .int), Cond.fieldLink RX2 24 "PluckBroker$Plan" "wanted" "[I", Cond.methodLink RX3 50 yX3_standingOf, Cond.instanceMethod yX3_standingOf, Cond.selects RX3 yX3_standingOf yX3_standingOf, Cond.code yX3_standingOf cX3_standingOf 2 (some .int), Cond.methodLink RX3 76 yX2_ownerOf, Cond.instanceMethod yX2_ownerOf, Cond.selects RX2 yX2_ownerOf yX2_ownerOf, Cond.code yX2_ownerOf cX2_ownerOf 2 (some .int), Cond.fieldLink RX2 15 "PluckBroker$Plan" "owners" "[I", Cond.methodLink RX3 114 yX2_rewardOf, Cond.instanceMethod yX2_rewardOf, Cond.selects RX2 yX2_rewardOf yX2_rewardOf, Cond.code yX2_rewardOf cX2_rewardOf 2 (some .int), Cond.fieldLink RX2 30 "PluckBroker$Plan" "rewards" "[I", Cond.methodLink RX3 92 yX3_pay, Cond.instanceMethod yX3_pay, Cond.selects RX3 yX3_pay yX3_pay, Cond.code yX3_pay cX3_pay 3 none]
def wsX5_coins_r4 : List Cond := [Cond.methodLink RX3 108 yX3_sellOverdue, Cond.instanceMethod yX3_sellOverdue, Cond.selects RX3 yX3_sellOverdue yX3_sellOverdue, Cond.code yX3_sellOverdue cX3_sellOverdue 3 none, Cond.methodLink RX3 69 yX3_pledgedOn, Cond.instanceMethod yX3_pledgedOn, Cond.selects RX3 yX3_pledgedOn yX3_pledgedOn, Cond.code yX3_pledgedOn cX3_pledgedOn 2 (some .int), Cond.methodLink RX3 59 yX2_kindOf, Cond.instanceMethod yX2_kindOf, Cond.selects RX2 yX2_kindOf yX2_kindOf, Cond.code yX2_kindOf cX2_kindOf 2 (some .int), Cond.fieldLink RX2 21 "PluckBroker$Plan" "kinds" "[I", Cond.methodLink RX5 108 yX3_purseOf, Cond.instanceMethod yX3_purseOf, Cond.selects RX3 yX3_purseOf yX3_purseOf, Cond.code yX3_purseOf cX3_purseOf 2 (some .int)]
def wsX5_coins : List Cond := .code yX5_coins cX5_coins 3 (some .int) :: ((wsX5_coins_r1 ++ (wsX5_coins_r2 ++ (wsX5_coins_r3 ++ wsX5_coins_r4))) ++ wsX50 ++ wsX20 ++ wsX30)
def wsX5_isNoChoice : List Cond := .code yX5_isNoChoice cX5_isNoChoice 1 (some .boolean) :: ([])
def wsJ6_bitCount_0f7a4 : List Cond := .code yJ6_bitCount_0f7a4 cJ6_bitCount_0f7a4 1 (some .int) :: ([.constant RJ6 265 (1431655765), .constant RJ6 266 (858993459), .constant RJ6 267 (252645135)])
def wsX5_deedsIfPledged_r1 : List Cond := [Cond.fieldLink RX5 19 "PluckBroker" "plan" "LPluckBroker$Plan;", Cond.fieldLink RX5 35 "PluckBroker" "ahead" "LPluckBroker$State;", Cond.fieldLink RX5 31 "PluckBroker" "now" "LPluckBroker$State;", Cond.methodLink RX5 111 yX2_qualitiesOf, Cond.instanceMethod yX2_qualitiesOf, Cond.selects RX2 yX2_qualitiesOf yX2_qualitiesOf, Cond.initialized RX2, Cond.code yX2_qualitiesOf cX2_qualitiesOf 4 (some .int), Cond.fieldLink RX2 40 "PluckBroker$Plan" "qualities" "I", Cond.methodLink RX2 54 yX2_ownerOf, Cond.instanceMethod yX2_ownerOf, Cond.selects RX2 yX2_ownerOf yX2_ownerOf, Cond.code yX2_ownerOf cX2_ownerOf 2 (some .int), Cond.fieldLink RX2 15 "PluckBroker$Plan" "owners" "[I", Cond.static yX5_cell, Cond.initialized RX5, Cond.code yX5_cell cX5_cell 2 (some .int), Cond.methodLink RX5 197 yX3_copy, Cond.instanceMethod yX3_copy, Cond.selects RX3 yX3_copy yX3_copy, Cond.initialized RX3, Cond.code yX3_copy cX3_copy 2 none, Cond.fieldLink RX3 11 "PluckBroker$State" "cells" "[I", Cond.methodLink RX3 36 yX3_saveTo]
def wsX5_deedsIfPledged_r2 : List Cond := [Cond.instanceMethod yX3_saveTo, Cond.selects RX3 yX3_saveTo yX3_saveTo, Cond.code yX3_saveTo cX3_saveTo 4 none, Cond.static yX5_put, Cond.code yX5_put cX5_put 3 none, Cond.methodLink RX5 163 yX3_tryPledge, Cond.instanceMethod yX3_tryPledge, Cond.selects RX3 yX3_tryPledge yX3_tryPledge, Cond.code yX3_tryPledge cX3_tryPledge 2 (some .boolean), Cond.fieldLink RX3 15 "PluckBroker$State" "plan" "LPluckBroker$Plan;", Cond.methodLink RX3 89 yX3_canPledge, Cond.instanceMethod yX3_canPledge, Cond.selects RX3 yX3_canPledge yX3_canPledge, Cond.code yX3_canPledge cX3_canPledge 2 (some .boolean), Cond.methodLink RX3 79 yX2_hasQuality, Cond.instanceMethod yX2_hasQuality, Cond.selects RX2 yX2_hasQuality yX2_hasQuality, Cond.code yX2_hasQuality cX2_hasQuality 2 (some .boolean), Cond.methodLink RX3 50 yX3_standingOf, Cond.instanceMethod yX3_standingOf, Cond.selects RX3 yX3_standingOf yX3_standingOf, Cond.code yX3_standingOf cX3_standingOf 2 (some .int), Cond.methodLink RX3 83 yX3_inTill, Cond.instanceMethod yX3_inTill]
def wsX5_deedsIfPledged_r3 : List Cond := [Cond.selects RX3 yX3_inTill yX3_inTill, Cond.code yX3_inTill cX3_inTill 1 (some .int), Cond.methodLink RX3 62 yX2_worthOf, Cond.instanceMethod yX2_worthOf, Cond.selects RX2 yX2_worthOf yX2_worthOf, Cond.code yX2_worthOf cX2_worthOf 2 (some .int), Cond.fieldLink RX2 18 "PluckBroker$Plan" "worths" "[I", Cond.methodLink RX3 76 yX2_ownerOf, Cond.methodLink RX3 92 yX3_pay, Cond.instanceMethod yX3_pay, Cond.selects RX3 yX3_pay yX3_pay, Cond.code yX3_pay cX3_pay 3 none, Cond.methodLink RX3 65 yX3_today, Cond.instanceMethod yX3_today, Cond.selects RX3 yX3_today yX3_today, Cond.code yX3_today cX3_today 1 (some .int), Cond.methodLink RX5 108 yX3_purseOf, Cond.instanceMethod yX3_purseOf, Cond.selects RX3 yX3_purseOf yX3_purseOf, Cond.code yX3_purseOf cX3_purseOf 2 (some .int), Cond.methodLink RX5 209 yX3_deedsInTheEnd, Cond.instanceMethod yX3_deedsInTheEnd, Cond.selects RX3 yX3_deedsInTheEnd yX3_deedsInTheEnd, Cond.code yX3_deedsInTheEnd cX3_deedsInTheEnd 2 (some .int)]
def wsX5_deedsIfPledged_r4 : List Cond := [Cond.methodLink RX3 117 yX3_passDay, Cond.instanceMethod yX3_passDay, Cond.selects RX3 yX3_passDay yX3_passDay, Cond.code yX3_passDay cX3_passDay 3 (some .int), Cond.methodLink RX3 102 yX2_dayOf, Cond.instanceMethod yX2_dayOf, Cond.selects RX2 yX2_dayOf yX2_dayOf, Cond.code yX2_dayOf cX2_dayOf 2 (some .int), Cond.fieldLink RX2 27 "PluckBroker$Plan" "onDays" "[I", Cond.methodLink RX3 105 yX3_tryDeed, Cond.instanceMethod yX3_tryDeed, Cond.selects RX3 yX3_tryDeed yX3_tryDeed, Cond.code yX3_tryDeed cX3_tryDeed 3 (some .boolean), Cond.methodLink RX3 111 yX2_wantedBy, Cond.instanceMethod yX2_wantedBy, Cond.selects RX2 yX2_wantedBy yX2_wantedBy, Cond.code yX2_wantedBy cX2_wantedBy 2 (some .int), Cond.fieldLink RX2 24 "PluckBroker$Plan" "wanted" "[I", Cond.methodLink RX3 114 yX2_rewardOf, Cond.instanceMethod yX2_rewardOf, Cond.selects RX2 yX2_rewardOf yX2_rewardOf, Cond.code yX2_rewardOf cX2_rewardOf 2 (some .int), Cond.fieldLink RX2 30 "PluckBroker$Plan" "rewards" "[I", Cond.methodLink RX3 108 yX3_sellOverdue]
def wsX5_deedsIfPledged_r5 : List Cond := [Cond.instanceMethod yX3_sellOverdue, Cond.selects RX3 yX3_sellOverdue yX3_sellOverdue, Cond.code yX3_sellOverdue cX3_sellOverdue 3 none, Cond.methodLink RX3 69 yX3_pledgedOn, Cond.instanceMethod yX3_pledgedOn, Cond.selects RX3 yX3_pledgedOn yX3_pledgedOn, Cond.code yX3_pledgedOn cX3_pledgedOn 2 (some .int), Cond.methodLink RX3 59 yX2_kindOf, Cond.instanceMethod yX2_kindOf, Cond.selects RX2 yX2_kindOf yX2_kindOf, Cond.code yX2_kindOf cX2_kindOf 2 (some .int), Cond.fieldLink RX2 21 "PluckBroker$Plan" "kinds" "[I", Cond.methodLink RX3 120 yX3_deedsThatAre, Cond.instanceMethod yX3_deedsThatAre, Cond.selects RX3 yX3_deedsThatAre yX3_deedsThatAre, Cond.code yX3_deedsThatAre cX3_deedsThatAre 4 (some .int), Cond.methodLink RX3 56 yX3_outcomeOf, Cond.instanceMethod yX3_outcomeOf, Cond.selects RX3 yX3_outcomeOf yX3_outcomeOf, Cond.code yX3_outcomeOf cX3_outcomeOf 2 (some .int), Cond.methodLink RX5 114 yX2_deedsOf, Cond.instanceMethod yX2_deedsOf, Cond.selects RX2 yX2_deedsOf yX2_deedsOf, Cond.code yX2_deedsOf cX2_deedsOf 4 (some .int)]
def wsX5_deedsIfPledged_r6 : List Cond := [Cond.fieldLink RX2 43 "PluckBroker$Plan" "deeds" "I", Cond.methodLink RX2 58 yX2_wantedBy, Cond.methodLink RX5 192 yJ6_bitCount_0f7a4, Cond.static yJ6_bitCount_0f7a4, Cond.initialized RJ6, Cond.code yJ6_bitCount_0f7a4 cJ6_bitCount_0f7a4 1 (some .int), Cond.constant RJ6 265 (1431655765), Cond.constant RJ6 266 (858993459), Cond.constant RJ6 267 (252645135)]
def wsX5_deedsIfPledged : List Cond := .code yX5_deedsIfPledged cX5_deedsIfPledged 5 (some .int) :: ((wsX5_deedsIfPledged_r1 ++ (wsX5_deedsIfPledged_r2 ++ (wsX5_deedsIfPledged_r3 ++ (wsX5_deedsIfPledged_r4 ++ (wsX5_deedsIfPledged_r5 ++ wsX5_deedsIfPledged_r6))))) ++ wsX50 ++ wsX20 ++ wsX30)
def wsX5_raise_r1 : List Cond := [Cond.fieldLink RX5 19 "PluckBroker" "plan" "LPluckBroker$Plan;", Cond.methodLink RX5 104 yX2_hasPerson, Cond.instanceMethod yX2_hasPerson, Cond.selects RX2 yX2_hasPerson yX2_hasPerson, Cond.initialized RX2, Cond.code yX2_hasPerson cX2_hasPerson 2 (some .boolean), Cond.fieldLink RX2 37 "PluckBroker$Plan" "persons" "I", Cond.methodLink RX5 185 yX5_isNoChoice, Cond.static yX5_isNoChoice, Cond.initialized RX5, Cond.code yX5_isNoChoice cX5_isNoChoice 1 (some .boolean), Cond.methodLink RX5 188 yX5_deedsIfPledged, Cond.instanceMethod yX5_deedsIfPledged, Cond.selects RX5 yX5_deedsIfPledged yX5_deedsIfPledged, Cond.code yX5_deedsIfPledged cX5_deedsIfPledged 5 (some .int), Cond.fieldLink RX5 35 "PluckBroker" "ahead" "LPluckBroker$State;", Cond.fieldLink RX5 31 "PluckBroker" "now" "LPluckBroker$State;", Cond.methodLink RX5 111 yX2_qualitiesOf, Cond.instanceMethod yX2_qualitiesOf, Cond.selects RX2 yX2_qualitiesOf yX2_qualitiesOf, Cond.code yX2_qualitiesOf cX2_qualitiesOf 4 (some .int), Cond.fieldLink RX2 40 "PluckBroker$Plan" "qualities" "I", Cond.methodLink RX2 54 yX2_ownerOf, Cond.instanceMethod yX2_ownerOf]
def wsX5_raise_r2 : List Cond := [Cond.selects RX2 yX2_ownerOf yX2_ownerOf, Cond.code yX2_ownerOf cX2_ownerOf 2 (some .int), Cond.fieldLink RX2 15 "PluckBroker$Plan" "owners" "[I", Cond.static yX5_cell, Cond.code yX5_cell cX5_cell 2 (some .int), Cond.methodLink RX5 197 yX3_copy, Cond.instanceMethod yX3_copy, Cond.selects RX3 yX3_copy yX3_copy, Cond.initialized RX3, Cond.code yX3_copy cX3_copy 2 none, Cond.fieldLink RX3 11 "PluckBroker$State" "cells" "[I", Cond.methodLink RX3 36 yX3_saveTo, Cond.instanceMethod yX3_saveTo, Cond.selects RX3 yX3_saveTo yX3_saveTo, Cond.code yX3_saveTo cX3_saveTo 4 none, Cond.static yX5_put, Cond.code yX5_put cX5_put 3 none, Cond.methodLink RX5 163 yX3_tryPledge, Cond.instanceMethod yX3_tryPledge, Cond.selects RX3 yX3_tryPledge yX3_tryPledge, Cond.code yX3_tryPledge cX3_tryPledge 2 (some .boolean), Cond.fieldLink RX3 15 "PluckBroker$State" "plan" "LPluckBroker$Plan;", Cond.methodLink RX3 89 yX3_canPledge, Cond.instanceMethod yX3_canPledge]
def wsX5_raise_r3 : List Cond := [Cond.selects RX3 yX3_canPledge yX3_canPledge, Cond.code yX3_canPledge cX3_canPledge 2 (some .boolean), Cond.methodLink RX3 79 yX2_hasQuality, Cond.instanceMethod yX2_hasQuality, Cond.selects RX2 yX2_hasQuality yX2_hasQuality, Cond.code yX2_hasQuality cX2_hasQuality 2 (some .boolean), Cond.methodLink RX3 50 yX3_standingOf, Cond.instanceMethod yX3_standingOf, Cond.selects RX3 yX3_standingOf yX3_standingOf, Cond.code yX3_standingOf cX3_standingOf 2 (some .int), Cond.methodLink RX3 83 yX3_inTill, Cond.instanceMethod yX3_inTill, Cond.selects RX3 yX3_inTill yX3_inTill, Cond.code yX3_inTill cX3_inTill 1 (some .int), Cond.methodLink RX3 62 yX2_worthOf, Cond.instanceMethod yX2_worthOf, Cond.selects RX2 yX2_worthOf yX2_worthOf, Cond.code yX2_worthOf cX2_worthOf 2 (some .int), Cond.fieldLink RX2 18 "PluckBroker$Plan" "worths" "[I", Cond.methodLink RX3 76 yX2_ownerOf, Cond.methodLink RX3 92 yX3_pay, Cond.instanceMethod yX3_pay, Cond.selects RX3 yX3_pay yX3_pay, Cond.code yX3_pay cX3_pay 3 none]
def wsX5_raise_r4 : List Cond := [Cond.methodLink RX3 65 yX3_today, Cond.instanceMethod yX3_today, Cond.selects RX3 yX3_today yX3_today, Cond.code yX3_today cX3_today 1 (some .int), Cond.methodLink RX5 108 yX3_purseOf, Cond.instanceMethod yX3_purseOf, Cond.selects RX3 yX3_purseOf yX3_purseOf, Cond.code yX3_purseOf cX3_purseOf 2 (some .int), Cond.methodLink RX5 209 yX3_deedsInTheEnd, Cond.instanceMethod yX3_deedsInTheEnd, Cond.selects RX3 yX3_deedsInTheEnd yX3_deedsInTheEnd, Cond.code yX3_deedsInTheEnd cX3_deedsInTheEnd 2 (some .int), Cond.methodLink RX3 117 yX3_passDay, Cond.instanceMethod yX3_passDay, Cond.selects RX3 yX3_passDay yX3_passDay, Cond.code yX3_passDay cX3_passDay 3 (some .int), Cond.methodLink RX3 102 yX2_dayOf, Cond.instanceMethod yX2_dayOf, Cond.selects RX2 yX2_dayOf yX2_dayOf, Cond.code yX2_dayOf cX2_dayOf 2 (some .int), Cond.fieldLink RX2 27 "PluckBroker$Plan" "onDays" "[I", Cond.methodLink RX3 105 yX3_tryDeed, Cond.instanceMethod yX3_tryDeed, Cond.selects RX3 yX3_tryDeed yX3_tryDeed]
def wsX5_raise_r5 : List Cond := [Cond.code yX3_tryDeed cX3_tryDeed 3 (some .boolean), Cond.methodLink RX3 111 yX2_wantedBy, Cond.instanceMethod yX2_wantedBy, Cond.selects RX2 yX2_wantedBy yX2_wantedBy, Cond.code yX2_wantedBy cX2_wantedBy 2 (some .int), Cond.fieldLink RX2 24 "PluckBroker$Plan" "wanted" "[I", Cond.methodLink RX3 114 yX2_rewardOf, Cond.instanceMethod yX2_rewardOf, Cond.selects RX2 yX2_rewardOf yX2_rewardOf, Cond.code yX2_rewardOf cX2_rewardOf 2 (some .int), Cond.fieldLink RX2 30 "PluckBroker$Plan" "rewards" "[I", Cond.methodLink RX3 108 yX3_sellOverdue, Cond.instanceMethod yX3_sellOverdue, Cond.selects RX3 yX3_sellOverdue yX3_sellOverdue, Cond.code yX3_sellOverdue cX3_sellOverdue 3 none, Cond.methodLink RX3 69 yX3_pledgedOn, Cond.instanceMethod yX3_pledgedOn, Cond.selects RX3 yX3_pledgedOn yX3_pledgedOn, Cond.code yX3_pledgedOn cX3_pledgedOn 2 (some .int), Cond.methodLink RX3 59 yX2_kindOf, Cond.instanceMethod yX2_kindOf, Cond.selects RX2 yX2_kindOf yX2_kindOf, Cond.code yX2_kindOf cX2_kindOf 2 (some .int), Cond.fieldLink RX2 21 "PluckBroker$Plan" "kinds" "[I"]
def wsX5_raise_r6 : List Cond := [Cond.methodLink RX3 120 yX3_deedsThatAre, Cond.instanceMethod yX3_deedsThatAre, Cond.selects RX3 yX3_deedsThatAre yX3_deedsThatAre, Cond.code yX3_deedsThatAre cX3_deedsThatAre 4 (some .int), Cond.methodLink RX3 56 yX3_outcomeOf, Cond.instanceMethod yX3_outcomeOf, Cond.selects RX3 yX3_outcomeOf yX3_outcomeOf, Cond.code yX3_outcomeOf cX3_outcomeOf 2 (some .int), Cond.methodLink RX5 114 yX2_deedsOf, Cond.instanceMethod yX2_deedsOf, Cond.selects RX2 yX2_deedsOf yX2_deedsOf, Cond.code yX2_deedsOf cX2_deedsOf 4 (some .int), Cond.fieldLink RX2 43 "PluckBroker$Plan" "deeds" "I", Cond.methodLink RX2 58 yX2_wantedBy, Cond.methodLink RX5 192 yJ6_bitCount_0f7a4, Cond.static yJ6_bitCount_0f7a4, Cond.initialized RJ6, Cond.code yJ6_bitCount_0f7a4 cJ6_bitCount_0f7a4 1 (some .int), Cond.constant RJ6 265 (1431655765), Cond.constant RJ6 266 (858993459), Cond.constant RJ6 267 (252645135)]
def wsX5_raise : List Cond := .code yX5_raise cX5_raise 9 (some .int) :: ((wsX5_raise_r1 ++ (wsX5_raise_r2 ++ (wsX5_raise_r3 ++ (wsX5_raise_r4 ++ (wsX5_raise_r5 ++ wsX5_raise_r6))))) ++ wsX50 ++ wsX20 ++ wsX30)
def wsX5_back_r1 : List Cond := [Cond.fieldLink RX5 19 "PluckBroker" "plan" "LPluckBroker$Plan;", Cond.fieldLink RX5 31 "PluckBroker" "now" "LPluckBroker$State;", Cond.fieldLink RX5 35 "PluckBroker" "ahead" "LPluckBroker$State;", Cond.methodLink RX5 117 yX2_hasQuality, Cond.instanceMethod yX2_hasQuality, Cond.selects RX2 yX2_hasQuality yX2_hasQuality, Cond.initialized RX2, Cond.code yX2_hasQuality cX2_hasQuality 2 (some .boolean), Cond.fieldLink RX2 40 "PluckBroker$Plan" "qualities" "I", Cond.methodLink RX5 129 yX3_standingOf, Cond.instanceMethod yX3_standingOf, Cond.selects RX3 yX3_standingOf yX3_standingOf, Cond.initialized RX3, Cond.code yX3_standingOf cX3_standingOf 2 (some .int), Cond.fieldLink RX3 11 "PluckBroker$State" "cells" "[I", Cond.static yX5_cell, Cond.initialized RX5, Cond.code yX5_cell cX5_cell 2 (some .int), Cond.methodLink RX5 197 yX3_copy, Cond.instanceMethod yX3_copy, Cond.selects RX3 yX3_copy yX3_copy, Cond.code yX3_copy cX3_copy 2 none, Cond.methodLink RX3 36 yX3_saveTo, Cond.instanceMethod yX3_saveTo]
def wsX5_back_r2 : List Cond := [Cond.selects RX3 yX3_saveTo yX3_saveTo, Cond.code yX3_saveTo cX3_saveTo 4 none, Cond.static yX5_put, Cond.code yX5_put cX5_put 3 none, Cond.methodLink RX5 166 yX3_canRedeem, Cond.instanceMethod yX3_canRedeem, Cond.selects RX3 yX3_canRedeem yX3_canRedeem, Cond.code yX3_canRedeem cX3_canRedeem 2 (some .boolean), Cond.fieldLink RX3 15 "PluckBroker$State" "plan" "LPluckBroker$Plan;", Cond.methodLink RX3 79 yX2_hasQuality, Cond.methodLink RX3 50 yX3_standingOf, Cond.methodLink RX3 76 yX2_ownerOf, Cond.instanceMethod yX2_ownerOf, Cond.selects RX2 yX2_ownerOf yX2_ownerOf, Cond.code yX2_ownerOf cX2_ownerOf 2 (some .int), Cond.fieldLink RX2 15 "PluckBroker$Plan" "owners" "[I", Cond.methodLink RX3 44 yX3_purseOf, Cond.instanceMethod yX3_purseOf, Cond.selects RX3 yX3_purseOf yX3_purseOf, Cond.code yX3_purseOf cX3_purseOf 2 (some .int), Cond.methodLink RX3 86 yX3_owedFor, Cond.instanceMethod yX3_owedFor, Cond.selects RX3 yX3_owedFor yX3_owedFor, Cond.code yX3_owedFor cX3_owedFor 2 (some .int)]
def wsX5_back_r3 : List Cond := [Cond.methodLink RX3 59 yX2_kindOf, Cond.instanceMethod yX2_kindOf, Cond.selects RX2 yX2_kindOf yX2_kindOf, Cond.code yX2_kindOf cX2_kindOf 2 (some .int), Cond.fieldLink RX2 21 "PluckBroker$Plan" "kinds" "[I", Cond.methodLink RX3 62 yX2_worthOf, Cond.instanceMethod yX2_worthOf, Cond.selects RX2 yX2_worthOf yX2_worthOf, Cond.code yX2_worthOf cX2_worthOf 2 (some .int), Cond.fieldLink RX2 18 "PluckBroker$Plan" "worths" "[I", Cond.methodLink RX3 65 yX3_today, Cond.instanceMethod yX3_today, Cond.selects RX3 yX3_today yX3_today, Cond.code yX3_today cX3_today 1 (some .int), Cond.methodLink RX3 69 yX3_pledgedOn, Cond.instanceMethod yX3_pledgedOn, Cond.selects RX3 yX3_pledgedOn yX3_pledgedOn, Cond.code yX3_pledgedOn cX3_pledgedOn 2 (some .int), Cond.static yX5_dueFor, Cond.code yX5_dueFor cX5_dueFor 4 (some .int), Cond.methodLink RX5 157 yX3_passDay, Cond.instanceMethod yX3_passDay, Cond.selects RX3 yX3_passDay yX3_passDay, Cond.code yX3_passDay cX3_passDay 3 (some .int)]
def wsX5_back_r4 : List Cond := [Cond.methodLink RX3 102 yX2_dayOf, Cond.instanceMethod yX2_dayOf, Cond.selects RX2 yX2_dayOf yX2_dayOf, Cond.code yX2_dayOf cX2_dayOf 2 (some .int), Cond.fieldLink RX2 27 "PluckBroker$Plan" "onDays" "[I", Cond.methodLink RX3 105 yX3_tryDeed, Cond.instanceMethod yX3_tryDeed, Cond.selects RX3 yX3_tryDeed yX3_tryDeed, Cond.code yX3_tryDeed cX3_tryDeed 3 (some .boolean), Cond.methodLink RX3 111 yX2_wantedBy, Cond.instanceMethod yX2_wantedBy, Cond.selects RX2 yX2_wantedBy yX2_wantedBy, Cond.code yX2_wantedBy cX2_wantedBy 2 (some .int), Cond.fieldLink RX2 24 "PluckBroker$Plan" "wanted" "[I", Cond.methodLink RX3 114 yX2_rewardOf, Cond.instanceMethod yX2_rewardOf, Cond.selects RX2 yX2_rewardOf yX2_rewardOf, Cond.code yX2_rewardOf cX2_rewardOf 2 (some .int), Cond.fieldLink RX2 30 "PluckBroker$Plan" "rewards" "[I", Cond.methodLink RX3 92 yX3_pay, Cond.instanceMethod yX3_pay, Cond.selects RX3 yX3_pay yX3_pay, Cond.code yX3_pay cX3_pay 3 none, Cond.methodLink RX3 108 yX3_sellOverdue]
def wsX5_back_r5 : List Cond := [Cond.instanceMethod yX3_sellOverdue, Cond.selects RX3 yX3_sellOverdue yX3_sellOverdue, Cond.code yX3_sellOverdue cX3_sellOverdue 3 none]
def wsX5_back : List Cond := .code yX5_back cX5_back 3 (some .int) :: ((wsX5_back_r1 ++ (wsX5_back_r2 ++ (wsX5_back_r3 ++ (wsX5_back_r4 ++ wsX5_back_r5)))) ++ wsX50 ++ wsX20 ++ wsX30)
def wsX5_judge_r1 : List Cond := [Cond.constantLong RX5 200 (1000), Cond.fieldLink RX5 35 "PluckBroker" "ahead" "LPluckBroker$State;", Cond.fieldLink RX5 31 "PluckBroker" "now" "LPluckBroker$State;", Cond.methodLink RX5 197 yX3_copy, Cond.instanceMethod yX3_copy, Cond.selects RX3 yX3_copy yX3_copy, Cond.initialized RX3, Cond.code yX3_copy cX3_copy 2 none, Cond.fieldLink RX3 11 "PluckBroker$State" "cells" "[I", Cond.methodLink RX3 36 yX3_saveTo, Cond.instanceMethod yX3_saveTo, Cond.selects RX3 yX3_saveTo yX3_saveTo, Cond.code yX3_saveTo cX3_saveTo 4 none, Cond.static yX5_put, Cond.initialized RX5, Cond.code yX5_put cX5_put 3 none, Cond.methodLink RX5 202 yX3_goesThrough, Cond.instanceMethod yX3_goesThrough, Cond.selects RX3 yX3_goesThrough yX3_goesThrough, Cond.code yX3_goesThrough cX3_goesThrough 4 (some .boolean), Cond.fieldLink RX3 15 "PluckBroker$State" "plan" "LPluckBroker$Plan;", Cond.methodLink RX3 123 yX3_tryGive, Cond.instanceMethod yX3_tryGive, Cond.selects RX3 yX3_tryGive yX3_tryGive]
def wsX5_judge_r2 : List Cond := [Cond.code yX3_tryGive cX3_tryGive 3 (some .boolean), Cond.methodLink RX3 99 yX2_hasPerson, Cond.instanceMethod yX2_hasPerson, Cond.selects RX2 yX2_hasPerson yX2_hasPerson, Cond.initialized RX2, Cond.code yX2_hasPerson cX2_hasPerson 2 (some .boolean), Cond.fieldLink RX2 37 "PluckBroker$Plan" "persons" "I", Cond.methodLink RX3 92 yX3_pay, Cond.instanceMethod yX3_pay, Cond.selects RX3 yX3_pay yX3_pay, Cond.code yX3_pay cX3_pay 3 none, Cond.static yX5_cell, Cond.code yX5_cell cX5_cell 2 (some .int), Cond.methodLink RX3 44 yX3_purseOf, Cond.instanceMethod yX3_purseOf, Cond.selects RX3 yX3_purseOf yX3_purseOf, Cond.code yX3_purseOf cX3_purseOf 2 (some .int), Cond.methodLink RX3 117 yX3_passDay, Cond.instanceMethod yX3_passDay, Cond.selects RX3 yX3_passDay yX3_passDay, Cond.code yX3_passDay cX3_passDay 3 (some .int), Cond.methodLink RX3 102 yX2_dayOf, Cond.instanceMethod yX2_dayOf, Cond.selects RX2 yX2_dayOf yX2_dayOf]
def wsX5_judge_r3 : List Cond := [Cond.code yX2_dayOf cX2_dayOf 2 (some .int), Cond.fieldLink RX2 27 "PluckBroker$Plan" "onDays" "[I", Cond.methodLink RX3 65 yX3_today, Cond.instanceMethod yX3_today, Cond.selects RX3 yX3_today yX3_today, Cond.code yX3_today cX3_today 1 (some .int), Cond.methodLink RX3 105 yX3_tryDeed, Cond.instanceMethod yX3_tryDeed, Cond.selects RX3 yX3_tryDeed yX3_tryDeed, Cond.code yX3_tryDeed cX3_tryDeed 3 (some .boolean), Cond.methodLink RX3 111 yX2_wantedBy, Cond.instanceMethod yX2_wantedBy, Cond.selects RX2 yX2_wantedBy yX2_wantedBy, Cond.code yX2_wantedBy cX2_wantedBy 2 (some .int), Cond.fieldLink RX2 24 "PluckBroker$Plan" "wanted" "[I", Cond.methodLink RX3 50 yX3_standingOf, Cond.instanceMethod yX3_standingOf, Cond.selects RX3 yX3_standingOf yX3_standingOf, Cond.code yX3_standingOf cX3_standingOf 2 (some .int), Cond.methodLink RX3 76 yX2_ownerOf, Cond.instanceMethod yX2_ownerOf, Cond.selects RX2 yX2_ownerOf yX2_ownerOf, Cond.code yX2_ownerOf cX2_ownerOf 2 (some .int), Cond.fieldLink RX2 15 "PluckBroker$Plan" "owners" "[I"]
def wsX5_judge_r4 : List Cond := [Cond.methodLink RX3 114 yX2_rewardOf, Cond.instanceMethod yX2_rewardOf, Cond.selects RX2 yX2_rewardOf yX2_rewardOf, Cond.code yX2_rewardOf cX2_rewardOf 2 (some .int), Cond.fieldLink RX2 30 "PluckBroker$Plan" "rewards" "[I", Cond.methodLink RX3 108 yX3_sellOverdue, Cond.instanceMethod yX3_sellOverdue, Cond.selects RX3 yX3_sellOverdue yX3_sellOverdue, Cond.code yX3_sellOverdue cX3_sellOverdue 3 none, Cond.methodLink RX3 69 yX3_pledgedOn, Cond.instanceMethod yX3_pledgedOn, Cond.selects RX3 yX3_pledgedOn yX3_pledgedOn, Cond.code yX3_pledgedOn cX3_pledgedOn 2 (some .int), Cond.methodLink RX3 59 yX2_kindOf, Cond.instanceMethod yX2_kindOf, Cond.selects RX2 yX2_kindOf yX2_kindOf, Cond.code yX2_kindOf cX2_kindOf 2 (some .int), Cond.fieldLink RX2 21 "PluckBroker$Plan" "kinds" "[I", Cond.methodLink RX3 127 yX3_tryPledge, Cond.instanceMethod yX3_tryPledge, Cond.selects RX3 yX3_tryPledge yX3_tryPledge, Cond.code yX3_tryPledge cX3_tryPledge 2 (some .boolean), Cond.methodLink RX3 89 yX3_canPledge, Cond.instanceMethod yX3_canPledge]
def wsX5_judge_r5 : List Cond := [Cond.selects RX3 yX3_canPledge yX3_canPledge, Cond.code yX3_canPledge cX3_canPledge 2 (some .boolean), Cond.methodLink RX3 79 yX2_hasQuality, Cond.instanceMethod yX2_hasQuality, Cond.selects RX2 yX2_hasQuality yX2_hasQuality, Cond.code yX2_hasQuality cX2_hasQuality 2 (some .boolean), Cond.fieldLink RX2 40 "PluckBroker$Plan" "qualities" "I", Cond.methodLink RX3 83 yX3_inTill, Cond.instanceMethod yX3_inTill, Cond.selects RX3 yX3_inTill yX3_inTill, Cond.code yX3_inTill cX3_inTill 1 (some .int), Cond.methodLink RX3 62 yX2_worthOf, Cond.instanceMethod yX2_worthOf, Cond.selects RX2 yX2_worthOf yX2_worthOf, Cond.code yX2_worthOf cX2_worthOf 2 (some .int), Cond.fieldLink RX2 18 "PluckBroker$Plan" "worths" "[I", Cond.methodLink RX3 130 yX3_tryRedeem, Cond.instanceMethod yX3_tryRedeem, Cond.selects RX3 yX3_tryRedeem yX3_tryRedeem, Cond.code yX3_tryRedeem cX3_tryRedeem 3 (some .boolean), Cond.methodLink RX3 96 yX3_canRedeem, Cond.instanceMethod yX3_canRedeem, Cond.selects RX3 yX3_canRedeem yX3_canRedeem, Cond.code yX3_canRedeem cX3_canRedeem 2 (some .boolean)]
def wsX5_judge_r6 : List Cond := [Cond.methodLink RX3 86 yX3_owedFor, Cond.instanceMethod yX3_owedFor, Cond.selects RX3 yX3_owedFor yX3_owedFor, Cond.code yX3_owedFor cX3_owedFor 2 (some .int), Cond.static yX5_dueFor, Cond.code yX5_dueFor cX5_dueFor 4 (some .int), Cond.methodLink RX3 133 yX2_hasDeed, Cond.instanceMethod yX2_hasDeed, Cond.selects RX2 yX2_hasDeed yX2_hasDeed, Cond.code yX2_hasDeed cX2_hasDeed 2 (some .boolean), Cond.fieldLink RX2 43 "PluckBroker$Plan" "deeds" "I", Cond.methodLink RX3 56 yX3_outcomeOf, Cond.instanceMethod yX3_outcomeOf, Cond.selects RX3 yX3_outcomeOf yX3_outcomeOf, Cond.code yX3_outcomeOf cX3_outcomeOf 2 (some .int)]
def wsX5_judge : List Cond := .code yX5_judge cX5_judge 10 (some .int) :: ((wsX5_judge_r1 ++ (wsX5_judge_r2 ++ (wsX5_judge_r3 ++ (wsX5_judge_r4 ++ (wsX5_judge_r5 ++ wsX5_judge_r6))))) ++ wsX50 ++ wsX30 ++ wsX20)
def wsX5_partOfFraction : List Cond := .code yX5_partOfFraction cX5_partOfFraction 7 (some .int) :: ([])
def wsX5_share_r1 : List Cond := [Cond.fieldLink RX5 19 "PluckBroker" "plan" "LPluckBroker$Plan;", Cond.fieldLink RX5 35 "PluckBroker" "ahead" "LPluckBroker$State;", Cond.fieldLink RX5 31 "PluckBroker" "now" "LPluckBroker$State;", Cond.methodLink RX5 117 yX2_hasQuality, Cond.instanceMethod yX2_hasQuality, Cond.selects RX2 yX2_hasQuality yX2_hasQuality, Cond.initialized RX2, Cond.code yX2_hasQuality cX2_hasQuality 2 (some .boolean), Cond.fieldLink RX2 40 "PluckBroker$Plan" "qualities" "I", Cond.methodLink RX5 197 yX3_copy, Cond.instanceMethod yX3_copy, Cond.selects RX3 yX3_copy yX3_copy, Cond.initialized RX3, Cond.code yX3_copy cX3_copy 2 none, Cond.fieldLink RX3 11 "PluckBroker$State" "cells" "[I", Cond.methodLink RX3 36 yX3_saveTo, Cond.instanceMethod yX3_saveTo, Cond.selects RX3 yX3_saveTo yX3_saveTo, Cond.code yX3_saveTo cX3_saveTo 4 none, Cond.static yX5_put, Cond.initialized RX5, Cond.code yX5_put cX5_put 3 none, Cond.methodLink RX5 206 yX3_sellAllBut, Cond.instanceMethod yX3_sellAllBut]
def wsX5_share_r2 : List Cond := [Cond.selects RX3 yX3_sellAllBut yX3_sellAllBut, Cond.code yX3_sellAllBut cX3_sellAllBut 3 none, Cond.fieldLink RX3 15 "PluckBroker$State" "plan" "LPluckBroker$Plan;", Cond.methodLink RX5 209 yX3_deedsInTheEnd, Cond.instanceMethod yX3_deedsInTheEnd, Cond.selects RX3 yX3_deedsInTheEnd yX3_deedsInTheEnd, Cond.code yX3_deedsInTheEnd cX3_deedsInTheEnd 2 (some .int), Cond.methodLink RX3 117 yX3_passDay, Cond.instanceMethod yX3_passDay, Cond.selects RX3 yX3_passDay yX3_passDay, Cond.code yX3_passDay cX3_passDay 3 (some .int), Cond.methodLink RX3 102 yX2_dayOf, Cond.instanceMethod yX2_dayOf, Cond.selects RX2 yX2_dayOf yX2_dayOf, Cond.code yX2_dayOf cX2_dayOf 2 (some .int), Cond.fieldLink RX2 27 "PluckBroker$Plan" "onDays" "[I", Cond.static yX5_cell, Cond.code yX5_cell cX5_cell 2 (some .int), Cond.methodLink RX3 65 yX3_today, Cond.instanceMethod yX3_today, Cond.selects RX3 yX3_today yX3_today, Cond.code yX3_today cX3_today 1 (some .int), Cond.methodLink RX3 105 yX3_tryDeed, Cond.instanceMethod yX3_tryDeed]
def wsX5_share_r3 : List Cond := [Cond.selects RX3 yX3_tryDeed yX3_tryDeed, Cond.code yX3_tryDeed cX3_tryDeed 3 (some .boolean), Cond.methodLink RX3 111 yX2_wantedBy, Cond.instanceMethod yX2_wantedBy, Cond.selects RX2 yX2_wantedBy yX2_wantedBy, Cond.code yX2_wantedBy cX2_wantedBy 2 (some .int), Cond.fieldLink RX2 24 "PluckBroker$Plan" "wanted" "[I", Cond.methodLink RX3 50 yX3_standingOf, Cond.instanceMethod yX3_standingOf, Cond.selects RX3 yX3_standingOf yX3_standingOf, Cond.code yX3_standingOf cX3_standingOf 2 (some .int), Cond.methodLink RX3 76 yX2_ownerOf, Cond.instanceMethod yX2_ownerOf, Cond.selects RX2 yX2_ownerOf yX2_ownerOf, Cond.code yX2_ownerOf cX2_ownerOf 2 (some .int), Cond.fieldLink RX2 15 "PluckBroker$Plan" "owners" "[I", Cond.methodLink RX3 114 yX2_rewardOf, Cond.instanceMethod yX2_rewardOf, Cond.selects RX2 yX2_rewardOf yX2_rewardOf, Cond.code yX2_rewardOf cX2_rewardOf 2 (some .int), Cond.fieldLink RX2 30 "PluckBroker$Plan" "rewards" "[I", Cond.methodLink RX3 92 yX3_pay, Cond.instanceMethod yX3_pay, Cond.selects RX3 yX3_pay yX3_pay]
def wsX5_share_r4 : List Cond := [Cond.code yX3_pay cX3_pay 3 none, Cond.methodLink RX3 108 yX3_sellOverdue, Cond.instanceMethod yX3_sellOverdue, Cond.selects RX3 yX3_sellOverdue yX3_sellOverdue, Cond.code yX3_sellOverdue cX3_sellOverdue 3 none, Cond.methodLink RX3 69 yX3_pledgedOn, Cond.instanceMethod yX3_pledgedOn, Cond.selects RX3 yX3_pledgedOn yX3_pledgedOn, Cond.code yX3_pledgedOn cX3_pledgedOn 2 (some .int), Cond.methodLink RX3 59 yX2_kindOf, Cond.instanceMethod yX2_kindOf, Cond.selects RX2 yX2_kindOf yX2_kindOf, Cond.code yX2_kindOf cX2_kindOf 2 (some .int), Cond.fieldLink RX2 21 "PluckBroker$Plan" "kinds" "[I", Cond.methodLink RX3 120 yX3_deedsThatAre, Cond.instanceMethod yX3_deedsThatAre, Cond.selects RX3 yX3_deedsThatAre yX3_deedsThatAre, Cond.code yX3_deedsThatAre cX3_deedsThatAre 4 (some .int), Cond.methodLink RX3 56 yX3_outcomeOf, Cond.instanceMethod yX3_outcomeOf, Cond.selects RX3 yX3_outcomeOf yX3_outcomeOf, Cond.code yX3_outcomeOf cX3_outcomeOf 2 (some .int), Cond.methodLink RX5 192 yJ6_bitCount_0f7a4, Cond.static yJ6_bitCount_0f7a4]
def wsX5_share_r5 : List Cond := [Cond.initialized RJ6, Cond.code yJ6_bitCount_0f7a4 cJ6_bitCount_0f7a4 1 (some .int), Cond.constant RJ6 265 (1431655765), Cond.constant RJ6 266 (858993459), Cond.constant RJ6 267 (252645135), Cond.methodLink RX5 212 yX5_partOfFraction, Cond.static yX5_partOfFraction, Cond.code yX5_partOfFraction cX5_partOfFraction 7 (some .int)]
def wsX5_share : List Cond := .code yX5_share cX5_share 5 (some .int) :: ((wsX5_share_r1 ++ (wsX5_share_r2 ++ (wsX5_share_r3 ++ (wsX5_share_r4 ++ wsX5_share_r5)))) ++ wsX50 ++ wsX20 ++ wsX30)
def wsX5_ask : List Cond := .code yX5_ask cX5_ask 3 (some .int) :: ([.fieldLink RX5 48 "PluckBroker" "asked" "LPluckBroker$Asked;", .methodLink RX5 216 yX1_add, .instanceMethod yX1_add, .selects RX1 yX1_add yX1_add, .initialized RX1, .code yX1_add cX1_add 3 none, .fieldLink RX1 9 "PluckBroker$Asked" "days" "[I", .fieldLink RX1 18 "PluckBroker$Asked" "count" "I", .fieldLink RX1 15 "PluckBroker$Asked" "dues" "[I", .static yX5_put, .initialized RX5, .code yX5_put cX5_put 3 none] ++ wsX50 ++ wsX10)
def wsX5_unask : List Cond := .code yX5_unask cX5_unask 2 (some .int) :: ([.fieldLink RX5 48 "PluckBroker" "asked" "LPluckBroker$Asked;"] ++ wsX50 ++ wsX10)
def wsX5_tickets : List Cond := .code yX5_tickets cX5_tickets 6 (some .int) :: ([.fieldLink RX5 48 "PluckBroker" "asked" "LPluckBroker$Asked;", .methodLink RX5 185 yX5_isNoChoice, .static yX5_isNoChoice, .initialized RX5, .code yX5_isNoChoice cX5_isNoChoice 1 (some .boolean), .methodLink RX5 220 yX1_fits, .instanceMethod yX1_fits, .selects RX1 yX1_fits yX1_fits, .initialized RX1, .code yX1_fits cX1_fits 5 (some .boolean), .fieldLink RX1 18 "PluckBroker$Asked" "count" "I", .fieldLink RX1 9 "PluckBroker$Asked" "days" "[I", .fieldLink RX1 15 "PluckBroker$Asked" "dues" "[I", .static yX5_cell, .code yX5_cell cX5_cell 2 (some .int), .static yX5_dueFor, .code yX5_dueFor cX5_dueFor 4 (some .int)] ++ wsX50 ++ wsX10)
def wsX5_gain_r1 : List Cond := [Cond.fieldLink RX5 35 "PluckBroker" "ahead" "LPluckBroker$State;", Cond.fieldLink RX5 31 "PluckBroker" "now" "LPluckBroker$State;", Cond.fieldLink RX5 19 "PluckBroker" "plan" "LPluckBroker$Plan;", Cond.methodLink RX5 197 yX3_copy, Cond.instanceMethod yX3_copy, Cond.selects RX3 yX3_copy yX3_copy, Cond.initialized RX3, Cond.code yX3_copy cX3_copy 2 none, Cond.fieldLink RX3 11 "PluckBroker$State" "cells" "[I", Cond.methodLink RX3 36 yX3_saveTo, Cond.instanceMethod yX3_saveTo, Cond.selects RX3 yX3_saveTo yX3_saveTo, Cond.code yX3_saveTo cX3_saveTo 4 none, Cond.static yX5_put, Cond.initialized RX5, Cond.code yX5_put cX5_put 3 none, Cond.methodLink RX5 256 yX3_dearestOf, Cond.instanceMethod yX3_dearestOf, Cond.selects RX3 yX3_dearestOf yX3_dearestOf, Cond.code yX3_dearestOf cX3_dearestOf 5 (some .int), Cond.fieldLink RX3 15 "PluckBroker$State" "plan" "LPluckBroker$Plan;", Cond.methodLink RX3 76 yX2_ownerOf, Cond.instanceMethod yX2_ownerOf, Cond.selects RX2 yX2_ownerOf yX2_ownerOf]
def wsX5_gain_r2 : List Cond := [Cond.initialized RX2, Cond.code yX2_ownerOf cX2_ownerOf 2 (some .int), Cond.fieldLink RX2 15 "PluckBroker$Plan" "owners" "[I", Cond.static yX5_cell, Cond.code yX5_cell cX5_cell 2 (some .int), Cond.methodLink RX3 50 yX3_standingOf, Cond.instanceMethod yX3_standingOf, Cond.selects RX3 yX3_standingOf yX3_standingOf, Cond.code yX3_standingOf cX3_standingOf 2 (some .int), Cond.methodLink RX3 62 yX2_worthOf, Cond.instanceMethod yX2_worthOf, Cond.selects RX2 yX2_worthOf yX2_worthOf, Cond.code yX2_worthOf cX2_worthOf 2 (some .int), Cond.fieldLink RX2 18 "PluckBroker$Plan" "worths" "[I", Cond.methodLink RX5 163 yX3_tryPledge, Cond.instanceMethod yX3_tryPledge, Cond.selects RX3 yX3_tryPledge yX3_tryPledge, Cond.code yX3_tryPledge cX3_tryPledge 2 (some .boolean), Cond.methodLink RX3 89 yX3_canPledge, Cond.instanceMethod yX3_canPledge, Cond.selects RX3 yX3_canPledge yX3_canPledge, Cond.code yX3_canPledge cX3_canPledge 2 (some .boolean), Cond.methodLink RX3 79 yX2_hasQuality, Cond.instanceMethod yX2_hasQuality]
def wsX5_gain_r3 : List Cond := [Cond.selects RX2 yX2_hasQuality yX2_hasQuality, Cond.code yX2_hasQuality cX2_hasQuality 2 (some .boolean), Cond.fieldLink RX2 40 "PluckBroker$Plan" "qualities" "I", Cond.methodLink RX3 83 yX3_inTill, Cond.instanceMethod yX3_inTill, Cond.selects RX3 yX3_inTill yX3_inTill, Cond.code yX3_inTill cX3_inTill 1 (some .int), Cond.methodLink RX3 92 yX3_pay, Cond.instanceMethod yX3_pay, Cond.selects RX3 yX3_pay yX3_pay, Cond.code yX3_pay cX3_pay 3 none, Cond.methodLink RX3 65 yX3_today, Cond.instanceMethod yX3_today, Cond.selects RX3 yX3_today yX3_today, Cond.code yX3_today cX3_today 1 (some .int), Cond.methodLink RX5 108 yX3_purseOf, Cond.instanceMethod yX3_purseOf, Cond.selects RX3 yX3_purseOf yX3_purseOf, Cond.code yX3_purseOf cX3_purseOf 2 (some .int), Cond.methodLink RX5 114 yX2_deedsOf, Cond.instanceMethod yX2_deedsOf, Cond.selects RX2 yX2_deedsOf yX2_deedsOf, Cond.code yX2_deedsOf cX2_deedsOf 4 (some .int), Cond.fieldLink RX2 43 "PluckBroker$Plan" "deeds" "I"]
def wsX5_gain_r4 : List Cond := [Cond.methodLink RX2 58 yX2_wantedBy, Cond.instanceMethod yX2_wantedBy, Cond.selects RX2 yX2_wantedBy yX2_wantedBy, Cond.code yX2_wantedBy cX2_wantedBy 2 (some .int), Cond.fieldLink RX2 24 "PluckBroker$Plan" "wanted" "[I", Cond.methodLink RX2 54 yX2_ownerOf, Cond.methodLink RX5 209 yX3_deedsInTheEnd, Cond.instanceMethod yX3_deedsInTheEnd, Cond.selects RX3 yX3_deedsInTheEnd yX3_deedsInTheEnd, Cond.code yX3_deedsInTheEnd cX3_deedsInTheEnd 2 (some .int), Cond.methodLink RX3 117 yX3_passDay, Cond.instanceMethod yX3_passDay, Cond.selects RX3 yX3_passDay yX3_passDay, Cond.code yX3_passDay cX3_passDay 3 (some .int), Cond.methodLink RX3 102 yX2_dayOf, Cond.instanceMethod yX2_dayOf, Cond.selects RX2 yX2_dayOf yX2_dayOf, Cond.code yX2_dayOf cX2_dayOf 2 (some .int), Cond.fieldLink RX2 27 "PluckBroker$Plan" "onDays" "[I", Cond.methodLink RX3 105 yX3_tryDeed, Cond.instanceMethod yX3_tryDeed, Cond.selects RX3 yX3_tryDeed yX3_tryDeed, Cond.code yX3_tryDeed cX3_tryDeed 3 (some .boolean), Cond.methodLink RX3 111 yX2_wantedBy]
def wsX5_gain_r5 : List Cond := [Cond.methodLink RX3 114 yX2_rewardOf, Cond.instanceMethod yX2_rewardOf, Cond.selects RX2 yX2_rewardOf yX2_rewardOf, Cond.code yX2_rewardOf cX2_rewardOf 2 (some .int), Cond.fieldLink RX2 30 "PluckBroker$Plan" "rewards" "[I", Cond.methodLink RX3 108 yX3_sellOverdue, Cond.instanceMethod yX3_sellOverdue, Cond.selects RX3 yX3_sellOverdue yX3_sellOverdue, Cond.code yX3_sellOverdue cX3_sellOverdue 3 none, Cond.methodLink RX3 69 yX3_pledgedOn, Cond.instanceMethod yX3_pledgedOn, Cond.selects RX3 yX3_pledgedOn yX3_pledgedOn, Cond.code yX3_pledgedOn cX3_pledgedOn 2 (some .int), Cond.methodLink RX3 59 yX2_kindOf, Cond.instanceMethod yX2_kindOf, Cond.selects RX2 yX2_kindOf yX2_kindOf, Cond.code yX2_kindOf cX2_kindOf 2 (some .int), Cond.fieldLink RX2 21 "PluckBroker$Plan" "kinds" "[I", Cond.methodLink RX3 120 yX3_deedsThatAre, Cond.instanceMethod yX3_deedsThatAre, Cond.selects RX3 yX3_deedsThatAre yX3_deedsThatAre, Cond.code yX3_deedsThatAre cX3_deedsThatAre 4 (some .int), Cond.methodLink RX3 56 yX3_outcomeOf, Cond.instanceMethod yX3_outcomeOf]
def wsX5_gain_r6 : List Cond := [Cond.selects RX3 yX3_outcomeOf yX3_outcomeOf, Cond.code yX3_outcomeOf cX3_outcomeOf 2 (some .int), Cond.methodLink RX5 192 yJ6_bitCount_0f7a4, Cond.static yJ6_bitCount_0f7a4, Cond.initialized RJ6, Cond.code yJ6_bitCount_0f7a4 cJ6_bitCount_0f7a4 1 (some .int), Cond.constant RJ6 265 (1431655765), Cond.constant RJ6 266 (858993459), Cond.constant RJ6 267 (252645135)]
def wsX5_gain : List Cond := .code yX5_gain cX5_gain 7 (some .int) :: ((wsX5_gain_r1 ++ (wsX5_gain_r2 ++ (wsX5_gain_r3 ++ (wsX5_gain_r4 ++ (wsX5_gain_r5 ++ wsX5_gain_r6))))) ++ wsX50 ++ wsX30 ++ wsX20)
def wsX5_rests_r1 : List Cond := [Cond.fieldLink RX5 19 "PluckBroker" "plan" "LPluckBroker$Plan;", Cond.methodLink RX5 104 yX2_hasPerson, Cond.instanceMethod yX2_hasPerson, Cond.selects RX2 yX2_hasPerson yX2_hasPerson, Cond.initialized RX2, Cond.code yX2_hasPerson cX2_hasPerson 2 (some .boolean), Cond.fieldLink RX2 37 "PluckBroker$Plan" "persons" "I", Cond.methodLink RX5 185 yX5_isNoChoice, Cond.static yX5_isNoChoice, Cond.initialized RX5, Cond.code yX5_isNoChoice cX5_isNoChoice 1 (some .boolean), Cond.methodLink RX5 223 yX5_gain, Cond.instanceMethod yX5_gain, Cond.selects RX5 yX5_gain yX5_gain, Cond.code yX5_gain cX5_gain 7 (some .int), Cond.fieldLink RX5 35 "PluckBroker" "ahead" "LPluckBroker$State;", Cond.fieldLink RX5 31 "PluckBroker" "now" "LPluckBroker$State;", Cond.methodLink RX5 197 yX3_copy, Cond.instanceMethod yX3_copy, Cond.selects RX3 yX3_copy yX3_copy, Cond.initialized RX3, Cond.code yX3_copy cX3_copy 2 none, Cond.fieldLink RX3 11 "PluckBroker$State" "cells" "[I", Cond.methodLink RX3 36 yX3_saveTo]
def wsX5_rests_r2 : List Cond := [Cond.instanceMethod yX3_saveTo, Cond.selects RX3 yX3_saveTo yX3_saveTo, Cond.code yX3_saveTo cX3_saveTo 4 none, Cond.static yX5_put, Cond.code yX5_put cX5_put 3 none, Cond.methodLink RX5 256 yX3_dearestOf, Cond.instanceMethod yX3_dearestOf, Cond.selects RX3 yX3_dearestOf yX3_dearestOf, Cond.code yX3_dearestOf cX3_dearestOf 5 (some .int), Cond.fieldLink RX3 15 "PluckBroker$State" "plan" "LPluckBroker$Plan;", Cond.methodLink RX3 76 yX2_ownerOf, Cond.instanceMethod yX2_ownerOf, Cond.selects RX2 yX2_ownerOf yX2_ownerOf, Cond.code yX2_ownerOf cX2_ownerOf 2 (some .int), Cond.fieldLink RX2 15 "PluckBroker$Plan" "owners" "[I", Cond.static yX5_cell, Cond.code yX5_cell cX5_cell 2 (some .int), Cond.methodLink RX3 50 yX3_standingOf, Cond.instanceMethod yX3_standingOf, Cond.selects RX3 yX3_standingOf yX3_standingOf, Cond.code yX3_standingOf cX3_standingOf 2 (some .int), Cond.methodLink RX3 62 yX2_worthOf, Cond.instanceMethod yX2_worthOf, Cond.selects RX2 yX2_worthOf yX2_worthOf]
def wsX5_rests_r3 : List Cond := [Cond.code yX2_worthOf cX2_worthOf 2 (some .int), Cond.fieldLink RX2 18 "PluckBroker$Plan" "worths" "[I", Cond.methodLink RX5 163 yX3_tryPledge, Cond.instanceMethod yX3_tryPledge, Cond.selects RX3 yX3_tryPledge yX3_tryPledge, Cond.code yX3_tryPledge cX3_tryPledge 2 (some .boolean), Cond.methodLink RX3 89 yX3_canPledge, Cond.instanceMethod yX3_canPledge, Cond.selects RX3 yX3_canPledge yX3_canPledge, Cond.code yX3_canPledge cX3_canPledge 2 (some .boolean), Cond.methodLink RX3 79 yX2_hasQuality, Cond.instanceMethod yX2_hasQuality, Cond.selects RX2 yX2_hasQuality yX2_hasQuality, Cond.code yX2_hasQuality cX2_hasQuality 2 (some .boolean), Cond.fieldLink RX2 40 "PluckBroker$Plan" "qualities" "I", Cond.methodLink RX3 83 yX3_inTill, Cond.instanceMethod yX3_inTill, Cond.selects RX3 yX3_inTill yX3_inTill, Cond.code yX3_inTill cX3_inTill 1 (some .int), Cond.methodLink RX3 92 yX3_pay, Cond.instanceMethod yX3_pay, Cond.selects RX3 yX3_pay yX3_pay, Cond.code yX3_pay cX3_pay 3 none, Cond.methodLink RX3 65 yX3_today]
def wsX5_rests_r4 : List Cond := [Cond.instanceMethod yX3_today, Cond.selects RX3 yX3_today yX3_today, Cond.code yX3_today cX3_today 1 (some .int), Cond.methodLink RX5 108 yX3_purseOf, Cond.instanceMethod yX3_purseOf, Cond.selects RX3 yX3_purseOf yX3_purseOf, Cond.code yX3_purseOf cX3_purseOf 2 (some .int), Cond.methodLink RX5 114 yX2_deedsOf, Cond.instanceMethod yX2_deedsOf, Cond.selects RX2 yX2_deedsOf yX2_deedsOf, Cond.code yX2_deedsOf cX2_deedsOf 4 (some .int), Cond.fieldLink RX2 43 "PluckBroker$Plan" "deeds" "I", Cond.methodLink RX2 58 yX2_wantedBy, Cond.instanceMethod yX2_wantedBy, Cond.selects RX2 yX2_wantedBy yX2_wantedBy, Cond.code yX2_wantedBy cX2_wantedBy 2 (some .int), Cond.fieldLink RX2 24 "PluckBroker$Plan" "wanted" "[I", Cond.methodLink RX2 54 yX2_ownerOf, Cond.methodLink RX5 209 yX3_deedsInTheEnd, Cond.instanceMethod yX3_deedsInTheEnd, Cond.selects RX3 yX3_deedsInTheEnd yX3_deedsInTheEnd, Cond.code yX3_deedsInTheEnd cX3_deedsInTheEnd 2 (some .int), Cond.methodLink RX3 117 yX3_passDay, Cond.instanceMethod yX3_passDay]
def wsX5_rests_r5 : List Cond := [Cond.selects RX3 yX3_passDay yX3_passDay, Cond.code yX3_passDay cX3_passDay 3 (some .int), Cond.methodLink RX3 102 yX2_dayOf, Cond.instanceMethod yX2_dayOf, Cond.selects RX2 yX2_dayOf yX2_dayOf, Cond.code yX2_dayOf cX2_dayOf 2 (some .int), Cond.fieldLink RX2 27 "PluckBroker$Plan" "onDays" "[I", Cond.methodLink RX3 105 yX3_tryDeed, Cond.instanceMethod yX3_tryDeed, Cond.selects RX3 yX3_tryDeed yX3_tryDeed, Cond.code yX3_tryDeed cX3_tryDeed 3 (some .boolean), Cond.methodLink RX3 111 yX2_wantedBy, Cond.methodLink RX3 114 yX2_rewardOf, Cond.instanceMethod yX2_rewardOf, Cond.selects RX2 yX2_rewardOf yX2_rewardOf, Cond.code yX2_rewardOf cX2_rewardOf 2 (some .int), Cond.fieldLink RX2 30 "PluckBroker$Plan" "rewards" "[I", Cond.methodLink RX3 108 yX3_sellOverdue, Cond.instanceMethod yX3_sellOverdue, Cond.selects RX3 yX3_sellOverdue yX3_sellOverdue, Cond.code yX3_sellOverdue cX3_sellOverdue 3 none, Cond.methodLink RX3 69 yX3_pledgedOn, Cond.instanceMethod yX3_pledgedOn, Cond.selects RX3 yX3_pledgedOn yX3_pledgedOn]
def wsX5_rests_r6 : List Cond := [Cond.code yX3_pledgedOn cX3_pledgedOn 2 (some .int), Cond.methodLink RX3 59 yX2_kindOf, Cond.instanceMethod yX2_kindOf, Cond.selects RX2 yX2_kindOf yX2_kindOf, Cond.code yX2_kindOf cX2_kindOf 2 (some .int), Cond.fieldLink RX2 21 "PluckBroker$Plan" "kinds" "[I", Cond.methodLink RX3 120 yX3_deedsThatAre, Cond.instanceMethod yX3_deedsThatAre, Cond.selects RX3 yX3_deedsThatAre yX3_deedsThatAre, Cond.code yX3_deedsThatAre cX3_deedsThatAre 4 (some .int), Cond.methodLink RX3 56 yX3_outcomeOf, Cond.instanceMethod yX3_outcomeOf, Cond.selects RX3 yX3_outcomeOf yX3_outcomeOf, Cond.code yX3_outcomeOf cX3_outcomeOf 2 (some .int), Cond.methodLink RX5 192 yJ6_bitCount_0f7a4, Cond.static yJ6_bitCount_0f7a4, Cond.initialized RJ6, Cond.code yJ6_bitCount_0f7a4 cJ6_bitCount_0f7a4 1 (some .int), Cond.constant RJ6 265 (1431655765), Cond.constant RJ6 266 (858993459), Cond.constant RJ6 267 (252645135)]
def wsX5_rests : List Cond := .code yX5_rests cX5_rests 9 (some .int) :: ((wsX5_rests_r1 ++ (wsX5_rests_r2 ++ (wsX5_rests_r3 ++ (wsX5_rests_r4 ++ (wsX5_rests_r5 ++ wsX5_rests_r6))))) ++ wsX50 ++ wsX20 ++ wsX30)
def wsX5_weightOfSale : List Cond := .code yX5_weightOfSale cX5_weightOfSale 5 (some .int) :: ([])
def wsX5_deedsIfSold_r1 : List Cond := [Cond.fieldLink RX5 35 "PluckBroker" "ahead" "LPluckBroker$State;", Cond.fieldLink RX5 31 "PluckBroker" "now" "LPluckBroker$State;", Cond.methodLink RX5 197 yX3_copy, Cond.instanceMethod yX3_copy, Cond.selects RX3 yX3_copy yX3_copy, Cond.initialized RX3, Cond.code yX3_copy cX3_copy 2 none, Cond.fieldLink RX3 11 "PluckBroker$State" "cells" "[I", Cond.methodLink RX3 36 yX3_saveTo, Cond.instanceMethod yX3_saveTo, Cond.selects RX3 yX3_saveTo yX3_saveTo, Cond.code yX3_saveTo cX3_saveTo 4 none, Cond.static yX5_put, Cond.initialized RX5, Cond.code yX5_put cX5_put 3 none, Cond.methodLink RX5 259 yX3_settle, Cond.instanceMethod yX3_settle, Cond.selects RX3 yX3_settle yX3_settle, Cond.code yX3_settle cX3_settle 3 none, Cond.fieldLink RX3 15 "PluckBroker$State" "plan" "LPluckBroker$Plan;", Cond.methodLink RX3 50 yX3_standingOf, Cond.instanceMethod yX3_standingOf, Cond.selects RX3 yX3_standingOf yX3_standingOf, Cond.code yX3_standingOf cX3_standingOf 2 (some .int)]
def wsX5_deedsIfSold_r2 : List Cond := [Cond.static yX5_cell, Cond.code yX5_cell cX5_cell 2 (some .int), Cond.methodLink RX5 209 yX3_deedsInTheEnd, Cond.instanceMethod yX3_deedsInTheEnd, Cond.selects RX3 yX3_deedsInTheEnd yX3_deedsInTheEnd, Cond.code yX3_deedsInTheEnd cX3_deedsInTheEnd 2 (some .int), Cond.methodLink RX3 117 yX3_passDay, Cond.instanceMethod yX3_passDay, Cond.selects RX3 yX3_passDay yX3_passDay, Cond.code yX3_passDay cX3_passDay 3 (some .int), Cond.methodLink RX3 102 yX2_dayOf, Cond.instanceMethod yX2_dayOf, Cond.selects RX2 yX2_dayOf yX2_dayOf, Cond.initialized RX2, Cond.code yX2_dayOf cX2_dayOf 2 (some .int), Cond.fieldLink RX2 27 "PluckBroker$Plan" "onDays" "[I", Cond.methodLink RX3 65 yX3_today, Cond.instanceMethod yX3_today, Cond.selects RX3 yX3_today yX3_today, Cond.code yX3_today cX3_today 1 (some .int), Cond.methodLink RX3 105 yX3_tryDeed, Cond.instanceMethod yX3_tryDeed, Cond.selects RX3 yX3_tryDeed yX3_tryDeed, Cond.code yX3_tryDeed cX3_tryDeed 3 (some .boolean)]
def wsX5_deedsIfSold_r3 : List Cond := [Cond.methodLink RX3 111 yX2_wantedBy, Cond.instanceMethod yX2_wantedBy, Cond.selects RX2 yX2_wantedBy yX2_wantedBy, Cond.code yX2_wantedBy cX2_wantedBy 2 (some .int), Cond.fieldLink RX2 24 "PluckBroker$Plan" "wanted" "[I", Cond.methodLink RX3 76 yX2_ownerOf, Cond.instanceMethod yX2_ownerOf, Cond.selects RX2 yX2_ownerOf yX2_ownerOf, Cond.code yX2_ownerOf cX2_ownerOf 2 (some .int), Cond.fieldLink RX2 15 "PluckBroker$Plan" "owners" "[I", Cond.methodLink RX3 114 yX2_rewardOf, Cond.instanceMethod yX2_rewardOf, Cond.selects RX2 yX2_rewardOf yX2_rewardOf, Cond.code yX2_rewardOf cX2_rewardOf 2 (some .int), Cond.fieldLink RX2 30 "PluckBroker$Plan" "rewards" "[I", Cond.methodLink RX3 92 yX3_pay, Cond.instanceMethod yX3_pay, Cond.selects RX3 yX3_pay yX3_pay, Cond.code yX3_pay cX3_pay 3 none, Cond.methodLink RX3 108 yX3_sellOverdue, Cond.instanceMethod yX3_sellOverdue, Cond.selects RX3 yX3_sellOverdue yX3_sellOverdue, Cond.code yX3_sellOverdue cX3_sellOverdue 3 none, Cond.methodLink RX3 69 yX3_pledgedOn]
def wsX5_deedsIfSold_r4 : List Cond := [Cond.instanceMethod yX3_pledgedOn, Cond.selects RX3 yX3_pledgedOn yX3_pledgedOn, Cond.code yX3_pledgedOn cX3_pledgedOn 2 (some .int), Cond.methodLink RX3 59 yX2_kindOf, Cond.instanceMethod yX2_kindOf, Cond.selects RX2 yX2_kindOf yX2_kindOf, Cond.code yX2_kindOf cX2_kindOf 2 (some .int), Cond.fieldLink RX2 21 "PluckBroker$Plan" "kinds" "[I", Cond.methodLink RX3 120 yX3_deedsThatAre, Cond.instanceMethod yX3_deedsThatAre, Cond.selects RX3 yX3_deedsThatAre yX3_deedsThatAre, Cond.code yX3_deedsThatAre cX3_deedsThatAre 4 (some .int), Cond.methodLink RX3 56 yX3_outcomeOf, Cond.instanceMethod yX3_outcomeOf, Cond.selects RX3 yX3_outcomeOf yX3_outcomeOf, Cond.code yX3_outcomeOf cX3_outcomeOf 2 (some .int), Cond.methodLink RX5 192 yJ6_bitCount_0f7a4, Cond.static yJ6_bitCount_0f7a4, Cond.initialized RJ6, Cond.code yJ6_bitCount_0f7a4 cJ6_bitCount_0f7a4 1 (some .int), Cond.constant RJ6 265 (1431655765), Cond.constant RJ6 266 (858993459), Cond.constant RJ6 267 (252645135)]
def wsX5_deedsIfSold : List Cond := .code yX5_deedsIfSold cX5_deedsIfSold 2 (some .int) :: ((wsX5_deedsIfSold_r1 ++ (wsX5_deedsIfSold_r2 ++ (wsX5_deedsIfSold_r3 ++ wsX5_deedsIfSold_r4))) ++ wsX50 ++ wsX30 ++ wsX20)
def wsX5_sales_r1 : List Cond := [Cond.fieldLink RX5 31 "PluckBroker" "now" "LPluckBroker$State;", Cond.methodLink RX5 93 yX3_qualitiesThatAre, Cond.instanceMethod yX3_qualitiesThatAre, Cond.selects RX3 yX3_qualitiesThatAre yX3_qualitiesThatAre, Cond.initialized RX3, Cond.code yX3_qualitiesThatAre cX3_qualitiesThatAre 4 (some .int), Cond.fieldLink RX3 15 "PluckBroker$State" "plan" "LPluckBroker$Plan;", Cond.methodLink RX3 50 yX3_standingOf, Cond.instanceMethod yX3_standingOf, Cond.selects RX3 yX3_standingOf yX3_standingOf, Cond.code yX3_standingOf cX3_standingOf 2 (some .int), Cond.fieldLink RX3 11 "PluckBroker$State" "cells" "[I", Cond.static yX5_cell, Cond.initialized RX5, Cond.code yX5_cell cX5_cell 2 (some .int), Cond.methodLink RX5 227 yX5_weightOfSale, Cond.static yX5_weightOfSale, Cond.code yX5_weightOfSale cX5_weightOfSale 5 (some .int), Cond.methodLink RX5 230 yX5_deedsIfSold, Cond.instanceMethod yX5_deedsIfSold, Cond.selects RX5 yX5_deedsIfSold yX5_deedsIfSold, Cond.code yX5_deedsIfSold cX5_deedsIfSold 2 (some .int), Cond.fieldLink RX5 35 "PluckBroker" "ahead" "LPluckBroker$State;", Cond.methodLink RX5 197 yX3_copy]
def wsX5_sales_r2 : List Cond := [Cond.instanceMethod yX3_copy, Cond.selects RX3 yX3_copy yX3_copy, Cond.code yX3_copy cX3_copy 2 none, Cond.methodLink RX3 36 yX3_saveTo, Cond.instanceMethod yX3_saveTo, Cond.selects RX3 yX3_saveTo yX3_saveTo, Cond.code yX3_saveTo cX3_saveTo 4 none, Cond.static yX5_put, Cond.code yX5_put cX5_put 3 none, Cond.methodLink RX5 259 yX3_settle, Cond.instanceMethod yX3_settle, Cond.selects RX3 yX3_settle yX3_settle, Cond.code yX3_settle cX3_settle 3 none, Cond.methodLink RX5 209 yX3_deedsInTheEnd, Cond.instanceMethod yX3_deedsInTheEnd, Cond.selects RX3 yX3_deedsInTheEnd yX3_deedsInTheEnd, Cond.code yX3_deedsInTheEnd cX3_deedsInTheEnd 2 (some .int), Cond.methodLink RX3 117 yX3_passDay, Cond.instanceMethod yX3_passDay, Cond.selects RX3 yX3_passDay yX3_passDay, Cond.code yX3_passDay cX3_passDay 3 (some .int), Cond.methodLink RX3 102 yX2_dayOf, Cond.instanceMethod yX2_dayOf, Cond.selects RX2 yX2_dayOf yX2_dayOf]
def wsX5_sales_r3 : List Cond := [Cond.initialized RX2, Cond.code yX2_dayOf cX2_dayOf 2 (some .int), Cond.fieldLink RX2 27 "PluckBroker$Plan" "onDays" "[I", Cond.methodLink RX3 65 yX3_today, Cond.instanceMethod yX3_today, Cond.selects RX3 yX3_today yX3_today, Cond.code yX3_today cX3_today 1 (some .int), Cond.methodLink RX3 105 yX3_tryDeed, Cond.instanceMethod yX3_tryDeed, Cond.selects RX3 yX3_tryDeed yX3_tryDeed, Cond.code yX3_tryDeed cX3_tryDeed 3 (some .boolean), Cond.methodLink RX3 111 yX2_wantedBy, Cond.instanceMethod yX2_wantedBy, Cond.selects RX2 yX2_wantedBy yX2_wantedBy, Cond.code yX2_wantedBy cX2_wantedBy 2 (some .int), Cond.fieldLink RX2 24 "PluckBroker$Plan" "wanted" "[I", Cond.methodLink RX3 76 yX2_ownerOf, Cond.instanceMethod yX2_ownerOf, Cond.selects RX2 yX2_ownerOf yX2_ownerOf, Cond.code yX2_ownerOf cX2_ownerOf 2 (some .int), Cond.fieldLink RX2 15 "PluckBroker$Plan" "owners" "[I", Cond.methodLink RX3 114 yX2_rewardOf, Cond.instanceMethod yX2_rewardOf, Cond.selects RX2 yX2_rewardOf yX2_rewardOf]
def wsX5_sales_r4 : List Cond := [Cond.code yX2_rewardOf cX2_rewardOf 2 (some .int), Cond.fieldLink RX2 30 "PluckBroker$Plan" "rewards" "[I", Cond.methodLink RX3 92 yX3_pay, Cond.instanceMethod yX3_pay, Cond.selects RX3 yX3_pay yX3_pay, Cond.code yX3_pay cX3_pay 3 none, Cond.methodLink RX3 108 yX3_sellOverdue, Cond.instanceMethod yX3_sellOverdue, Cond.selects RX3 yX3_sellOverdue yX3_sellOverdue, Cond.code yX3_sellOverdue cX3_sellOverdue 3 none, Cond.methodLink RX3 69 yX3_pledgedOn, Cond.instanceMethod yX3_pledgedOn, Cond.selects RX3 yX3_pledgedOn yX3_pledgedOn, Cond.code yX3_pledgedOn cX3_pledgedOn 2 (some .int), Cond.methodLink RX3 59 yX2_kindOf, Cond.instanceMethod yX2_kindOf, Cond.selects RX2 yX2_kindOf yX2_kindOf, Cond.code yX2_kindOf cX2_kindOf 2 (some .int), Cond.fieldLink RX2 21 "PluckBroker$Plan" "kinds" "[I", Cond.methodLink RX3 120 yX3_deedsThatAre, Cond.instanceMethod yX3_deedsThatAre, Cond.selects RX3 yX3_deedsThatAre yX3_deedsThatAre, Cond.code yX3_deedsThatAre cX3_deedsThatAre 4 (some .int), Cond.methodLink RX3 56 yX3_outcomeOf]
def wsX5_sales_r5 : List Cond := [Cond.instanceMethod yX3_outcomeOf, Cond.selects RX3 yX3_outcomeOf yX3_outcomeOf, Cond.code yX3_outcomeOf cX3_outcomeOf 2 (some .int), Cond.methodLink RX5 192 yJ6_bitCount_0f7a4, Cond.static yJ6_bitCount_0f7a4, Cond.initialized RJ6, Cond.code yJ6_bitCount_0f7a4 cJ6_bitCount_0f7a4 1 (some .int), Cond.constant RJ6 265 (1431655765), Cond.constant RJ6 266 (858993459), Cond.constant RJ6 267 (252645135), Cond.methodLink RX5 212 yX5_partOfFraction, Cond.static yX5_partOfFraction, Cond.code yX5_partOfFraction cX5_partOfFraction 7 (some .int)]
def wsX5_sales : List Cond := .code yX5_sales cX5_sales 9 (some .int) :: ((wsX5_sales_r1 ++ (wsX5_sales_r2 ++ (wsX5_sales_r3 ++ (wsX5_sales_r4 ++ wsX5_sales_r5)))) ++ wsX50 ++ wsX30 ++ wsX20)
def wsX5_seed : List Cond := .code yX5_seed cX5_seed 5 (some .long) :: ([.fieldLink RX5 233 "PluckBroker" "chance" "J"] ++ wsX50)
def wsX5_years_r1 : List Cond := [Cond.fieldLink RX5 35 "PluckBroker" "ahead" "LPluckBroker$State;", Cond.fieldLink RX5 31 "PluckBroker" "now" "LPluckBroker$State;", Cond.fieldLink RX5 233 "PluckBroker" "chance" "J", Cond.constantLong RX5 237 (6364136223846793005), Cond.constantLong RX5 239 (1442695040888963407), Cond.constantLong RX5 241 (24), Cond.methodLink RX5 197 yX3_copy, Cond.instanceMethod yX3_copy, Cond.selects RX3 yX3_copy yX3_copy, Cond.initialized RX3, Cond.code yX3_copy cX3_copy 2 none, Cond.fieldLink RX3 11 "PluckBroker$State" "cells" "[I", Cond.methodLink RX3 36 yX3_saveTo, Cond.instanceMethod yX3_saveTo, Cond.selects RX3 yX3_saveTo yX3_saveTo, Cond.code yX3_saveTo cX3_saveTo 4 none, Cond.static yX5_put, Cond.initialized RX5, Cond.code yX5_put cX5_put 3 none, Cond.methodLink RX5 243 yX3_chances, Cond.instanceMethod yX3_chances, Cond.selects RX3 yX3_chances yX3_chances, Cond.code yX3_chances cX3_chances 2 none, Cond.methodLink RX3 127 yX3_tryPledge]
def wsX5_years_r2 : List Cond := [Cond.instanceMethod yX3_tryPledge, Cond.selects RX3 yX3_tryPledge yX3_tryPledge, Cond.code yX3_tryPledge cX3_tryPledge 2 (some .boolean), Cond.fieldLink RX3 15 "PluckBroker$State" "plan" "LPluckBroker$Plan;", Cond.methodLink RX3 89 yX3_canPledge, Cond.instanceMethod yX3_canPledge, Cond.selects RX3 yX3_canPledge yX3_canPledge, Cond.code yX3_canPledge cX3_canPledge 2 (some .boolean), Cond.methodLink RX3 79 yX2_hasQuality, Cond.instanceMethod yX2_hasQuality, Cond.selects RX2 yX2_hasQuality yX2_hasQuality, Cond.initialized RX2, Cond.code yX2_hasQuality cX2_hasQuality 2 (some .boolean), Cond.fieldLink RX2 40 "PluckBroker$Plan" "qualities" "I", Cond.methodLink RX3 50 yX3_standingOf, Cond.instanceMethod yX3_standingOf, Cond.selects RX3 yX3_standingOf yX3_standingOf, Cond.code yX3_standingOf cX3_standingOf 2 (some .int), Cond.static yX5_cell, Cond.code yX5_cell cX5_cell 2 (some .int), Cond.methodLink RX3 83 yX3_inTill, Cond.instanceMethod yX3_inTill, Cond.selects RX3 yX3_inTill yX3_inTill, Cond.code yX3_inTill cX3_inTill 1 (some .int)]
def wsX5_years_r3 : List Cond := [Cond.methodLink RX3 62 yX2_worthOf, Cond.instanceMethod yX2_worthOf, Cond.selects RX2 yX2_worthOf yX2_worthOf, Cond.code yX2_worthOf cX2_worthOf 2 (some .int), Cond.fieldLink RX2 18 "PluckBroker$Plan" "worths" "[I", Cond.methodLink RX3 76 yX2_ownerOf, Cond.instanceMethod yX2_ownerOf, Cond.selects RX2 yX2_ownerOf yX2_ownerOf, Cond.code yX2_ownerOf cX2_ownerOf 2 (some .int), Cond.fieldLink RX2 15 "PluckBroker$Plan" "owners" "[I", Cond.methodLink RX3 92 yX3_pay, Cond.instanceMethod yX3_pay, Cond.selects RX3 yX3_pay yX3_pay, Cond.code yX3_pay cX3_pay 3 none, Cond.methodLink RX3 65 yX3_today, Cond.instanceMethod yX3_today, Cond.selects RX3 yX3_today yX3_today, Cond.code yX3_today cX3_today 1 (some .int), Cond.methodLink RX3 130 yX3_tryRedeem, Cond.instanceMethod yX3_tryRedeem, Cond.selects RX3 yX3_tryRedeem yX3_tryRedeem, Cond.code yX3_tryRedeem cX3_tryRedeem 3 (some .boolean), Cond.methodLink RX3 96 yX3_canRedeem, Cond.instanceMethod yX3_canRedeem]
def wsX5_years_r4 : List Cond := [Cond.selects RX3 yX3_canRedeem yX3_canRedeem, Cond.code yX3_canRedeem cX3_canRedeem 2 (some .boolean), Cond.methodLink RX3 44 yX3_purseOf, Cond.instanceMethod yX3_purseOf, Cond.selects RX3 yX3_purseOf yX3_purseOf, Cond.code yX3_purseOf cX3_purseOf 2 (some .int), Cond.methodLink RX3 86 yX3_owedFor, Cond.instanceMethod yX3_owedFor, Cond.selects RX3 yX3_owedFor yX3_owedFor, Cond.code yX3_owedFor cX3_owedFor 2 (some .int), Cond.methodLink RX3 59 yX2_kindOf, Cond.instanceMethod yX2_kindOf, Cond.selects RX2 yX2_kindOf yX2_kindOf, Cond.code yX2_kindOf cX2_kindOf 2 (some .int), Cond.fieldLink RX2 21 "PluckBroker$Plan" "kinds" "[I", Cond.methodLink RX3 69 yX3_pledgedOn, Cond.instanceMethod yX3_pledgedOn, Cond.selects RX3 yX3_pledgedOn yX3_pledgedOn, Cond.code yX3_pledgedOn cX3_pledgedOn 2 (some .int), Cond.static yX5_dueFor, Cond.code yX5_dueFor cX5_dueFor 4 (some .int), Cond.methodLink RX3 123 yX3_tryGive, Cond.instanceMethod yX3_tryGive, Cond.selects RX3 yX3_tryGive yX3_tryGive]
def wsX5_years_r5 : List Cond := [Cond.code yX3_tryGive cX3_tryGive 3 (some .boolean), Cond.methodLink RX3 99 yX2_hasPerson, Cond.instanceMethod yX2_hasPerson, Cond.selects RX2 yX2_hasPerson yX2_hasPerson, Cond.code yX2_hasPerson cX2_hasPerson 2 (some .boolean), Cond.fieldLink RX2 37 "PluckBroker$Plan" "persons" "I", Cond.methodLink RX3 117 yX3_passDay, Cond.instanceMethod yX3_passDay, Cond.selects RX3 yX3_passDay yX3_passDay, Cond.code yX3_passDay cX3_passDay 3 (some .int), Cond.methodLink RX3 102 yX2_dayOf, Cond.instanceMethod yX2_dayOf, Cond.selects RX2 yX2_dayOf yX2_dayOf, Cond.code yX2_dayOf cX2_dayOf 2 (some .int), Cond.fieldLink RX2 27 "PluckBroker$Plan" "onDays" "[I", Cond.methodLink RX3 105 yX3_tryDeed, Cond.instanceMethod yX3_tryDeed, Cond.selects RX3 yX3_tryDeed yX3_tryDeed, Cond.code yX3_tryDeed cX3_tryDeed 3 (some .boolean), Cond.methodLink RX3 111 yX2_wantedBy, Cond.instanceMethod yX2_wantedBy, Cond.selects RX2 yX2_wantedBy yX2_wantedBy, Cond.code yX2_wantedBy cX2_wantedBy 2 (some .int), Cond.fieldLink RX2 24 "PluckBroker$Plan" "wanted" "[I"]
def wsX5_years_r6 : List Cond := [Cond.methodLink RX3 114 yX2_rewardOf, Cond.instanceMethod yX2_rewardOf, Cond.selects RX2 yX2_rewardOf yX2_rewardOf, Cond.code yX2_rewardOf cX2_rewardOf 2 (some .int), Cond.fieldLink RX2 30 "PluckBroker$Plan" "rewards" "[I", Cond.methodLink RX3 108 yX3_sellOverdue, Cond.instanceMethod yX3_sellOverdue, Cond.selects RX3 yX3_sellOverdue yX3_sellOverdue, Cond.code yX3_sellOverdue cX3_sellOverdue 3 none, Cond.methodLink RX5 246 yX3_inAllPurses, Cond.instanceMethod yX3_inAllPurses, Cond.selects RX3 yX3_inAllPurses yX3_inAllPurses, Cond.code yX3_inAllPurses cX3_inAllPurses 3 (some .int)]
def wsX5_years : List Cond := .code yX5_years cX5_years 4 (some .int) :: ((wsX5_years_r1 ++ (wsX5_years_r2 ++ (wsX5_years_r3 ++ (wsX5_years_r4 ++ (wsX5_years_r5 ++ wsX5_years_r6))))) ++ wsX50 ++ wsX30 ++ wsX20)
def wsX5_keep : List Cond := .code yX5_keep cX5_keep 2 (some .int) :: ([.fieldLink RX5 31 "PluckBroker" "now" "LPluckBroker$State;", .fieldLink RX5 52 "PluckBroker" "kept" "[I", .fieldLink RX5 74 "PluckBroker" "keptSlots" "I", .methodLink RX5 249 yX3_saveTo, .instanceMethod yX3_saveTo, .selects RX3 yX3_saveTo yX3_saveTo, .initialized RX3, .code yX3_saveTo cX3_saveTo 4 none, .fieldLink RX3 11 "PluckBroker$State" "cells" "[I", .static yX5_put, .initialized RX5, .code yX5_put cX5_put 3 none, .methodLink RX5 86 yX3_today, .instanceMethod yX3_today, .selects RX3 yX3_today yX3_today, .code yX3_today cX3_today 1 (some .int), .static yX5_cell, .code yX5_cell cX5_cell 2 (some .int)] ++ wsX50 ++ wsX30)
def wsX5_again : List Cond := .code yX5_again cX5_again 2 (some .int) :: ([.fieldLink RX5 74 "PluckBroker" "keptSlots" "I", .fieldLink RX5 31 "PluckBroker" "now" "LPluckBroker$State;", .fieldLink RX5 52 "PluckBroker" "kept" "[I", .fieldLink RX5 41 "PluckBroker" "acts" "LPluckBroker$Acts;", .methodLink RX5 253 yX3_loadFrom, .instanceMethod yX3_loadFrom, .selects RX3 yX3_loadFrom yX3_loadFrom, .initialized RX3, .code yX3_loadFrom cX3_loadFrom 4 none, .fieldLink RX3 11 "PluckBroker$State" "cells" "[I", .static yX5_cell, .initialized RX5, .code yX5_cell cX5_cell 2 (some .int), .methodLink RX5 71 yX0_forget, .instanceMethod yX0_forget, .selects RX0 yX0_forget yX0_forget, .initialized RX0, .code yX0_forget cX0_forget 1 none, .fieldLink RX0 25 "PluckBroker$Acts" "count" "I", .methodLink RX5 86 yX3_today, .instanceMethod yX3_today, .selects RX3 yX3_today yX3_today, .code yX3_today cX3_today 1 (some .int)] ++ wsX50 ++ wsX30 ++ wsX00)
def wsX6_init : List Cond := .code yX6_init cX6_init 1 none :: ([.methodLink RX6 1 objectInit, .instanceMethod objectInit, .code objectInit ⟨#[0xb1]⟩ 1 none, .arrayClass .int, .fieldLink RX6 7 "PluckBrokerModel" "text" "[I", .fieldLink RX6 13 "PluckBrokerModel" "owner" "[I", .fieldLink RX6 16 "PluckBrokerModel" "worth" "[I", .fieldLink RX6 19 "PluckBrokerModel" "kind" "[I", .fieldLink RX6 22 "PluckBrokerModel" "wants" "[I", .fieldLink RX6 25 "PluckBrokerModel" "when" "[I", .fieldLink RX6 28 "PluckBrokerModel" "pays" "[I", .fieldLink RX6 31 "PluckBrokerModel" "readPerson" "[I", .fieldLink RX6 34 "PluckBrokerModel" "readQuality" "[I", .fieldLink RX6 37 "PluckBrokerModel" "readDeed" "[I", .fieldLink RX6 40 "PluckBrokerModel" "page" "[I", .fieldLink RX6 43 "PluckBrokerModel" "trial" "[I", .fieldLink RX6 46 "PluckBrokerModel" "book" "[I", .fieldLink RX6 49 "PluckBrokerModel" "kept" "[I", .arrayClass .boolean, .fieldLink RX6 52 "PluckBrokerModel" "isKept" "[Z", .fieldLink RX6 56 "PluckBrokerModel" "askedDay" "[I", .fieldLink RX6 59 "PluckBrokerModel" "askedDue" "[I", .fieldLink RX6 62 "PluckBrokerModel" "gains" "[I", .fieldLink RX6 65 "PluckBrokerModel" "value" "[I"] ++ wsX60)
def wsX6_in : List Cond := .code yX6_in cX6_in 6 (some .boolean) :: ([])
def wsX6_has : List Cond := .code yX6_has cX6_has 2 (some .boolean) :: ([])
def wsX6_many : List Cond := .code yX6_many cX6_many 3 (some .int) :: ([])
def wsX6_power : List Cond := .code yX6_power cX6_power 4 (some .int) :: ([])
def wsX6_noPerson : List Cond := .code yX6_noPerson cX6_noPerson 2 (some .boolean) :: ([.fieldLink RX6 72 "PluckBrokerModel" "persons" "I", .methodLink RX6 75 yX6_in, .static yX6_in, .initialized RX6, .code yX6_in cX6_in 6 (some .boolean)] ++ wsX60)
def wsX6_noQuality : List Cond := .code yX6_noQuality cX6_noQuality 2 (some .boolean) :: ([.fieldLink RX6 79 "PluckBrokerModel" "qualities" "I", .methodLink RX6 75 yX6_in, .static yX6_in, .initialized RX6, .code yX6_in cX6_in 6 (some .boolean)] ++ wsX60)
def wsX6_noDeed : List Cond := .code yX6_noDeed cX6_noDeed 2 (some .boolean) :: ([.fieldLink RX6 82 "PluckBrokerModel" "deeds" "I", .methodLink RX6 75 yX6_in, .static yX6_in, .initialized RX6, .code yX6_in cX6_in 6 (some .boolean)] ++ wsX60)
def wsX6_write : List Cond := .code yX6_write cX6_write 2 (some .int) :: ([.fieldLink RX6 68 "PluckBrokerModel" "thrown" "I", .constantLong RX6 85 (255), .fieldLink RX6 87 "PluckBrokerModel" "textSize" "I", .fieldLink RX6 7 "PluckBrokerModel" "text" "[I", .methodLink RX6 75 yX6_in, .static yX6_in, .initialized RX6, .code yX6_in cX6_in 6 (some .boolean)] ++ wsX60)
def wsX6_wipe : List Cond := .code yX6_wipe cX6_wipe 2 (some .int) :: ([.fieldLink RX6 68 "PluckBrokerModel" "thrown" "I", .fieldLink RX6 87 "PluckBrokerModel" "textSize" "I"] ++ wsX60)
def wsX6_figure : List Cond := .code yX6_figure cX6_figure 3 (some .int) :: ([.fieldLink RX6 90 "PluckBrokerModel" "place" "I", .fieldLink RX6 87 "PluckBrokerModel" "textSize" "I", .fieldLink RX6 7 "PluckBrokerModel" "text" "[I", .methodLink RX6 75 yX6_in, .static yX6_in, .initialized RX6, .code yX6_in cX6_in 6 (some .boolean)] ++ wsX60)
def wsX6_readOnePerson : List Cond := .code yX6_readOnePerson cX6_readOnePerson 2 (some .boolean) :: ([.fieldLink RX6 31 "PluckBrokerModel" "readPerson" "[I", .fieldLink RX6 97 "PluckBrokerModel" "readPersons" "I", .methodLink RX6 93 yX6_figure, .instanceMethod yX6_figure, .selects RX6 yX6_figure yX6_figure, .initialized RX6, .code yX6_figure cX6_figure 3 (some .int), .fieldLink RX6 90 "PluckBrokerModel" "place" "I", .fieldLink RX6 87 "PluckBrokerModel" "textSize" "I", .fieldLink RX6 7 "PluckBrokerModel" "text" "[I", .methodLink RX6 75 yX6_in, .static yX6_in, .code yX6_in cX6_in 6 (some .boolean)] ++ wsX60)
def wsX6_readOneQuality : List Cond := .code yX6_readOneQuality cX6_readOneQuality 4 (some .boolean) :: ([.fieldLink RX6 97 "PluckBrokerModel" "readPersons" "I", .fieldLink RX6 34 "PluckBrokerModel" "readQuality" "[I", .fieldLink RX6 100 "PluckBrokerModel" "readQualities" "I", .methodLink RX6 93 yX6_figure, .instanceMethod yX6_figure, .selects RX6 yX6_figure yX6_figure, .initialized RX6, .code yX6_figure cX6_figure 3 (some .int), .fieldLink RX6 90 "PluckBrokerModel" "place" "I", .fieldLink RX6 87 "PluckBrokerModel" "textSize" "I", .fieldLink RX6 7 "PluckBrokerModel" "text" "[I", .methodLink RX6 75 yX6_in, .static yX6_in, .code yX6_in cX6_in 6 (some .boolean)] ++ wsX60)
def wsX6_readOneDeed : List Cond := .code yX6_readOneDeed cX6_readOneDeed 4 (some .boolean) :: ([.fieldLink RX6 100 "PluckBrokerModel" "readQualities" "I", .fieldLink RX6 37 "PluckBrokerModel" "readDeed" "[I", .fieldLink RX6 103 "PluckBrokerModel" "readDeeds" "I", .methodLink RX6 93 yX6_figure, .instanceMethod yX6_figure, .selects RX6 yX6_figure yX6_figure, .initialized RX6, .code yX6_figure cX6_figure 3 (some .int), .fieldLink RX6 90 "PluckBrokerModel" "place" "I", .fieldLink RX6 87 "PluckBrokerModel" "textSize" "I", .fieldLink RX6 7 "PluckBrokerModel" "text" "[I", .methodLink RX6 75 yX6_in, .static yX6_in, .code yX6_in cX6_in 6 (some .boolean)] ++ wsX60)
def wsX6_readThing_r1 : List Cond := [Cond.fieldLink RX6 7 "PluckBrokerModel" "text" "[I", Cond.fieldLink RX6 90 "PluckBrokerModel" "place" "I", Cond.fieldLink RX6 97 "PluckBrokerModel" "readPersons" "I", Cond.fieldLink RX6 100 "PluckBrokerModel" "readQualities" "I", Cond.fieldLink RX6 103 "PluckBrokerModel" "readDeeds" "I", Cond.methodLink RX6 106 yX6_readOnePerson, Cond.instanceMethod yX6_readOnePerson, Cond.selects RX6 yX6_readOnePerson yX6_readOnePerson, Cond.initialized RX6, Cond.code yX6_readOnePerson cX6_readOnePerson 2 (some .boolean), Cond.fieldLink RX6 31 "PluckBrokerModel" "readPerson" "[I", Cond.methodLink RX6 93 yX6_figure, Cond.instanceMethod yX6_figure, Cond.selects RX6 yX6_figure yX6_figure, Cond.code yX6_figure cX6_figure 3 (some .int), Cond.fieldLink RX6 87 "PluckBrokerModel" "textSize" "I", Cond.methodLink RX6 75 yX6_in, Cond.static yX6_in, Cond.code yX6_in cX6_in 6 (some .boolean), Cond.methodLink RX6 110 yX6_readOneQuality, Cond.instanceMethod yX6_readOneQuality, Cond.selects RX6 yX6_readOneQuality yX6_readOneQuality, Cond.code yX6_readOneQuality cX6_readOneQuality 4 (some .boolean), Cond.fieldLink RX6 34 "PluckBrokerModel" "readQuality" "[I"]
def wsX6_readThing_r2 : List Cond := [Cond.methodLink RX6 113 yX6_readOneDeed, Cond.instanceMethod yX6_readOneDeed, Cond.selects RX6 yX6_readOneDeed yX6_readOneDeed, Cond.code yX6_readOneDeed cX6_readOneDeed 4 (some .boolean), Cond.fieldLink RX6 37 "PluckBrokerModel" "readDeed" "[I"]
def wsX6_readThing : List Cond := .code yX6_readThing cX6_readThing 2 (some .boolean) :: ((wsX6_readThing_r1 ++ wsX6_readThing_r2) ++ wsX60)
def wsX6_readShop_r1 : List Cond := [Cond.fieldLink RX6 90 "PluckBrokerModel" "place" "I", Cond.fieldLink RX6 97 "PluckBrokerModel" "readPersons" "I", Cond.fieldLink RX6 100 "PluckBrokerModel" "readQualities" "I", Cond.fieldLink RX6 103 "PluckBrokerModel" "readDeeds" "I", Cond.fieldLink RX6 87 "PluckBrokerModel" "textSize" "I", Cond.fieldLink RX6 7 "PluckBrokerModel" "text" "[I", Cond.fieldLink RX6 116 "PluckBrokerModel" "readTill" "I", Cond.methodLink RX6 93 yX6_figure, Cond.instanceMethod yX6_figure, Cond.selects RX6 yX6_figure yX6_figure, Cond.initialized RX6, Cond.code yX6_figure cX6_figure 3 (some .int), Cond.methodLink RX6 75 yX6_in, Cond.static yX6_in, Cond.code yX6_in cX6_in 6 (some .boolean), Cond.methodLink RX6 119 yX6_readThing, Cond.instanceMethod yX6_readThing, Cond.selects RX6 yX6_readThing yX6_readThing, Cond.code yX6_readThing cX6_readThing 2 (some .boolean), Cond.methodLink RX6 106 yX6_readOnePerson, Cond.instanceMethod yX6_readOnePerson, Cond.selects RX6 yX6_readOnePerson yX6_readOnePerson, Cond.code yX6_readOnePerson cX6_readOnePerson 2 (some .boolean), Cond.fieldLink RX6 31 "PluckBrokerModel" "readPerson" "[I"]
def wsX6_readShop_r2 : List Cond := [Cond.methodLink RX6 110 yX6_readOneQuality, Cond.instanceMethod yX6_readOneQuality, Cond.selects RX6 yX6_readOneQuality yX6_readOneQuality, Cond.code yX6_readOneQuality cX6_readOneQuality 4 (some .boolean), Cond.fieldLink RX6 34 "PluckBrokerModel" "readQuality" "[I", Cond.methodLink RX6 113 yX6_readOneDeed, Cond.instanceMethod yX6_readOneDeed, Cond.selects RX6 yX6_readOneDeed yX6_readOneDeed, Cond.code yX6_readOneDeed cX6_readOneDeed 4 (some .boolean), Cond.fieldLink RX6 37 "PluckBrokerModel" "readDeed" "[I"]
def wsX6_readShop : List Cond := .code yX6_readShop cX6_readShop 1 (some .int) :: ((wsX6_readShop_r1 ++ wsX6_readShop_r2) ++ wsX60)
def wsX6_fault_r1 : List Cond := [Cond.fieldLink RX6 68 "PluckBrokerModel" "thrown" "I", Cond.methodLink RX6 122 yX6_readShop, Cond.instanceMethod yX6_readShop, Cond.selects RX6 yX6_readShop yX6_readShop, Cond.initialized RX6, Cond.code yX6_readShop cX6_readShop 1 (some .int), Cond.fieldLink RX6 90 "PluckBrokerModel" "place" "I", Cond.fieldLink RX6 97 "PluckBrokerModel" "readPersons" "I", Cond.fieldLink RX6 100 "PluckBrokerModel" "readQualities" "I", Cond.fieldLink RX6 103 "PluckBrokerModel" "readDeeds" "I", Cond.fieldLink RX6 87 "PluckBrokerModel" "textSize" "I", Cond.fieldLink RX6 7 "PluckBrokerModel" "text" "[I", Cond.fieldLink RX6 116 "PluckBrokerModel" "readTill" "I", Cond.methodLink RX6 93 yX6_figure, Cond.instanceMethod yX6_figure, Cond.selects RX6 yX6_figure yX6_figure, Cond.code yX6_figure cX6_figure 3 (some .int), Cond.methodLink RX6 75 yX6_in, Cond.static yX6_in, Cond.code yX6_in cX6_in 6 (some .boolean), Cond.methodLink RX6 119 yX6_readThing, Cond.instanceMethod yX6_readThing, Cond.selects RX6 yX6_readThing yX6_readThing, Cond.code yX6_readThing cX6_readThing 2 (some .boolean)]
def wsX6_fault_r2 : List Cond := [Cond.methodLink RX6 106 yX6_readOnePerson, Cond.instanceMethod yX6_readOnePerson, Cond.selects RX6 yX6_readOnePerson yX6_readOnePerson, Cond.code yX6_readOnePerson cX6_readOnePerson 2 (some .boolean), Cond.fieldLink RX6 31 "PluckBrokerModel" "readPerson" "[I", Cond.methodLink RX6 110 yX6_readOneQuality, Cond.instanceMethod yX6_readOneQuality, Cond.selects RX6 yX6_readOneQuality yX6_readOneQuality, Cond.code yX6_readOneQuality cX6_readOneQuality 4 (some .boolean), Cond.fieldLink RX6 34 "PluckBrokerModel" "readQuality" "[I", Cond.methodLink RX6 113 yX6_readOneDeed, Cond.instanceMethod yX6_readOneDeed, Cond.selects RX6 yX6_readOneDeed yX6_readOneDeed, Cond.code yX6_readOneDeed cX6_readOneDeed 4 (some .boolean), Cond.fieldLink RX6 37 "PluckBrokerModel" "readDeed" "[I"]
def wsX6_fault : List Cond := .code yX6_fault cX6_fault 1 (some .int) :: ((wsX6_fault_r1 ++ wsX6_fault_r2) ++ wsX60)
def wsX6_shop_r1 : List Cond := [Cond.fieldLink RX6 68 "PluckBrokerModel" "thrown" "I", Cond.fieldLink RX6 97 "PluckBrokerModel" "readPersons" "I", Cond.fieldLink RX6 72 "PluckBrokerModel" "persons" "I", Cond.fieldLink RX6 100 "PluckBrokerModel" "readQualities" "I", Cond.fieldLink RX6 79 "PluckBrokerModel" "qualities" "I", Cond.fieldLink RX6 103 "PluckBrokerModel" "readDeeds" "I", Cond.fieldLink RX6 82 "PluckBrokerModel" "deeds" "I", Cond.fieldLink RX6 40 "PluckBrokerModel" "page" "[I", Cond.fieldLink RX6 116 "PluckBrokerModel" "readTill" "I", Cond.fieldLink RX6 31 "PluckBrokerModel" "readPerson" "[I", Cond.fieldLink RX6 13 "PluckBrokerModel" "owner" "[I", Cond.fieldLink RX6 34 "PluckBrokerModel" "readQuality" "[I", Cond.fieldLink RX6 16 "PluckBrokerModel" "worth" "[I", Cond.fieldLink RX6 19 "PluckBrokerModel" "kind" "[I", Cond.fieldLink RX6 22 "PluckBrokerModel" "wants" "[I", Cond.fieldLink RX6 37 "PluckBrokerModel" "readDeed" "[I", Cond.fieldLink RX6 25 "PluckBrokerModel" "when" "[I", Cond.fieldLink RX6 28 "PluckBrokerModel" "pays" "[I", Cond.fieldLink RX6 126 "PluckBrokerModel" "acts" "I", Cond.fieldLink RX6 52 "PluckBrokerModel" "isKept" "[Z", Cond.methodLink RX6 122 yX6_readShop, Cond.instanceMethod yX6_readShop, Cond.selects RX6 yX6_readShop yX6_readShop, Cond.initialized RX6]
def wsX6_shop_r2 : List Cond := [Cond.code yX6_readShop cX6_readShop 1 (some .int), Cond.fieldLink RX6 90 "PluckBrokerModel" "place" "I", Cond.fieldLink RX6 87 "PluckBrokerModel" "textSize" "I", Cond.fieldLink RX6 7 "PluckBrokerModel" "text" "[I", Cond.methodLink RX6 93 yX6_figure, Cond.instanceMethod yX6_figure, Cond.selects RX6 yX6_figure yX6_figure, Cond.code yX6_figure cX6_figure 3 (some .int), Cond.methodLink RX6 75 yX6_in, Cond.static yX6_in, Cond.code yX6_in cX6_in 6 (some .boolean), Cond.methodLink RX6 119 yX6_readThing, Cond.instanceMethod yX6_readThing, Cond.selects RX6 yX6_readThing yX6_readThing, Cond.code yX6_readThing cX6_readThing 2 (some .boolean), Cond.methodLink RX6 106 yX6_readOnePerson, Cond.instanceMethod yX6_readOnePerson, Cond.selects RX6 yX6_readOnePerson yX6_readOnePerson, Cond.code yX6_readOnePerson cX6_readOnePerson 2 (some .boolean), Cond.methodLink RX6 110 yX6_readOneQuality, Cond.instanceMethod yX6_readOneQuality, Cond.selects RX6 yX6_readOneQuality yX6_readOneQuality, Cond.code yX6_readOneQuality cX6_readOneQuality 4 (some .boolean), Cond.methodLink RX6 113 yX6_readOneDeed]
def wsX6_shop_r3 : List Cond := [Cond.instanceMethod yX6_readOneDeed, Cond.selects RX6 yX6_readOneDeed yX6_readOneDeed, Cond.code yX6_readOneDeed cX6_readOneDeed 4 (some .boolean)]
def wsX6_shop : List Cond := .code yX6_shop cX6_shop 2 (some .int) :: ((wsX6_shop_r1 ++ (wsX6_shop_r2 ++ wsX6_shop_r3)) ++ wsX60)
def wsX6_dueBy : List Cond := .code yX6_dueBy cX6_dueBy 4 (some .int) :: ([])
def wsX6_dueOf : List Cond := .code yX6_dueOf cX6_dueOf 3 (some .int) :: ([.fieldLink RX6 16 "PluckBrokerModel" "worth" "[I", .fieldLink RX6 19 "PluckBrokerModel" "kind" "[I", .methodLink RX6 129 yX6_dueBy, .static yX6_dueBy, .initialized RX6, .code yX6_dueBy cX6_dueBy 4 (some .int)] ++ wsX60)
def wsX6_thatAre : List Cond := .code yX6_thatAre cX6_thatAre 5 (some .int) :: ([.fieldLink RX6 79 "PluckBrokerModel" "qualities" "I"] ++ wsX60)
def wsX6_deedsThat : List Cond := .code yX6_deedsThat cX6_deedsThat 5 (some .int) :: ([.fieldLink RX6 82 "PluckBrokerModel" "deeds" "I"] ++ wsX60)
def wsX6_ownOf : List Cond := .code yX6_ownOf cX6_ownOf 4 (some .int) :: ([.fieldLink RX6 79 "PluckBrokerModel" "qualities" "I", .fieldLink RX6 13 "PluckBrokerModel" "owner" "[I"] ++ wsX60)
def wsX6_deedsOf : List Cond := .code yX6_deedsOf cX6_deedsOf 4 (some .int) :: ([.fieldLink RX6 82 "PluckBrokerModel" "deeds" "I", .fieldLink RX6 13 "PluckBrokerModel" "owner" "[I", .fieldLink RX6 22 "PluckBrokerModel" "wants" "[I"] ++ wsX60)
def wsX6_goDay : List Cond := .code yX6_goDay cX6_goDay 5 (some .int) :: ([.fieldLink RX6 82 "PluckBrokerModel" "deeds" "I", .fieldLink RX6 25 "PluckBrokerModel" "when" "[I", .fieldLink RX6 22 "PluckBrokerModel" "wants" "[I", .fieldLink RX6 13 "PluckBrokerModel" "owner" "[I", .fieldLink RX6 28 "PluckBrokerModel" "pays" "[I", .fieldLink RX6 79 "PluckBrokerModel" "qualities" "I", .fieldLink RX6 19 "PluckBrokerModel" "kind" "[I"] ++ wsX60)
def wsX6_goDays : List Cond := .code yX6_goDays cX6_goDays 3 none :: ([.fieldLink RX6 43 "PluckBrokerModel" "trial" "[I", .methodLink RX6 133 yX6_goDay, .instanceMethod yX6_goDay, .selects RX6 yX6_goDay yX6_goDay, .initialized RX6, .code yX6_goDay cX6_goDay 5 (some .int), .fieldLink RX6 82 "PluckBrokerModel" "deeds" "I", .fieldLink RX6 25 "PluckBrokerModel" "when" "[I", .fieldLink RX6 22 "PluckBrokerModel" "wants" "[I", .fieldLink RX6 13 "PluckBrokerModel" "owner" "[I", .fieldLink RX6 28 "PluckBrokerModel" "pays" "[I", .fieldLink RX6 79 "PluckBrokerModel" "qualities" "I", .fieldLink RX6 19 "PluckBrokerModel" "kind" "[I"] ++ wsX60)
def wsX6_about : List Cond := .code yX6_about cX6_about 2 (some .int) :: ([.fieldLink RX6 68 "PluckBrokerModel" "thrown" "I", .fieldLink RX6 72 "PluckBrokerModel" "persons" "I", .fieldLink RX6 79 "PluckBrokerModel" "qualities" "I", .fieldLink RX6 82 "PluckBrokerModel" "deeds" "I", .fieldLink RX6 40 "PluckBrokerModel" "page" "[I", .fieldLink RX6 126 "PluckBrokerModel" "acts" "I", .fieldLink RX6 144 "PluckBrokerModel" "asked" "I", .fieldLink RX6 87 "PluckBrokerModel" "textSize" "I", .methodLink RX6 137 yX6_thatAre, .instanceMethod yX6_thatAre, .selects RX6 yX6_thatAre yX6_thatAre, .initialized RX6, .code yX6_thatAre cX6_thatAre 5 (some .int), .methodLink RX6 141 yX6_deedsThat, .instanceMethod yX6_deedsThat, .selects RX6 yX6_deedsThat yX6_deedsThat, .code yX6_deedsThat cX6_deedsThat 5 (some .int)] ++ wsX60)
def wsX6_person : List Cond := .code yX6_person cX6_person 3 (some .int) :: ([.fieldLink RX6 68 "PluckBrokerModel" "thrown" "I", .fieldLink RX6 40 "PluckBrokerModel" "page" "[I", .methodLink RX6 147 yX6_noPerson, .instanceMethod yX6_noPerson, .selects RX6 yX6_noPerson yX6_noPerson, .initialized RX6, .code yX6_noPerson cX6_noPerson 2 (some .boolean), .fieldLink RX6 72 "PluckBrokerModel" "persons" "I", .methodLink RX6 75 yX6_in, .static yX6_in, .code yX6_in cX6_in 6 (some .boolean), .methodLink RX6 151 yX6_ownOf, .instanceMethod yX6_ownOf, .selects RX6 yX6_ownOf yX6_ownOf, .code yX6_ownOf cX6_ownOf 4 (some .int), .fieldLink RX6 79 "PluckBrokerModel" "qualities" "I", .fieldLink RX6 13 "PluckBrokerModel" "owner" "[I", .methodLink RX6 155 yX6_deedsOf, .instanceMethod yX6_deedsOf, .selects RX6 yX6_deedsOf yX6_deedsOf, .code yX6_deedsOf cX6_deedsOf 4 (some .int), .fieldLink RX6 82 "PluckBrokerModel" "deeds" "I", .fieldLink RX6 22 "PluckBrokerModel" "wants" "[I"] ++ wsX60)
def wsX6_quality : List Cond := .code yX6_quality cX6_quality 3 (some .int) :: ([.fieldLink RX6 68 "PluckBrokerModel" "thrown" "I", .fieldLink RX6 13 "PluckBrokerModel" "owner" "[I", .fieldLink RX6 16 "PluckBrokerModel" "worth" "[I", .fieldLink RX6 19 "PluckBrokerModel" "kind" "[I", .fieldLink RX6 40 "PluckBrokerModel" "page" "[I", .methodLink RX6 158 yX6_noQuality, .instanceMethod yX6_noQuality, .selects RX6 yX6_noQuality yX6_noQuality, .initialized RX6, .code yX6_noQuality cX6_noQuality 2 (some .boolean), .fieldLink RX6 79 "PluckBrokerModel" "qualities" "I", .methodLink RX6 75 yX6_in, .static yX6_in, .code yX6_in cX6_in 6 (some .boolean), .methodLink RX6 161 yX6_dueOf, .instanceMethod yX6_dueOf, .selects RX6 yX6_dueOf yX6_dueOf, .code yX6_dueOf cX6_dueOf 3 (some .int), .methodLink RX6 129 yX6_dueBy, .static yX6_dueBy, .code yX6_dueBy cX6_dueBy 4 (some .int)] ++ wsX60)
def wsX6_deed : List Cond := .code yX6_deed cX6_deed 3 (some .int) :: ([.fieldLink RX6 68 "PluckBrokerModel" "thrown" "I", .fieldLink RX6 22 "PluckBrokerModel" "wants" "[I", .fieldLink RX6 25 "PluckBrokerModel" "when" "[I", .fieldLink RX6 28 "PluckBrokerModel" "pays" "[I", .fieldLink RX6 40 "PluckBrokerModel" "page" "[I", .methodLink RX6 164 yX6_noDeed, .instanceMethod yX6_noDeed, .selects RX6 yX6_noDeed yX6_noDeed, .initialized RX6, .code yX6_noDeed cX6_noDeed 2 (some .boolean), .fieldLink RX6 82 "PluckBrokerModel" "deeds" "I", .methodLink RX6 75 yX6_in, .static yX6_in, .code yX6_in cX6_in 6 (some .boolean)] ++ wsX60)
def wsX6_note : List Cond := .code yX6_note cX6_note 2 none :: ([.fieldLink RX6 126 "PluckBrokerModel" "acts" "I", .fieldLink RX6 46 "PluckBrokerModel" "book" "[I", .fieldLink RX6 40 "PluckBrokerModel" "page" "[I"] ++ wsX60)
def wsX6_day : List Cond := .code yX6_day cX6_day 1 (some .int) :: ([.fieldLink RX6 68 "PluckBrokerModel" "thrown" "I", .fieldLink RX6 40 "PluckBrokerModel" "page" "[I", .methodLink RX6 167 yX6_note, .instanceMethod yX6_note, .selects RX6 yX6_note yX6_note, .initialized RX6, .code yX6_note cX6_note 2 none, .fieldLink RX6 126 "PluckBrokerModel" "acts" "I", .fieldLink RX6 46 "PluckBrokerModel" "book" "[I", .methodLink RX6 133 yX6_goDay, .instanceMethod yX6_goDay, .selects RX6 yX6_goDay yX6_goDay, .code yX6_goDay cX6_goDay 5 (some .int), .fieldLink RX6 82 "PluckBrokerModel" "deeds" "I", .fieldLink RX6 25 "PluckBrokerModel" "when" "[I", .fieldLink RX6 22 "PluckBrokerModel" "wants" "[I", .fieldLink RX6 13 "PluckBrokerModel" "owner" "[I", .fieldLink RX6 28 "PluckBrokerModel" "pays" "[I", .fieldLink RX6 79 "PluckBrokerModel" "qualities" "I", .fieldLink RX6 19 "PluckBrokerModel" "kind" "[I"] ++ wsX60)
def wsX6_canPledge : List Cond := .code yX6_canPledge cX6_canPledge 3 (some .boolean) :: ([.fieldLink RX6 16 "PluckBrokerModel" "worth" "[I"] ++ wsX60)
def wsX6_goPledge : List Cond := .code yX6_goPledge cX6_goPledge 3 none :: ([.fieldLink RX6 16 "PluckBrokerModel" "worth" "[I", .fieldLink RX6 13 "PluckBrokerModel" "owner" "[I"] ++ wsX60)
def wsX6_pledge_r1 : List Cond := [Cond.fieldLink RX6 68 "PluckBrokerModel" "thrown" "I", Cond.fieldLink RX6 40 "PluckBrokerModel" "page" "[I", Cond.methodLink RX6 158 yX6_noQuality, Cond.instanceMethod yX6_noQuality, Cond.selects RX6 yX6_noQuality yX6_noQuality, Cond.initialized RX6, Cond.code yX6_noQuality cX6_noQuality 2 (some .boolean), Cond.fieldLink RX6 79 "PluckBrokerModel" "qualities" "I", Cond.methodLink RX6 75 yX6_in, Cond.static yX6_in, Cond.code yX6_in cX6_in 6 (some .boolean), Cond.methodLink RX6 170 yX6_canPledge, Cond.instanceMethod yX6_canPledge, Cond.selects RX6 yX6_canPledge yX6_canPledge, Cond.code yX6_canPledge cX6_canPledge 3 (some .boolean), Cond.fieldLink RX6 16 "PluckBrokerModel" "worth" "[I", Cond.methodLink RX6 167 yX6_note, Cond.instanceMethod yX6_note, Cond.selects RX6 yX6_note yX6_note, Cond.code yX6_note cX6_note 2 none, Cond.fieldLink RX6 126 "PluckBrokerModel" "acts" "I", Cond.fieldLink RX6 46 "PluckBrokerModel" "book" "[I", Cond.methodLink RX6 174 yX6_goPledge, Cond.instanceMethod yX6_goPledge]
def wsX6_pledge_r2 : List Cond := [Cond.selects RX6 yX6_goPledge yX6_goPledge, Cond.code yX6_goPledge cX6_goPledge 3 none, Cond.fieldLink RX6 13 "PluckBrokerModel" "owner" "[I"]
def wsX6_pledge : List Cond := .code yX6_pledge cX6_pledge 2 (some .int) :: ((wsX6_pledge_r1 ++ wsX6_pledge_r2) ++ wsX60)
def wsX6_canRedeem : List Cond := .code yX6_canRedeem cX6_canRedeem 3 (some .boolean) :: ([.fieldLink RX6 13 "PluckBrokerModel" "owner" "[I", .methodLink RX6 161 yX6_dueOf, .instanceMethod yX6_dueOf, .selects RX6 yX6_dueOf yX6_dueOf, .initialized RX6, .code yX6_dueOf cX6_dueOf 3 (some .int), .fieldLink RX6 16 "PluckBrokerModel" "worth" "[I", .fieldLink RX6 19 "PluckBrokerModel" "kind" "[I", .methodLink RX6 129 yX6_dueBy, .static yX6_dueBy, .code yX6_dueBy cX6_dueBy 4 (some .int)] ++ wsX60)
def wsX6_goRedeem : List Cond := .code yX6_goRedeem cX6_goRedeem 4 none :: ([.fieldLink RX6 13 "PluckBrokerModel" "owner" "[I", .methodLink RX6 161 yX6_dueOf, .instanceMethod yX6_dueOf, .selects RX6 yX6_dueOf yX6_dueOf, .initialized RX6, .code yX6_dueOf cX6_dueOf 3 (some .int), .fieldLink RX6 16 "PluckBrokerModel" "worth" "[I", .fieldLink RX6 19 "PluckBrokerModel" "kind" "[I", .methodLink RX6 129 yX6_dueBy, .static yX6_dueBy, .code yX6_dueBy cX6_dueBy 4 (some .int)] ++ wsX60)
def wsX6_redeem_r1 : List Cond := [Cond.fieldLink RX6 68 "PluckBrokerModel" "thrown" "I", Cond.fieldLink RX6 40 "PluckBrokerModel" "page" "[I", Cond.fieldLink RX6 13 "PluckBrokerModel" "owner" "[I", Cond.methodLink RX6 158 yX6_noQuality, Cond.instanceMethod yX6_noQuality, Cond.selects RX6 yX6_noQuality yX6_noQuality, Cond.initialized RX6, Cond.code yX6_noQuality cX6_noQuality 2 (some .boolean), Cond.fieldLink RX6 79 "PluckBrokerModel" "qualities" "I", Cond.methodLink RX6 75 yX6_in, Cond.static yX6_in, Cond.code yX6_in cX6_in 6 (some .boolean), Cond.methodLink RX6 178 yX6_canRedeem, Cond.instanceMethod yX6_canRedeem, Cond.selects RX6 yX6_canRedeem yX6_canRedeem, Cond.code yX6_canRedeem cX6_canRedeem 3 (some .boolean), Cond.methodLink RX6 161 yX6_dueOf, Cond.instanceMethod yX6_dueOf, Cond.selects RX6 yX6_dueOf yX6_dueOf, Cond.code yX6_dueOf cX6_dueOf 3 (some .int), Cond.fieldLink RX6 16 "PluckBrokerModel" "worth" "[I", Cond.fieldLink RX6 19 "PluckBrokerModel" "kind" "[I", Cond.methodLink RX6 129 yX6_dueBy, Cond.static yX6_dueBy]
def wsX6_redeem_r2 : List Cond := [Cond.code yX6_dueBy cX6_dueBy 4 (some .int), Cond.methodLink RX6 167 yX6_note, Cond.instanceMethod yX6_note, Cond.selects RX6 yX6_note yX6_note, Cond.code yX6_note cX6_note 2 none, Cond.fieldLink RX6 126 "PluckBrokerModel" "acts" "I", Cond.fieldLink RX6 46 "PluckBrokerModel" "book" "[I", Cond.methodLink RX6 181 yX6_goRedeem, Cond.instanceMethod yX6_goRedeem, Cond.selects RX6 yX6_goRedeem yX6_goRedeem, Cond.code yX6_goRedeem cX6_goRedeem 4 none]
def wsX6_redeem : List Cond := .code yX6_redeem cX6_redeem 2 (some .int) :: ((wsX6_redeem_r1 ++ wsX6_redeem_r2) ++ wsX60)
def wsX6_give : List Cond := .code yX6_give cX6_give 3 (some .int) :: ([.fieldLink RX6 68 "PluckBrokerModel" "thrown" "I", .constantLong RX6 184 (9), .fieldLink RX6 40 "PluckBrokerModel" "page" "[I", .methodLink RX6 147 yX6_noPerson, .instanceMethod yX6_noPerson, .selects RX6 yX6_noPerson yX6_noPerson, .initialized RX6, .code yX6_noPerson cX6_noPerson 2 (some .boolean), .fieldLink RX6 72 "PluckBrokerModel" "persons" "I", .methodLink RX6 75 yX6_in, .static yX6_in, .code yX6_in cX6_in 6 (some .boolean), .methodLink RX6 167 yX6_note, .instanceMethod yX6_note, .selects RX6 yX6_note yX6_note, .code yX6_note cX6_note 2 none, .fieldLink RX6 126 "PluckBrokerModel" "acts" "I", .fieldLink RX6 46 "PluckBrokerModel" "book" "[I"] ++ wsX60)
def wsX6_undo : List Cond := .code yX6_undo cX6_undo 2 (some .int) :: ([.fieldLink RX6 68 "PluckBrokerModel" "thrown" "I", .fieldLink RX6 126 "PluckBrokerModel" "acts" "I", .fieldLink RX6 40 "PluckBrokerModel" "page" "[I", .fieldLink RX6 46 "PluckBrokerModel" "book" "[I"] ++ wsX60)
def wsX6_begin : List Cond := .code yX6_begin cX6_begin 2 none :: ([.fieldLink RX6 43 "PluckBrokerModel" "trial" "[I", .fieldLink RX6 40 "PluckBrokerModel" "page" "[I"] ++ wsX60)
def wsX6_due_r1 : List Cond := [Cond.fieldLink RX6 68 "PluckBrokerModel" "thrown" "I", Cond.constantLong RX6 186 (20), Cond.fieldLink RX6 43 "PluckBrokerModel" "trial" "[I", Cond.methodLink RX6 158 yX6_noQuality, Cond.instanceMethod yX6_noQuality, Cond.selects RX6 yX6_noQuality yX6_noQuality, Cond.initialized RX6, Cond.code yX6_noQuality cX6_noQuality 2 (some .boolean), Cond.fieldLink RX6 79 "PluckBrokerModel" "qualities" "I", Cond.methodLink RX6 75 yX6_in, Cond.static yX6_in, Cond.code yX6_in cX6_in 6 (some .boolean), Cond.methodLink RX6 188 yX6_begin, Cond.instanceMethod yX6_begin, Cond.selects RX6 yX6_begin yX6_begin, Cond.code yX6_begin cX6_begin 2 none, Cond.fieldLink RX6 40 "PluckBrokerModel" "page" "[I", Cond.methodLink RX6 191 yX6_goDays, Cond.instanceMethod yX6_goDays, Cond.selects RX6 yX6_goDays yX6_goDays, Cond.code yX6_goDays cX6_goDays 3 none, Cond.methodLink RX6 133 yX6_goDay, Cond.instanceMethod yX6_goDay, Cond.selects RX6 yX6_goDay yX6_goDay]
def wsX6_due_r2 : List Cond := [Cond.code yX6_goDay cX6_goDay 5 (some .int), Cond.fieldLink RX6 82 "PluckBrokerModel" "deeds" "I", Cond.fieldLink RX6 25 "PluckBrokerModel" "when" "[I", Cond.fieldLink RX6 22 "PluckBrokerModel" "wants" "[I", Cond.fieldLink RX6 13 "PluckBrokerModel" "owner" "[I", Cond.fieldLink RX6 28 "PluckBrokerModel" "pays" "[I", Cond.fieldLink RX6 19 "PluckBrokerModel" "kind" "[I", Cond.methodLink RX6 161 yX6_dueOf, Cond.instanceMethod yX6_dueOf, Cond.selects RX6 yX6_dueOf yX6_dueOf, Cond.code yX6_dueOf cX6_dueOf 3 (some .int), Cond.fieldLink RX6 16 "PluckBrokerModel" "worth" "[I", Cond.methodLink RX6 129 yX6_dueBy, Cond.static yX6_dueBy, Cond.code yX6_dueBy cX6_dueBy 4 (some .int)]
def wsX6_due : List Cond := .code yX6_due cX6_due 3 (some .int) :: ((wsX6_due_r1 ++ wsX6_due_r2) ++ wsX60)
def wsX6_done_r1 : List Cond := [Cond.fieldLink RX6 68 "PluckBrokerModel" "thrown" "I", Cond.constantLong RX6 186 (20), Cond.fieldLink RX6 43 "PluckBrokerModel" "trial" "[I", Cond.methodLink RX6 75 yX6_in, Cond.static yX6_in, Cond.initialized RX6, Cond.code yX6_in cX6_in 6 (some .boolean), Cond.methodLink RX6 188 yX6_begin, Cond.instanceMethod yX6_begin, Cond.selects RX6 yX6_begin yX6_begin, Cond.code yX6_begin cX6_begin 2 none, Cond.fieldLink RX6 40 "PluckBrokerModel" "page" "[I", Cond.methodLink RX6 191 yX6_goDays, Cond.instanceMethod yX6_goDays, Cond.selects RX6 yX6_goDays yX6_goDays, Cond.code yX6_goDays cX6_goDays 3 none, Cond.methodLink RX6 133 yX6_goDay, Cond.instanceMethod yX6_goDay, Cond.selects RX6 yX6_goDay yX6_goDay, Cond.code yX6_goDay cX6_goDay 5 (some .int), Cond.fieldLink RX6 82 "PluckBrokerModel" "deeds" "I", Cond.fieldLink RX6 25 "PluckBrokerModel" "when" "[I", Cond.fieldLink RX6 22 "PluckBrokerModel" "wants" "[I", Cond.fieldLink RX6 13 "PluckBrokerModel" "owner" "[I"]
def wsX6_done_r2 : List Cond := [Cond.fieldLink RX6 28 "PluckBrokerModel" "pays" "[I", Cond.fieldLink RX6 79 "PluckBrokerModel" "qualities" "I", Cond.fieldLink RX6 19 "PluckBrokerModel" "kind" "[I", Cond.methodLink RX6 141 yX6_deedsThat, Cond.instanceMethod yX6_deedsThat, Cond.selects RX6 yX6_deedsThat yX6_deedsThat, Cond.code yX6_deedsThat cX6_deedsThat 5 (some .int)]
def wsX6_done : List Cond := .code yX6_done cX6_done 2 (some .int) :: ((wsX6_done_r1 ++ wsX6_done_r2) ++ wsX60)
def wsX6_coins_r1 : List Cond := [Cond.fieldLink RX6 68 "PluckBrokerModel" "thrown" "I", Cond.constantLong RX6 186 (20), Cond.fieldLink RX6 43 "PluckBrokerModel" "trial" "[I", Cond.methodLink RX6 147 yX6_noPerson, Cond.instanceMethod yX6_noPerson, Cond.selects RX6 yX6_noPerson yX6_noPerson, Cond.initialized RX6, Cond.code yX6_noPerson cX6_noPerson 2 (some .boolean), Cond.fieldLink RX6 72 "PluckBrokerModel" "persons" "I", Cond.methodLink RX6 75 yX6_in, Cond.static yX6_in, Cond.code yX6_in cX6_in 6 (some .boolean), Cond.methodLink RX6 188 yX6_begin, Cond.instanceMethod yX6_begin, Cond.selects RX6 yX6_begin yX6_begin, Cond.code yX6_begin cX6_begin 2 none, Cond.fieldLink RX6 40 "PluckBrokerModel" "page" "[I", Cond.methodLink RX6 191 yX6_goDays, Cond.instanceMethod yX6_goDays, Cond.selects RX6 yX6_goDays yX6_goDays, Cond.code yX6_goDays cX6_goDays 3 none, Cond.methodLink RX6 133 yX6_goDay, Cond.instanceMethod yX6_goDay, Cond.selects RX6 yX6_goDay yX6_goDay]
def wsX6_coins_r2 : List Cond := [Cond.code yX6_goDay cX6_goDay 5 (some .int), Cond.fieldLink RX6 82 "PluckBrokerModel" "deeds" "I", Cond.fieldLink RX6 25 "PluckBrokerModel" "when" "[I", Cond.fieldLink RX6 22 "PluckBrokerModel" "wants" "[I", Cond.fieldLink RX6 13 "PluckBrokerModel" "owner" "[I", Cond.fieldLink RX6 28 "PluckBrokerModel" "pays" "[I", Cond.fieldLink RX6 79 "PluckBrokerModel" "qualities" "I", Cond.fieldLink RX6 19 "PluckBrokerModel" "kind" "[I"]
def wsX6_coins : List Cond := .code yX6_coins cX6_coins 3 (some .int) :: ((wsX6_coins_r1 ++ wsX6_coins_r2) ++ wsX60)
def wsX6_worthOf : List Cond := .code yX6_worthOf cX6_worthOf 4 (some .int) :: ([.fieldLink RX6 79 "PluckBrokerModel" "qualities" "I", .fieldLink RX6 16 "PluckBrokerModel" "worth" "[I", .methodLink RX6 195 yX6_has, .static yX6_has, .initialized RX6, .code yX6_has cX6_has 2 (some .boolean)] ++ wsX60)
def wsX6_doneBy_r1 : List Cond := [Cond.fieldLink RX6 79 "PluckBrokerModel" "qualities" "I", Cond.fieldLink RX6 43 "PluckBrokerModel" "trial" "[I", Cond.methodLink RX6 188 yX6_begin, Cond.instanceMethod yX6_begin, Cond.selects RX6 yX6_begin yX6_begin, Cond.initialized RX6, Cond.code yX6_begin cX6_begin 2 none, Cond.fieldLink RX6 40 "PluckBrokerModel" "page" "[I", Cond.methodLink RX6 195 yX6_has, Cond.static yX6_has, Cond.code yX6_has cX6_has 2 (some .boolean), Cond.methodLink RX6 174 yX6_goPledge, Cond.instanceMethod yX6_goPledge, Cond.selects RX6 yX6_goPledge yX6_goPledge, Cond.code yX6_goPledge cX6_goPledge 3 none, Cond.fieldLink RX6 16 "PluckBrokerModel" "worth" "[I", Cond.fieldLink RX6 13 "PluckBrokerModel" "owner" "[I", Cond.methodLink RX6 191 yX6_goDays, Cond.instanceMethod yX6_goDays, Cond.selects RX6 yX6_goDays yX6_goDays, Cond.code yX6_goDays cX6_goDays 3 none, Cond.methodLink RX6 133 yX6_goDay, Cond.instanceMethod yX6_goDay, Cond.selects RX6 yX6_goDay yX6_goDay]
def wsX6_doneBy_r2 : List Cond := [Cond.code yX6_goDay cX6_goDay 5 (some .int), Cond.fieldLink RX6 82 "PluckBrokerModel" "deeds" "I", Cond.fieldLink RX6 25 "PluckBrokerModel" "when" "[I", Cond.fieldLink RX6 22 "PluckBrokerModel" "wants" "[I", Cond.fieldLink RX6 28 "PluckBrokerModel" "pays" "[I", Cond.fieldLink RX6 19 "PluckBrokerModel" "kind" "[I", Cond.methodLink RX6 141 yX6_deedsThat, Cond.instanceMethod yX6_deedsThat, Cond.selects RX6 yX6_deedsThat yX6_deedsThat, Cond.code yX6_deedsThat cX6_deedsThat 5 (some .int), Cond.methodLink RX6 155 yX6_deedsOf, Cond.instanceMethod yX6_deedsOf, Cond.selects RX6 yX6_deedsOf yX6_deedsOf, Cond.code yX6_deedsOf cX6_deedsOf 4 (some .int), Cond.methodLink RX6 199 yX6_many, Cond.static yX6_many, Cond.code yX6_many cX6_many 3 (some .int)]
def wsX6_doneBy : List Cond := .code yX6_doneBy cX6_doneBy 4 (some .int) :: ((wsX6_doneBy_r1 ++ wsX6_doneBy_r2) ++ wsX60)
def wsX6_raise_r1 : List Cond := [Cond.fieldLink RX6 68 "PluckBrokerModel" "thrown" "I", Cond.constantLong RX6 202 (60), Cond.fieldLink RX6 40 "PluckBrokerModel" "page" "[I", Cond.fieldLink RX6 204 "PluckBrokerModel" "raiseWhich" "I", Cond.fieldLink RX6 207 "PluckBrokerModel" "raiseMany" "I", Cond.fieldLink RX6 79 "PluckBrokerModel" "qualities" "I", Cond.methodLink RX6 147 yX6_noPerson, Cond.instanceMethod yX6_noPerson, Cond.selects RX6 yX6_noPerson yX6_noPerson, Cond.initialized RX6, Cond.code yX6_noPerson cX6_noPerson 2 (some .boolean), Cond.fieldLink RX6 72 "PluckBrokerModel" "persons" "I", Cond.methodLink RX6 75 yX6_in, Cond.static yX6_in, Cond.code yX6_in cX6_in 6 (some .boolean), Cond.methodLink RX6 137 yX6_thatAre, Cond.instanceMethod yX6_thatAre, Cond.selects RX6 yX6_thatAre yX6_thatAre, Cond.code yX6_thatAre cX6_thatAre 5 (some .int), Cond.methodLink RX6 151 yX6_ownOf, Cond.instanceMethod yX6_ownOf, Cond.selects RX6 yX6_ownOf yX6_ownOf, Cond.code yX6_ownOf cX6_ownOf 4 (some .int), Cond.fieldLink RX6 13 "PluckBrokerModel" "owner" "[I"]
def wsX6_raise_r2 : List Cond := [Cond.methodLink RX6 210 yX6_worthOf, Cond.instanceMethod yX6_worthOf, Cond.selects RX6 yX6_worthOf yX6_worthOf, Cond.code yX6_worthOf cX6_worthOf 4 (some .int), Cond.fieldLink RX6 16 "PluckBrokerModel" "worth" "[I", Cond.methodLink RX6 195 yX6_has, Cond.static yX6_has, Cond.code yX6_has cX6_has 2 (some .boolean), Cond.methodLink RX6 213 yX6_doneBy, Cond.instanceMethod yX6_doneBy, Cond.selects RX6 yX6_doneBy yX6_doneBy, Cond.code yX6_doneBy cX6_doneBy 4 (some .int), Cond.fieldLink RX6 43 "PluckBrokerModel" "trial" "[I", Cond.methodLink RX6 188 yX6_begin, Cond.instanceMethod yX6_begin, Cond.selects RX6 yX6_begin yX6_begin, Cond.code yX6_begin cX6_begin 2 none, Cond.methodLink RX6 174 yX6_goPledge, Cond.instanceMethod yX6_goPledge, Cond.selects RX6 yX6_goPledge yX6_goPledge, Cond.code yX6_goPledge cX6_goPledge 3 none, Cond.methodLink RX6 191 yX6_goDays, Cond.instanceMethod yX6_goDays, Cond.selects RX6 yX6_goDays yX6_goDays]
def wsX6_raise_r3 : List Cond := [Cond.code yX6_goDays cX6_goDays 3 none, Cond.methodLink RX6 133 yX6_goDay, Cond.instanceMethod yX6_goDay, Cond.selects RX6 yX6_goDay yX6_goDay, Cond.code yX6_goDay cX6_goDay 5 (some .int), Cond.fieldLink RX6 82 "PluckBrokerModel" "deeds" "I", Cond.fieldLink RX6 25 "PluckBrokerModel" "when" "[I", Cond.fieldLink RX6 22 "PluckBrokerModel" "wants" "[I", Cond.fieldLink RX6 28 "PluckBrokerModel" "pays" "[I", Cond.fieldLink RX6 19 "PluckBrokerModel" "kind" "[I", Cond.methodLink RX6 141 yX6_deedsThat, Cond.instanceMethod yX6_deedsThat, Cond.selects RX6 yX6_deedsThat yX6_deedsThat, Cond.code yX6_deedsThat cX6_deedsThat 5 (some .int), Cond.methodLink RX6 155 yX6_deedsOf, Cond.instanceMethod yX6_deedsOf, Cond.selects RX6 yX6_deedsOf yX6_deedsOf, Cond.code yX6_deedsOf cX6_deedsOf 4 (some .int), Cond.methodLink RX6 199 yX6_many, Cond.static yX6_many, Cond.code yX6_many cX6_many 3 (some .int)]
def wsX6_raise : List Cond := .code yX6_raise cX6_raise 8 (some .int) :: ((wsX6_raise_r1 ++ (wsX6_raise_r2 ++ wsX6_raise_r3)) ++ wsX60)
def wsX6_back_r1 : List Cond := [Cond.fieldLink RX6 68 "PluckBrokerModel" "thrown" "I", Cond.fieldLink RX6 40 "PluckBrokerModel" "page" "[I", Cond.fieldLink RX6 43 "PluckBrokerModel" "trial" "[I", Cond.methodLink RX6 158 yX6_noQuality, Cond.instanceMethod yX6_noQuality, Cond.selects RX6 yX6_noQuality yX6_noQuality, Cond.initialized RX6, Cond.code yX6_noQuality cX6_noQuality 2 (some .boolean), Cond.fieldLink RX6 79 "PluckBrokerModel" "qualities" "I", Cond.methodLink RX6 75 yX6_in, Cond.static yX6_in, Cond.code yX6_in cX6_in 6 (some .boolean), Cond.methodLink RX6 188 yX6_begin, Cond.instanceMethod yX6_begin, Cond.selects RX6 yX6_begin yX6_begin, Cond.code yX6_begin cX6_begin 2 none, Cond.methodLink RX6 178 yX6_canRedeem, Cond.instanceMethod yX6_canRedeem, Cond.selects RX6 yX6_canRedeem yX6_canRedeem, Cond.code yX6_canRedeem cX6_canRedeem 3 (some .boolean), Cond.fieldLink RX6 13 "PluckBrokerModel" "owner" "[I", Cond.methodLink RX6 161 yX6_dueOf, Cond.instanceMethod yX6_dueOf, Cond.selects RX6 yX6_dueOf yX6_dueOf]
def wsX6_back_r2 : List Cond := [Cond.code yX6_dueOf cX6_dueOf 3 (some .int), Cond.fieldLink RX6 16 "PluckBrokerModel" "worth" "[I", Cond.fieldLink RX6 19 "PluckBrokerModel" "kind" "[I", Cond.methodLink RX6 129 yX6_dueBy, Cond.static yX6_dueBy, Cond.code yX6_dueBy cX6_dueBy 4 (some .int), Cond.methodLink RX6 133 yX6_goDay, Cond.instanceMethod yX6_goDay, Cond.selects RX6 yX6_goDay yX6_goDay, Cond.code yX6_goDay cX6_goDay 5 (some .int), Cond.fieldLink RX6 82 "PluckBrokerModel" "deeds" "I", Cond.fieldLink RX6 25 "PluckBrokerModel" "when" "[I", Cond.fieldLink RX6 22 "PluckBrokerModel" "wants" "[I", Cond.fieldLink RX6 28 "PluckBrokerModel" "pays" "[I"]
def wsX6_back : List Cond := .code yX6_back cX6_back 3 (some .int) :: ((wsX6_back_r1 ++ wsX6_back_r2) ++ wsX60)
def wsX6_longPower : List Cond := .code yX6_longPower cX6_longPower 6 (some .long) :: ([])
def wsX6_doesTo_r1 : List Cond := [Cond.fieldLink RX6 43 "PluckBrokerModel" "trial" "[I", Cond.methodLink RX6 164 yX6_noDeed, Cond.instanceMethod yX6_noDeed, Cond.selects RX6 yX6_noDeed yX6_noDeed, Cond.initialized RX6, Cond.code yX6_noDeed cX6_noDeed 2 (some .boolean), Cond.fieldLink RX6 82 "PluckBrokerModel" "deeds" "I", Cond.methodLink RX6 75 yX6_in, Cond.static yX6_in, Cond.code yX6_in cX6_in 6 (some .boolean), Cond.methodLink RX6 158 yX6_noQuality, Cond.instanceMethod yX6_noQuality, Cond.selects RX6 yX6_noQuality yX6_noQuality, Cond.code yX6_noQuality cX6_noQuality 2 (some .boolean), Cond.fieldLink RX6 79 "PluckBrokerModel" "qualities" "I", Cond.methodLink RX6 170 yX6_canPledge, Cond.instanceMethod yX6_canPledge, Cond.selects RX6 yX6_canPledge yX6_canPledge, Cond.code yX6_canPledge cX6_canPledge 3 (some .boolean), Cond.fieldLink RX6 16 "PluckBrokerModel" "worth" "[I", Cond.methodLink RX6 174 yX6_goPledge, Cond.instanceMethod yX6_goPledge, Cond.selects RX6 yX6_goPledge yX6_goPledge, Cond.code yX6_goPledge cX6_goPledge 3 none]
def wsX6_doesTo_r2 : List Cond := [Cond.fieldLink RX6 13 "PluckBrokerModel" "owner" "[I", Cond.methodLink RX6 178 yX6_canRedeem, Cond.instanceMethod yX6_canRedeem, Cond.selects RX6 yX6_canRedeem yX6_canRedeem, Cond.code yX6_canRedeem cX6_canRedeem 3 (some .boolean), Cond.methodLink RX6 161 yX6_dueOf, Cond.instanceMethod yX6_dueOf, Cond.selects RX6 yX6_dueOf yX6_dueOf, Cond.code yX6_dueOf cX6_dueOf 3 (some .int), Cond.fieldLink RX6 19 "PluckBrokerModel" "kind" "[I", Cond.methodLink RX6 129 yX6_dueBy, Cond.static yX6_dueBy, Cond.code yX6_dueBy cX6_dueBy 4 (some .int), Cond.methodLink RX6 181 yX6_goRedeem, Cond.instanceMethod yX6_goRedeem, Cond.selects RX6 yX6_goRedeem yX6_goRedeem, Cond.code yX6_goRedeem cX6_goRedeem 4 none]
def wsX6_doesTo : List Cond := .code yX6_doesTo cX6_doesTo 3 (some .boolean) :: ((wsX6_doesTo_r1 ++ wsX6_doesTo_r2) ++ wsX60)
def wsX6_does_r1 : List Cond := [Cond.fieldLink RX6 43 "PluckBrokerModel" "trial" "[I", Cond.methodLink RX6 133 yX6_goDay, Cond.instanceMethod yX6_goDay, Cond.selects RX6 yX6_goDay yX6_goDay, Cond.initialized RX6, Cond.code yX6_goDay cX6_goDay 5 (some .int), Cond.fieldLink RX6 82 "PluckBrokerModel" "deeds" "I", Cond.fieldLink RX6 25 "PluckBrokerModel" "when" "[I", Cond.fieldLink RX6 22 "PluckBrokerModel" "wants" "[I", Cond.fieldLink RX6 13 "PluckBrokerModel" "owner" "[I", Cond.fieldLink RX6 28 "PluckBrokerModel" "pays" "[I", Cond.fieldLink RX6 79 "PluckBrokerModel" "qualities" "I", Cond.fieldLink RX6 19 "PluckBrokerModel" "kind" "[I", Cond.methodLink RX6 147 yX6_noPerson, Cond.instanceMethod yX6_noPerson, Cond.selects RX6 yX6_noPerson yX6_noPerson, Cond.code yX6_noPerson cX6_noPerson 2 (some .boolean), Cond.fieldLink RX6 72 "PluckBrokerModel" "persons" "I", Cond.methodLink RX6 75 yX6_in, Cond.static yX6_in, Cond.code yX6_in cX6_in 6 (some .boolean), Cond.methodLink RX6 216 yX6_doesTo, Cond.instanceMethod yX6_doesTo, Cond.selects RX6 yX6_doesTo yX6_doesTo]
def wsX6_does_r2 : List Cond := [Cond.code yX6_doesTo cX6_doesTo 3 (some .boolean), Cond.methodLink RX6 164 yX6_noDeed, Cond.instanceMethod yX6_noDeed, Cond.selects RX6 yX6_noDeed yX6_noDeed, Cond.code yX6_noDeed cX6_noDeed 2 (some .boolean), Cond.methodLink RX6 158 yX6_noQuality, Cond.instanceMethod yX6_noQuality, Cond.selects RX6 yX6_noQuality yX6_noQuality, Cond.code yX6_noQuality cX6_noQuality 2 (some .boolean), Cond.methodLink RX6 170 yX6_canPledge, Cond.instanceMethod yX6_canPledge, Cond.selects RX6 yX6_canPledge yX6_canPledge, Cond.code yX6_canPledge cX6_canPledge 3 (some .boolean), Cond.fieldLink RX6 16 "PluckBrokerModel" "worth" "[I", Cond.methodLink RX6 174 yX6_goPledge, Cond.instanceMethod yX6_goPledge, Cond.selects RX6 yX6_goPledge yX6_goPledge, Cond.code yX6_goPledge cX6_goPledge 3 none, Cond.methodLink RX6 178 yX6_canRedeem, Cond.instanceMethod yX6_canRedeem, Cond.selects RX6 yX6_canRedeem yX6_canRedeem, Cond.code yX6_canRedeem cX6_canRedeem 3 (some .boolean), Cond.methodLink RX6 161 yX6_dueOf, Cond.instanceMethod yX6_dueOf]
def wsX6_does_r3 : List Cond := [Cond.selects RX6 yX6_dueOf yX6_dueOf, Cond.code yX6_dueOf cX6_dueOf 3 (some .int), Cond.methodLink RX6 129 yX6_dueBy, Cond.static yX6_dueBy, Cond.code yX6_dueBy cX6_dueBy 4 (some .int), Cond.methodLink RX6 181 yX6_goRedeem, Cond.instanceMethod yX6_goRedeem, Cond.selects RX6 yX6_goRedeem yX6_goRedeem, Cond.code yX6_goRedeem cX6_goRedeem 4 none]
def wsX6_does : List Cond := .code yX6_does cX6_does 6 (some .boolean) :: ((wsX6_does_r1 ++ (wsX6_does_r2 ++ wsX6_does_r3)) ++ wsX60)
def wsX6_judge_r1 : List Cond := [Cond.fieldLink RX6 68 "PluckBrokerModel" "thrown" "I", Cond.constantLong RX6 219 (4), Cond.constantLong RX6 221 (1000), Cond.methodLink RX6 75 yX6_in, Cond.static yX6_in, Cond.initialized RX6, Cond.code yX6_in cX6_in 6 (some .boolean), Cond.methodLink RX6 223 yX6_longPower, Cond.static yX6_longPower, Cond.code yX6_longPower cX6_longPower 6 (some .long), Cond.methodLink RX6 188 yX6_begin, Cond.instanceMethod yX6_begin, Cond.selects RX6 yX6_begin yX6_begin, Cond.code yX6_begin cX6_begin 2 none, Cond.fieldLink RX6 43 "PluckBrokerModel" "trial" "[I", Cond.fieldLink RX6 40 "PluckBrokerModel" "page" "[I", Cond.methodLink RX6 227 yX6_does, Cond.instanceMethod yX6_does, Cond.selects RX6 yX6_does yX6_does, Cond.code yX6_does cX6_does 6 (some .boolean), Cond.methodLink RX6 133 yX6_goDay, Cond.instanceMethod yX6_goDay, Cond.selects RX6 yX6_goDay yX6_goDay, Cond.code yX6_goDay cX6_goDay 5 (some .int)]
def wsX6_judge_r2 : List Cond := [Cond.fieldLink RX6 82 "PluckBrokerModel" "deeds" "I", Cond.fieldLink RX6 25 "PluckBrokerModel" "when" "[I", Cond.fieldLink RX6 22 "PluckBrokerModel" "wants" "[I", Cond.fieldLink RX6 13 "PluckBrokerModel" "owner" "[I", Cond.fieldLink RX6 28 "PluckBrokerModel" "pays" "[I", Cond.fieldLink RX6 79 "PluckBrokerModel" "qualities" "I", Cond.fieldLink RX6 19 "PluckBrokerModel" "kind" "[I", Cond.methodLink RX6 147 yX6_noPerson, Cond.instanceMethod yX6_noPerson, Cond.selects RX6 yX6_noPerson yX6_noPerson, Cond.code yX6_noPerson cX6_noPerson 2 (some .boolean), Cond.fieldLink RX6 72 "PluckBrokerModel" "persons" "I", Cond.methodLink RX6 216 yX6_doesTo, Cond.instanceMethod yX6_doesTo, Cond.selects RX6 yX6_doesTo yX6_doesTo, Cond.code yX6_doesTo cX6_doesTo 3 (some .boolean), Cond.methodLink RX6 164 yX6_noDeed, Cond.instanceMethod yX6_noDeed, Cond.selects RX6 yX6_noDeed yX6_noDeed, Cond.code yX6_noDeed cX6_noDeed 2 (some .boolean), Cond.methodLink RX6 158 yX6_noQuality, Cond.instanceMethod yX6_noQuality, Cond.selects RX6 yX6_noQuality yX6_noQuality, Cond.code yX6_noQuality cX6_noQuality 2 (some .boolean)]
def wsX6_judge_r3 : List Cond := [Cond.methodLink RX6 170 yX6_canPledge, Cond.instanceMethod yX6_canPledge, Cond.selects RX6 yX6_canPledge yX6_canPledge, Cond.code yX6_canPledge cX6_canPledge 3 (some .boolean), Cond.fieldLink RX6 16 "PluckBrokerModel" "worth" "[I", Cond.methodLink RX6 174 yX6_goPledge, Cond.instanceMethod yX6_goPledge, Cond.selects RX6 yX6_goPledge yX6_goPledge, Cond.code yX6_goPledge cX6_goPledge 3 none, Cond.methodLink RX6 178 yX6_canRedeem, Cond.instanceMethod yX6_canRedeem, Cond.selects RX6 yX6_canRedeem yX6_canRedeem, Cond.code yX6_canRedeem cX6_canRedeem 3 (some .boolean), Cond.methodLink RX6 161 yX6_dueOf, Cond.instanceMethod yX6_dueOf, Cond.selects RX6 yX6_dueOf yX6_dueOf, Cond.code yX6_dueOf cX6_dueOf 3 (some .int), Cond.methodLink RX6 129 yX6_dueBy, Cond.static yX6_dueBy, Cond.code yX6_dueBy cX6_dueBy 4 (some .int), Cond.methodLink RX6 181 yX6_goRedeem, Cond.instanceMethod yX6_goRedeem, Cond.selects RX6 yX6_goRedeem yX6_goRedeem, Cond.code yX6_goRedeem cX6_goRedeem 4 none]
def wsX6_judge : List Cond := .code yX6_judge cX6_judge 5 (some .int) :: ((wsX6_judge_r1 ++ (wsX6_judge_r2 ++ wsX6_judge_r3)) ++ wsX60)
def wsX6_ways : List Cond := .code yX6_ways cX6_ways 3 (some .int) :: ([])
def wsX6_divisor : List Cond := .code yX6_divisor cX6_divisor 5 (some .int) :: ([])
def wsX6_fraction : List Cond := .code yX6_fraction cX6_fraction 4 (some .int) :: ([.methodLink RX6 230 yX6_divisor, .static yX6_divisor, .initialized RX6, .code yX6_divisor cX6_divisor 5 (some .int)])
def wsX6_share_r1 : List Cond := [Cond.fieldLink RX6 68 "PluckBrokerModel" "thrown" "I", Cond.fieldLink RX6 79 "PluckBrokerModel" "qualities" "I", Cond.fieldLink RX6 43 "PluckBrokerModel" "trial" "[I", Cond.fieldLink RX6 65 "PluckBrokerModel" "value" "[I", Cond.methodLink RX6 158 yX6_noQuality, Cond.instanceMethod yX6_noQuality, Cond.selects RX6 yX6_noQuality yX6_noQuality, Cond.initialized RX6, Cond.code yX6_noQuality cX6_noQuality 2 (some .boolean), Cond.methodLink RX6 75 yX6_in, Cond.static yX6_in, Cond.code yX6_in cX6_in 6 (some .boolean), Cond.methodLink RX6 188 yX6_begin, Cond.instanceMethod yX6_begin, Cond.selects RX6 yX6_begin yX6_begin, Cond.code yX6_begin cX6_begin 2 none, Cond.fieldLink RX6 40 "PluckBrokerModel" "page" "[I", Cond.methodLink RX6 195 yX6_has, Cond.static yX6_has, Cond.code yX6_has cX6_has 2 (some .boolean), Cond.methodLink RX6 191 yX6_goDays, Cond.instanceMethod yX6_goDays, Cond.selects RX6 yX6_goDays yX6_goDays, Cond.code yX6_goDays cX6_goDays 3 none]
def wsX6_share_r2 : List Cond := [Cond.methodLink RX6 133 yX6_goDay, Cond.instanceMethod yX6_goDay, Cond.selects RX6 yX6_goDay yX6_goDay, Cond.code yX6_goDay cX6_goDay 5 (some .int), Cond.fieldLink RX6 82 "PluckBrokerModel" "deeds" "I", Cond.fieldLink RX6 25 "PluckBrokerModel" "when" "[I", Cond.fieldLink RX6 22 "PluckBrokerModel" "wants" "[I", Cond.fieldLink RX6 13 "PluckBrokerModel" "owner" "[I", Cond.fieldLink RX6 28 "PluckBrokerModel" "pays" "[I", Cond.fieldLink RX6 19 "PluckBrokerModel" "kind" "[I", Cond.methodLink RX6 141 yX6_deedsThat, Cond.instanceMethod yX6_deedsThat, Cond.selects RX6 yX6_deedsThat yX6_deedsThat, Cond.code yX6_deedsThat cX6_deedsThat 5 (some .int), Cond.methodLink RX6 199 yX6_many, Cond.static yX6_many, Cond.code yX6_many cX6_many 3 (some .int), Cond.methodLink RX6 233 yX6_ways, Cond.static yX6_ways, Cond.code yX6_ways cX6_ways 3 (some .int), Cond.methodLink RX6 236 yX6_fraction, Cond.static yX6_fraction, Cond.code yX6_fraction cX6_fraction 4 (some .int), Cond.methodLink RX6 230 yX6_divisor]
def wsX6_share_r3 : List Cond := [Cond.static yX6_divisor, Cond.code yX6_divisor cX6_divisor 5 (some .int)]
def wsX6_share : List Cond := .code yX6_share cX6_share 6 (some .int) :: ((wsX6_share_r1 ++ (wsX6_share_r2 ++ wsX6_share_r3)) ++ wsX60)
def wsX6_ask : List Cond := .code yX6_ask cX6_ask 3 (some .int) :: ([.fieldLink RX6 68 "PluckBrokerModel" "thrown" "I", .constantLong RX6 240 (8), .constantLong RX6 242 (30), .fieldLink RX6 144 "PluckBrokerModel" "asked" "I", .fieldLink RX6 56 "PluckBrokerModel" "askedDay" "[I", .fieldLink RX6 59 "PluckBrokerModel" "askedDue" "[I", .methodLink RX6 75 yX6_in, .static yX6_in, .initialized RX6, .code yX6_in cX6_in 6 (some .boolean)] ++ wsX60)
def wsX6_unask : List Cond := .code yX6_unask cX6_unask 2 (some .int) :: ([.fieldLink RX6 68 "PluckBrokerModel" "thrown" "I", .fieldLink RX6 144 "PluckBrokerModel" "asked" "I"] ++ wsX60)
def wsX6_tickets : List Cond := .code yX6_tickets cX6_tickets 6 (some .int) :: ([.fieldLink RX6 68 "PluckBrokerModel" "thrown" "I", .fieldLink RX6 244 "PluckBrokerModel" "ticketMany" "I", .fieldLink RX6 247 "PluckBrokerModel" "ticketFirst" "I", .fieldLink RX6 144 "PluckBrokerModel" "asked" "I", .fieldLink RX6 56 "PluckBrokerModel" "askedDay" "[I", .fieldLink RX6 59 "PluckBrokerModel" "askedDue" "[I", .methodLink RX6 75 yX6_in, .static yX6_in, .initialized RX6, .code yX6_in cX6_in 6 (some .boolean), .methodLink RX6 129 yX6_dueBy, .static yX6_dueBy, .code yX6_dueBy cX6_dueBy 4 (some .int)] ++ wsX60)
def wsX6_goBest : List Cond := .code yX6_goBest cX6_goBest 5 none :: ([.fieldLink RX6 79 "PluckBrokerModel" "qualities" "I", .fieldLink RX6 13 "PluckBrokerModel" "owner" "[I", .fieldLink RX6 43 "PluckBrokerModel" "trial" "[I", .fieldLink RX6 16 "PluckBrokerModel" "worth" "[I", .methodLink RX6 170 yX6_canPledge, .instanceMethod yX6_canPledge, .selects RX6 yX6_canPledge yX6_canPledge, .initialized RX6, .code yX6_canPledge cX6_canPledge 3 (some .boolean), .methodLink RX6 174 yX6_goPledge, .instanceMethod yX6_goPledge, .selects RX6 yX6_goPledge yX6_goPledge, .code yX6_goPledge cX6_goPledge 3 none] ++ wsX60)
def wsX6_rests_r1 : List Cond := [Cond.fieldLink RX6 68 "PluckBrokerModel" "thrown" "I", Cond.fieldLink RX6 43 "PluckBrokerModel" "trial" "[I", Cond.fieldLink RX6 62 "PluckBrokerModel" "gains" "[I", Cond.fieldLink RX6 253 "PluckBrokerModel" "restMany" "I", Cond.fieldLink RX6 256 "PluckBrokerModel" "restFirst" "I", Cond.methodLink RX6 147 yX6_noPerson, Cond.instanceMethod yX6_noPerson, Cond.selects RX6 yX6_noPerson yX6_noPerson, Cond.initialized RX6, Cond.code yX6_noPerson cX6_noPerson 2 (some .boolean), Cond.fieldLink RX6 72 "PluckBrokerModel" "persons" "I", Cond.methodLink RX6 75 yX6_in, Cond.static yX6_in, Cond.code yX6_in cX6_in 6 (some .boolean), Cond.methodLink RX6 188 yX6_begin, Cond.instanceMethod yX6_begin, Cond.selects RX6 yX6_begin yX6_begin, Cond.code yX6_begin cX6_begin 2 none, Cond.fieldLink RX6 40 "PluckBrokerModel" "page" "[I", Cond.methodLink RX6 250 yX6_goBest, Cond.instanceMethod yX6_goBest, Cond.selects RX6 yX6_goBest yX6_goBest, Cond.code yX6_goBest cX6_goBest 5 none, Cond.fieldLink RX6 79 "PluckBrokerModel" "qualities" "I"]
def wsX6_rests_r2 : List Cond := [Cond.fieldLink RX6 13 "PluckBrokerModel" "owner" "[I", Cond.fieldLink RX6 16 "PluckBrokerModel" "worth" "[I", Cond.methodLink RX6 170 yX6_canPledge, Cond.instanceMethod yX6_canPledge, Cond.selects RX6 yX6_canPledge yX6_canPledge, Cond.code yX6_canPledge cX6_canPledge 3 (some .boolean), Cond.methodLink RX6 174 yX6_goPledge, Cond.instanceMethod yX6_goPledge, Cond.selects RX6 yX6_goPledge yX6_goPledge, Cond.code yX6_goPledge cX6_goPledge 3 none, Cond.methodLink RX6 191 yX6_goDays, Cond.instanceMethod yX6_goDays, Cond.selects RX6 yX6_goDays yX6_goDays, Cond.code yX6_goDays cX6_goDays 3 none, Cond.methodLink RX6 133 yX6_goDay, Cond.instanceMethod yX6_goDay, Cond.selects RX6 yX6_goDay yX6_goDay, Cond.code yX6_goDay cX6_goDay 5 (some .int), Cond.fieldLink RX6 82 "PluckBrokerModel" "deeds" "I", Cond.fieldLink RX6 25 "PluckBrokerModel" "when" "[I", Cond.fieldLink RX6 22 "PluckBrokerModel" "wants" "[I", Cond.fieldLink RX6 28 "PluckBrokerModel" "pays" "[I", Cond.fieldLink RX6 19 "PluckBrokerModel" "kind" "[I", Cond.methodLink RX6 141 yX6_deedsThat]
def wsX6_rests_r3 : List Cond := [Cond.instanceMethod yX6_deedsThat, Cond.selects RX6 yX6_deedsThat yX6_deedsThat, Cond.code yX6_deedsThat cX6_deedsThat 5 (some .int), Cond.methodLink RX6 155 yX6_deedsOf, Cond.instanceMethod yX6_deedsOf, Cond.selects RX6 yX6_deedsOf yX6_deedsOf, Cond.code yX6_deedsOf cX6_deedsOf 4 (some .int), Cond.methodLink RX6 199 yX6_many, Cond.static yX6_many, Cond.code yX6_many cX6_many 3 (some .int)]
def wsX6_rests : List Cond := .code yX6_rests cX6_rests 8 (some .int) :: ((wsX6_rests_r1 ++ (wsX6_rests_r2 ++ wsX6_rests_r3)) ++ wsX60)
def wsX6_sales_r1 : List Cond := [Cond.fieldLink RX6 68 "PluckBrokerModel" "thrown" "I", Cond.constantLong RX6 259 (5), Cond.constantLong RX6 261 (10), Cond.fieldLink RX6 40 "PluckBrokerModel" "page" "[I", Cond.fieldLink RX6 79 "PluckBrokerModel" "qualities" "I", Cond.fieldLink RX6 43 "PluckBrokerModel" "trial" "[I", Cond.methodLink RX6 75 yX6_in, Cond.static yX6_in, Cond.initialized RX6, Cond.code yX6_in cX6_in 6 (some .boolean), Cond.methodLink RX6 137 yX6_thatAre, Cond.instanceMethod yX6_thatAre, Cond.selects RX6 yX6_thatAre yX6_thatAre, Cond.code yX6_thatAre cX6_thatAre 5 (some .int), Cond.methodLink RX6 199 yX6_many, Cond.static yX6_many, Cond.code yX6_many cX6_many 3 (some .int), Cond.methodLink RX6 188 yX6_begin, Cond.instanceMethod yX6_begin, Cond.selects RX6 yX6_begin yX6_begin, Cond.code yX6_begin cX6_begin 2 none, Cond.methodLink RX6 195 yX6_has, Cond.static yX6_has, Cond.code yX6_has cX6_has 2 (some .boolean)]
def wsX6_sales_r2 : List Cond := [Cond.methodLink RX6 191 yX6_goDays, Cond.instanceMethod yX6_goDays, Cond.selects RX6 yX6_goDays yX6_goDays, Cond.code yX6_goDays cX6_goDays 3 none, Cond.methodLink RX6 133 yX6_goDay, Cond.instanceMethod yX6_goDay, Cond.selects RX6 yX6_goDay yX6_goDay, Cond.code yX6_goDay cX6_goDay 5 (some .int), Cond.fieldLink RX6 82 "PluckBrokerModel" "deeds" "I", Cond.fieldLink RX6 25 "PluckBrokerModel" "when" "[I", Cond.fieldLink RX6 22 "PluckBrokerModel" "wants" "[I", Cond.fieldLink RX6 13 "PluckBrokerModel" "owner" "[I", Cond.fieldLink RX6 28 "PluckBrokerModel" "pays" "[I", Cond.fieldLink RX6 19 "PluckBrokerModel" "kind" "[I", Cond.methodLink RX6 141 yX6_deedsThat, Cond.instanceMethod yX6_deedsThat, Cond.selects RX6 yX6_deedsThat yX6_deedsThat, Cond.code yX6_deedsThat cX6_deedsThat 5 (some .int), Cond.methodLink RX6 263 yX6_power, Cond.static yX6_power, Cond.code yX6_power cX6_power 4 (some .int), Cond.methodLink RX6 236 yX6_fraction, Cond.static yX6_fraction, Cond.code yX6_fraction cX6_fraction 4 (some .int)]
def wsX6_sales_r3 : List Cond := [Cond.methodLink RX6 230 yX6_divisor, Cond.static yX6_divisor, Cond.code yX6_divisor cX6_divisor 5 (some .int)]
def wsX6_sales : List Cond := .code yX6_sales cX6_sales 9 (some .int) :: ((wsX6_sales_r1 ++ (wsX6_sales_r2 ++ wsX6_sales_r3)) ++ wsX60)
def wsX6_seed : List Cond := .code yX6_seed cX6_seed 5 (some .long) :: ([.fieldLink RX6 68 "PluckBrokerModel" "thrown" "I", .fieldLink RX6 266 "PluckBrokerModel" "seed" "J"] ++ wsX60)
def wsX6_years_r1 : List Cond := [Cond.fieldLink RX6 68 "PluckBrokerModel" "thrown" "I", Cond.constantLong RX6 242 (30), Cond.fieldLink RX6 266 "PluckBrokerModel" "seed" "J", Cond.constantLong RX6 270 (6364136223846793005), Cond.constantLong RX6 272 (1442695040888963407), Cond.constantLong RX6 274 (24), Cond.fieldLink RX6 72 "PluckBrokerModel" "persons" "I", Cond.fieldLink RX6 43 "PluckBrokerModel" "trial" "[I", Cond.methodLink RX6 75 yX6_in, Cond.static yX6_in, Cond.initialized RX6, Cond.code yX6_in cX6_in 6 (some .boolean), Cond.methodLink RX6 188 yX6_begin, Cond.instanceMethod yX6_begin, Cond.selects RX6 yX6_begin yX6_begin, Cond.code yX6_begin cX6_begin 2 none, Cond.fieldLink RX6 40 "PluckBrokerModel" "page" "[I", Cond.methodLink RX6 227 yX6_does, Cond.instanceMethod yX6_does, Cond.selects RX6 yX6_does yX6_does, Cond.code yX6_does cX6_does 6 (some .boolean), Cond.methodLink RX6 133 yX6_goDay, Cond.instanceMethod yX6_goDay, Cond.selects RX6 yX6_goDay yX6_goDay]
def wsX6_years_r2 : List Cond := [Cond.code yX6_goDay cX6_goDay 5 (some .int), Cond.fieldLink RX6 82 "PluckBrokerModel" "deeds" "I", Cond.fieldLink RX6 25 "PluckBrokerModel" "when" "[I", Cond.fieldLink RX6 22 "PluckBrokerModel" "wants" "[I", Cond.fieldLink RX6 13 "PluckBrokerModel" "owner" "[I", Cond.fieldLink RX6 28 "PluckBrokerModel" "pays" "[I", Cond.fieldLink RX6 79 "PluckBrokerModel" "qualities" "I", Cond.fieldLink RX6 19 "PluckBrokerModel" "kind" "[I", Cond.methodLink RX6 147 yX6_noPerson, Cond.instanceMethod yX6_noPerson, Cond.selects RX6 yX6_noPerson yX6_noPerson, Cond.code yX6_noPerson cX6_noPerson 2 (some .boolean), Cond.methodLink RX6 216 yX6_doesTo, Cond.instanceMethod yX6_doesTo, Cond.selects RX6 yX6_doesTo yX6_doesTo, Cond.code yX6_doesTo cX6_doesTo 3 (some .boolean), Cond.methodLink RX6 164 yX6_noDeed, Cond.instanceMethod yX6_noDeed, Cond.selects RX6 yX6_noDeed yX6_noDeed, Cond.code yX6_noDeed cX6_noDeed 2 (some .boolean), Cond.methodLink RX6 158 yX6_noQuality, Cond.instanceMethod yX6_noQuality, Cond.selects RX6 yX6_noQuality yX6_noQuality, Cond.code yX6_noQuality cX6_noQuality 2 (some .boolean)]
def wsX6_years_r3 : List Cond := [Cond.methodLink RX6 170 yX6_canPledge, Cond.instanceMethod yX6_canPledge, Cond.selects RX6 yX6_canPledge yX6_canPledge, Cond.code yX6_canPledge cX6_canPledge 3 (some .boolean), Cond.fieldLink RX6 16 "PluckBrokerModel" "worth" "[I", Cond.methodLink RX6 174 yX6_goPledge, Cond.instanceMethod yX6_goPledge, Cond.selects RX6 yX6_goPledge yX6_goPledge, Cond.code yX6_goPledge cX6_goPledge 3 none, Cond.methodLink RX6 178 yX6_canRedeem, Cond.instanceMethod yX6_canRedeem, Cond.selects RX6 yX6_canRedeem yX6_canRedeem, Cond.code yX6_canRedeem cX6_canRedeem 3 (some .boolean), Cond.methodLink RX6 161 yX6_dueOf, Cond.instanceMethod yX6_dueOf, Cond.selects RX6 yX6_dueOf yX6_dueOf, Cond.code yX6_dueOf cX6_dueOf 3 (some .int), Cond.methodLink RX6 129 yX6_dueBy, Cond.static yX6_dueBy, Cond.code yX6_dueBy cX6_dueBy 4 (some .int), Cond.methodLink RX6 181 yX6_goRedeem, Cond.instanceMethod yX6_goRedeem, Cond.selects RX6 yX6_goRedeem yX6_goRedeem, Cond.code yX6_goRedeem cX6_goRedeem 4 none]
def wsX6_years : List Cond := .code yX6_years cX6_years 6 (some .int) :: ((wsX6_years_r1 ++ (wsX6_years_r2 ++ wsX6_years_r3)) ++ wsX60)
def wsX6_keep : List Cond := .code yX6_keep cX6_keep 3 (some .int) :: ([.fieldLink RX6 68 "PluckBrokerModel" "thrown" "I", .fieldLink RX6 52 "PluckBrokerModel" "isKept" "[Z", .fieldLink RX6 49 "PluckBrokerModel" "kept" "[I", .fieldLink RX6 40 "PluckBrokerModel" "page" "[I", .methodLink RX6 75 yX6_in, .static yX6_in, .initialized RX6, .code yX6_in cX6_in 6 (some .boolean)] ++ wsX60)
def wsX6_again : List Cond := .code yX6_again cX6_again 3 (some .int) :: ([.fieldLink RX6 68 "PluckBrokerModel" "thrown" "I", .fieldLink RX6 52 "PluckBrokerModel" "isKept" "[Z", .fieldLink RX6 40 "PluckBrokerModel" "page" "[I", .fieldLink RX6 49 "PluckBrokerModel" "kept" "[I", .fieldLink RX6 126 "PluckBrokerModel" "acts" "I", .methodLink RX6 75 yX6_in, .static yX6_in, .initialized RX6, .code yX6_in cX6_in 6 (some .boolean)] ++ wsX60)
def wsL_law_r1 : List Cond := [Cond.classLink RL 7 RX5, Cond.instantiable RX5 10, Cond.initialized RX5, Cond.classLink RL 10 RX6, Cond.instantiable RX6 38, Cond.initialized RX6, Cond.constantLong RL 89 (4294967295), Cond.methodLink RL 9 yX5_init, Cond.instanceMethod yX5_init, Cond.code yX5_init cX5_init 1 none, Cond.methodLink RX5 3 objectInit, Cond.instanceMethod objectInit, Cond.code objectInit ⟨#[0xb1]⟩ 1 none, Cond.classLink RX5 9 RX4, Cond.instantiable RX4 3, Cond.initialized RX4, Cond.fieldLink RX5 12 "PluckBroker" "text" "LPluckBroker$Text;", Cond.classLink RX5 16 RX2, Cond.instantiable RX2 11, Cond.initialized RX2, Cond.fieldLink RX5 19 "PluckBroker" "plan" "LPluckBroker$Plan;", Cond.fieldLink RX5 23 "PluckBroker" "draft" "LPluckBroker$Plan;", Cond.classLink RX5 26 RX3, Cond.instantiable RX3 2]
def wsL_law_r2 : List Cond := [Cond.initialized RX3, Cond.fieldLink RX5 31 "PluckBroker" "now" "LPluckBroker$State;", Cond.fieldLink RX5 35 "PluckBroker" "ahead" "LPluckBroker$State;", Cond.classLink RX5 38 RX0, Cond.instantiable RX0 3, Cond.initialized RX0, Cond.fieldLink RX5 41 "PluckBroker" "acts" "LPluckBroker$Acts;", Cond.classLink RX5 45 RX1, Cond.instantiable RX1 3, Cond.initialized RX1, Cond.fieldLink RX5 48 "PluckBroker" "asked" "LPluckBroker$Asked;", Cond.arrayClass .int, Cond.fieldLink RX5 52 "PluckBroker" "kept" "[I", Cond.instanceMethod yX4_init, Cond.code yX4_init cX4_init 1 none, Cond.methodLink RX4 3 objectInit, Cond.fieldLink RX4 9 "PluckBroker$Text" "bytes" "[I", Cond.instanceMethod yX2_init, Cond.code yX2_init cX2_init 1 none, Cond.methodLink RX2 3 objectInit, Cond.fieldLink RX2 9 "PluckBroker$Plan" "purses" "[I", Cond.fieldLink RX2 15 "PluckBroker$Plan" "owners" "[I", Cond.fieldLink RX2 18 "PluckBroker$Plan" "worths" "[I", Cond.fieldLink RX2 21 "PluckBroker$Plan" "kinds" "[I"]
def wsL_law_r3 : List Cond := [Cond.fieldLink RX2 24 "PluckBroker$Plan" "wanted" "[I", Cond.fieldLink RX2 27 "PluckBroker$Plan" "onDays" "[I", Cond.fieldLink RX2 30 "PluckBroker$Plan" "rewards" "[I", Cond.methodLink RX5 28 yX3_init, Cond.instanceMethod yX3_init, Cond.code yX3_init cX3_init 2 none, Cond.methodLink RX3 5 objectInit, Cond.fieldLink RX3 11 "PluckBroker$State" "cells" "[I", Cond.fieldLink RX3 15 "PluckBroker$State" "plan" "LPluckBroker$Plan;", Cond.instanceMethod yX0_init, Cond.code yX0_init cX0_init 1 none, Cond.methodLink RX0 3 objectInit, Cond.fieldLink RX0 11 "PluckBroker$Acts" "states" "[I", Cond.instanceMethod yX1_init, Cond.code yX1_init cX1_init 1 none, Cond.methodLink RX1 3 objectInit, Cond.fieldLink RX1 9 "PluckBroker$Asked" "days" "[I", Cond.fieldLink RX1 15 "PluckBroker$Asked" "dues" "[I", Cond.methodLink RL 12 yX6_init, Cond.instanceMethod yX6_init, Cond.code yX6_init cX6_init 1 none, Cond.methodLink RX6 1 objectInit, Cond.fieldLink RX6 7 "PluckBrokerModel" "text" "[I", Cond.fieldLink RX6 13 "PluckBrokerModel" "owner" "[I"]
def wsL_law_r4 : List Cond := [Cond.fieldLink RX6 16 "PluckBrokerModel" "worth" "[I", Cond.fieldLink RX6 19 "PluckBrokerModel" "kind" "[I", Cond.fieldLink RX6 22 "PluckBrokerModel" "wants" "[I", Cond.fieldLink RX6 25 "PluckBrokerModel" "when" "[I", Cond.fieldLink RX6 28 "PluckBrokerModel" "pays" "[I", Cond.fieldLink RX6 31 "PluckBrokerModel" "readPerson" "[I", Cond.fieldLink RX6 34 "PluckBrokerModel" "readQuality" "[I", Cond.fieldLink RX6 37 "PluckBrokerModel" "readDeed" "[I", Cond.fieldLink RX6 40 "PluckBrokerModel" "page" "[I", Cond.fieldLink RX6 43 "PluckBrokerModel" "trial" "[I", Cond.fieldLink RX6 46 "PluckBrokerModel" "book" "[I", Cond.fieldLink RX6 49 "PluckBrokerModel" "kept" "[I", Cond.arrayClass .boolean, Cond.fieldLink RX6 52 "PluckBrokerModel" "isKept" "[Z", Cond.fieldLink RX6 56 "PluckBrokerModel" "askedDay" "[I", Cond.fieldLink RX6 59 "PluckBrokerModel" "askedDue" "[I", Cond.fieldLink RX6 62 "PluckBrokerModel" "gains" "[I", Cond.fieldLink RX6 65 "PluckBrokerModel" "value" "[I", Cond.methodLink RL 13 yX5_write, Cond.instanceMethod yX5_write, Cond.selects RX5 yX5_write yX5_write, Cond.code yX5_write cX5_write 2 (some .int), Cond.methodLink RX5 60 yX4_append, Cond.instanceMethod yX4_append]
def wsL_law_r5 : List Cond := [Cond.selects RX4 yX4_append yX4_append, Cond.code yX4_append cX4_append 2 none, Cond.fieldLink RX4 15 "PluckBroker$Text" "length" "I", Cond.static yX5_put, Cond.code yX5_put cX5_put 3 none, Cond.methodLink RL 17 yX6_write, Cond.instanceMethod yX6_write, Cond.selects RX6 yX6_write yX6_write, Cond.code yX6_write cX6_write 2 (some .int), Cond.fieldLink RX6 68 "PluckBrokerModel" "thrown" "I", Cond.constantLong RX6 85 (255), Cond.fieldLink RX6 87 "PluckBrokerModel" "textSize" "I", Cond.methodLink RX6 75 yX6_in, Cond.static yX6_in, Cond.code yX6_in cX6_in 6 (some .boolean), Cond.methodLink RL 18 yX5_wipe, Cond.instanceMethod yX5_wipe, Cond.selects RX5 yX5_wipe yX5_wipe, Cond.code yX5_wipe cX5_wipe 2 (some .int), Cond.methodLink RL 22 yX6_wipe, Cond.instanceMethod yX6_wipe, Cond.selects RX6 yX6_wipe yX6_wipe, Cond.code yX6_wipe cX6_wipe 2 (some .int), Cond.methodLink RL 23 yX5_fault]
def wsL_law_r6 : List Cond := [Cond.instanceMethod yX5_fault, Cond.selects RX5 yX5_fault yX5_fault, Cond.code yX5_fault cX5_fault 1 (some .int), Cond.methodLink RX5 64 yX4_readInto, Cond.instanceMethod yX4_readInto, Cond.selects RX4 yX4_readInto yX4_readInto, Cond.code yX4_readInto cX4_readInto 4 (some .int), Cond.fieldLink RX4 28 "PluckBroker$Text" "cursor" "I", Cond.methodLink RX4 23 yX2_clear, Cond.instanceMethod yX2_clear, Cond.selects RX2 yX2_clear yX2_clear, Cond.code yX2_clear cX2_clear 1 none, Cond.fieldLink RX2 33 "PluckBroker$Plan" "tillFigure" "I", Cond.fieldLink RX2 37 "PluckBroker$Plan" "persons" "I", Cond.fieldLink RX2 40 "PluckBroker$Plan" "qualities" "I", Cond.fieldLink RX2 43 "PluckBroker$Plan" "deeds" "I", Cond.methodLink RX4 31 yX4_upcoming, Cond.instanceMethod yX4_upcoming, Cond.selects RX4 yX4_upcoming yX4_upcoming, Cond.code yX4_upcoming cX4_upcoming 1 (some .int), Cond.static yX5_cell, Cond.code yX5_cell cX5_cell 2 (some .int), Cond.methodLink RX4 35 yX4_figure, Cond.instanceMethod yX4_figure]
def wsL_law_r7 : List Cond := [Cond.selects RX4 yX4_figure yX4_figure, Cond.code yX4_figure cX4_figure 4 (some .int), Cond.methodLink RX4 42 yX4_readThing, Cond.instanceMethod yX4_readThing, Cond.selects RX4 yX4_readThing yX4_readThing, Cond.code yX4_readThing cX4_readThing 3 (some .boolean), Cond.methodLink RX4 49 yX4_readPerson, Cond.instanceMethod yX4_readPerson, Cond.selects RX4 yX4_readPerson yX4_readPerson, Cond.code yX4_readPerson cX4_readPerson 3 (some .boolean), Cond.methodLink RX4 64 yX2_addPerson, Cond.instanceMethod yX2_addPerson, Cond.selects RX2 yX2_addPerson yX2_addPerson, Cond.code yX2_addPerson cX2_addPerson 2 none, Cond.methodLink RX4 55 yX4_readQuality, Cond.instanceMethod yX4_readQuality, Cond.selects RX4 yX4_readQuality yX4_readQuality, Cond.code yX4_readQuality cX4_readQuality 5 (some .boolean), Cond.methodLink RX4 68 yX2_addQuality, Cond.instanceMethod yX2_addQuality, Cond.selects RX2 yX2_addQuality yX2_addQuality, Cond.code yX2_addQuality cX2_addQuality 4 none, Cond.methodLink RX4 61 yX4_readDeed, Cond.instanceMethod yX4_readDeed]
def wsL_law_r8 : List Cond := [Cond.selects RX4 yX4_readDeed yX4_readDeed, Cond.code yX4_readDeed cX4_readDeed 5 (some .boolean), Cond.methodLink RX4 72 yX2_addDeed, Cond.instanceMethod yX2_addDeed, Cond.selects RX2 yX2_addDeed yX2_addDeed, Cond.code yX2_addDeed cX2_addDeed 4 none, Cond.methodLink RL 26 yX6_fault, Cond.instanceMethod yX6_fault, Cond.selects RX6 yX6_fault yX6_fault, Cond.code yX6_fault cX6_fault 1 (some .int), Cond.methodLink RX6 122 yX6_readShop, Cond.instanceMethod yX6_readShop, Cond.selects RX6 yX6_readShop yX6_readShop, Cond.code yX6_readShop cX6_readShop 1 (some .int), Cond.fieldLink RX6 90 "PluckBrokerModel" "place" "I", Cond.fieldLink RX6 97 "PluckBrokerModel" "readPersons" "I", Cond.fieldLink RX6 100 "PluckBrokerModel" "readQualities" "I", Cond.fieldLink RX6 103 "PluckBrokerModel" "readDeeds" "I", Cond.fieldLink RX6 116 "PluckBrokerModel" "readTill" "I", Cond.methodLink RX6 93 yX6_figure, Cond.instanceMethod yX6_figure, Cond.selects RX6 yX6_figure yX6_figure, Cond.code yX6_figure cX6_figure 3 (some .int), Cond.methodLink RX6 119 yX6_readThing]
def wsL_law_r9 : List Cond := [Cond.instanceMethod yX6_readThing, Cond.selects RX6 yX6_readThing yX6_readThing, Cond.code yX6_readThing cX6_readThing 2 (some .boolean), Cond.methodLink RX6 106 yX6_readOnePerson, Cond.instanceMethod yX6_readOnePerson, Cond.selects RX6 yX6_readOnePerson yX6_readOnePerson, Cond.code yX6_readOnePerson cX6_readOnePerson 2 (some .boolean), Cond.methodLink RX6 110 yX6_readOneQuality, Cond.instanceMethod yX6_readOneQuality, Cond.selects RX6 yX6_readOneQuality yX6_readOneQuality, Cond.code yX6_readOneQuality cX6_readOneQuality 4 (some .boolean), Cond.methodLink RX6 113 yX6_readOneDeed, Cond.instanceMethod yX6_readOneDeed, Cond.selects RX6 yX6_readOneDeed yX6_readOneDeed, Cond.code yX6_readOneDeed cX6_readOneDeed 4 (some .boolean), Cond.methodLink RL 27 yX5_shop, Cond.instanceMethod yX5_shop, Cond.selects RX5 yX5_shop yX5_shop, Cond.code yX5_shop cX5_shop 1 (some .int), Cond.fieldLink RX5 74 "PluckBroker" "keptSlots" "I", Cond.methodLink RX5 68 yX3_begin, Cond.instanceMethod yX3_begin, Cond.selects RX3 yX3_begin yX3_begin, Cond.code yX3_begin cX3_begin 2 none]
def wsL_law_r10 : List Cond := [Cond.methodLink RX3 32 yX2_firstPurseOf, Cond.instanceMethod yX2_firstPurseOf, Cond.selects RX2 yX2_firstPurseOf yX2_firstPurseOf, Cond.code yX2_firstPurseOf cX2_firstPurseOf 2 (some .int), Cond.methodLink RX5 71 yX0_forget, Cond.instanceMethod yX0_forget, Cond.selects RX0 yX0_forget yX0_forget, Cond.code yX0_forget cX0_forget 1 none, Cond.fieldLink RX0 25 "PluckBroker$Acts" "count" "I", Cond.methodLink RL 30 yX6_shop, Cond.instanceMethod yX6_shop, Cond.selects RX6 yX6_shop yX6_shop, Cond.code yX6_shop cX6_shop 2 (some .int), Cond.fieldLink RX6 72 "PluckBrokerModel" "persons" "I", Cond.fieldLink RX6 79 "PluckBrokerModel" "qualities" "I", Cond.fieldLink RX6 82 "PluckBrokerModel" "deeds" "I", Cond.fieldLink RX6 126 "PluckBrokerModel" "acts" "I", Cond.methodLink RL 31 yX5_about, Cond.instanceMethod yX5_about, Cond.selects RX5 yX5_about yX5_about, Cond.code yX5_about cX5_about 2 (some .int), Cond.methodLink RX5 86 yX3_today, Cond.instanceMethod yX3_today, Cond.selects RX3 yX3_today yX3_today]
def wsL_law_r11 : List Cond := [Cond.code yX3_today cX3_today 1 (some .int), Cond.methodLink RX5 90 yX3_inTill, Cond.instanceMethod yX3_inTill, Cond.selects RX3 yX3_inTill yX3_inTill, Cond.code yX3_inTill cX3_inTill 1 (some .int), Cond.methodLink RX5 93 yX3_qualitiesThatAre, Cond.instanceMethod yX3_qualitiesThatAre, Cond.selects RX3 yX3_qualitiesThatAre yX3_qualitiesThatAre, Cond.code yX3_qualitiesThatAre cX3_qualitiesThatAre 4 (some .int), Cond.methodLink RX3 50 yX3_standingOf, Cond.instanceMethod yX3_standingOf, Cond.selects RX3 yX3_standingOf yX3_standingOf, Cond.code yX3_standingOf cX3_standingOf 2 (some .int), Cond.methodLink RX5 97 yX3_deedsThatAre, Cond.instanceMethod yX3_deedsThatAre, Cond.selects RX3 yX3_deedsThatAre yX3_deedsThatAre, Cond.code yX3_deedsThatAre cX3_deedsThatAre 4 (some .int), Cond.methodLink RX3 56 yX3_outcomeOf, Cond.instanceMethod yX3_outcomeOf, Cond.selects RX3 yX3_outcomeOf yX3_outcomeOf, Cond.code yX3_outcomeOf cX3_outcomeOf 2 (some .int), Cond.methodLink RL 34 yX6_about, Cond.instanceMethod yX6_about, Cond.selects RX6 yX6_about yX6_about]
def wsL_law_r12 : List Cond := [Cond.code yX6_about cX6_about 2 (some .int), Cond.fieldLink RX6 144 "PluckBrokerModel" "asked" "I", Cond.methodLink RX6 137 yX6_thatAre, Cond.instanceMethod yX6_thatAre, Cond.selects RX6 yX6_thatAre yX6_thatAre, Cond.code yX6_thatAre cX6_thatAre 5 (some .int), Cond.methodLink RX6 141 yX6_deedsThat, Cond.instanceMethod yX6_deedsThat, Cond.selects RX6 yX6_deedsThat yX6_deedsThat, Cond.code yX6_deedsThat cX6_deedsThat 5 (some .int), Cond.methodLink RL 35 yX5_person, Cond.instanceMethod yX5_person, Cond.selects RX5 yX5_person yX5_person, Cond.code yX5_person cX5_person 3 (some .int), Cond.methodLink RX5 104 yX2_hasPerson, Cond.instanceMethod yX2_hasPerson, Cond.selects RX2 yX2_hasPerson yX2_hasPerson, Cond.code yX2_hasPerson cX2_hasPerson 2 (some .boolean), Cond.methodLink RX5 108 yX3_purseOf, Cond.instanceMethod yX3_purseOf, Cond.selects RX3 yX3_purseOf yX3_purseOf, Cond.code yX3_purseOf cX3_purseOf 2 (some .int), Cond.methodLink RX5 111 yX2_qualitiesOf, Cond.instanceMethod yX2_qualitiesOf]
def wsL_law_r13 : List Cond := [Cond.selects RX2 yX2_qualitiesOf yX2_qualitiesOf, Cond.code yX2_qualitiesOf cX2_qualitiesOf 4 (some .int), Cond.methodLink RX2 54 yX2_ownerOf, Cond.instanceMethod yX2_ownerOf, Cond.selects RX2 yX2_ownerOf yX2_ownerOf, Cond.code yX2_ownerOf cX2_ownerOf 2 (some .int), Cond.methodLink RX5 114 yX2_deedsOf, Cond.instanceMethod yX2_deedsOf, Cond.selects RX2 yX2_deedsOf yX2_deedsOf, Cond.code yX2_deedsOf cX2_deedsOf 4 (some .int), Cond.methodLink RX2 58 yX2_wantedBy, Cond.instanceMethod yX2_wantedBy, Cond.selects RX2 yX2_wantedBy yX2_wantedBy, Cond.code yX2_wantedBy cX2_wantedBy 2 (some .int), Cond.methodLink RL 39 yX6_person, Cond.instanceMethod yX6_person, Cond.selects RX6 yX6_person yX6_person, Cond.code yX6_person cX6_person 3 (some .int), Cond.methodLink RX6 147 yX6_noPerson, Cond.instanceMethod yX6_noPerson, Cond.selects RX6 yX6_noPerson yX6_noPerson, Cond.code yX6_noPerson cX6_noPerson 2 (some .boolean), Cond.methodLink RX6 151 yX6_ownOf, Cond.instanceMethod yX6_ownOf]
def wsL_law_r14 : List Cond := [Cond.selects RX6 yX6_ownOf yX6_ownOf, Cond.code yX6_ownOf cX6_ownOf 4 (some .int), Cond.methodLink RX6 155 yX6_deedsOf, Cond.instanceMethod yX6_deedsOf, Cond.selects RX6 yX6_deedsOf yX6_deedsOf, Cond.code yX6_deedsOf cX6_deedsOf 4 (some .int), Cond.methodLink RL 40 yX5_quality, Cond.instanceMethod yX5_quality, Cond.selects RX5 yX5_quality yX5_quality, Cond.code yX5_quality cX5_quality 3 (some .int), Cond.methodLink RX5 117 yX2_hasQuality, Cond.instanceMethod yX2_hasQuality, Cond.selects RX2 yX2_hasQuality yX2_hasQuality, Cond.code yX2_hasQuality cX2_hasQuality 2 (some .boolean), Cond.methodLink RX5 120 yX2_ownerOf, Cond.methodLink RX5 123 yX2_worthOf, Cond.instanceMethod yX2_worthOf, Cond.selects RX2 yX2_worthOf yX2_worthOf, Cond.code yX2_worthOf cX2_worthOf 2 (some .int), Cond.methodLink RX5 126 yX2_kindOf, Cond.instanceMethod yX2_kindOf, Cond.selects RX2 yX2_kindOf yX2_kindOf, Cond.code yX2_kindOf cX2_kindOf 2 (some .int), Cond.methodLink RX5 129 yX3_standingOf]
def wsL_law_r15 : List Cond := [Cond.methodLink RX5 132 yX3_pledgedOn, Cond.instanceMethod yX3_pledgedOn, Cond.selects RX3 yX3_pledgedOn yX3_pledgedOn, Cond.code yX3_pledgedOn cX3_pledgedOn 2 (some .int), Cond.methodLink RX5 135 yX3_owedFor, Cond.instanceMethod yX3_owedFor, Cond.selects RX3 yX3_owedFor yX3_owedFor, Cond.code yX3_owedFor cX3_owedFor 2 (some .int), Cond.methodLink RX3 59 yX2_kindOf, Cond.methodLink RX3 62 yX2_worthOf, Cond.methodLink RX3 65 yX3_today, Cond.methodLink RX3 69 yX3_pledgedOn, Cond.static yX5_dueFor, Cond.code yX5_dueFor cX5_dueFor 4 (some .int), Cond.methodLink RL 43 yX6_quality, Cond.instanceMethod yX6_quality, Cond.selects RX6 yX6_quality yX6_quality, Cond.code yX6_quality cX6_quality 3 (some .int), Cond.methodLink RX6 158 yX6_noQuality, Cond.instanceMethod yX6_noQuality, Cond.selects RX6 yX6_noQuality yX6_noQuality, Cond.code yX6_noQuality cX6_noQuality 2 (some .boolean), Cond.methodLink RX6 161 yX6_dueOf, Cond.instanceMethod yX6_dueOf]
def wsL_law_r16 : List Cond := [Cond.selects RX6 yX6_dueOf yX6_dueOf, Cond.code yX6_dueOf cX6_dueOf 3 (some .int), Cond.methodLink RX6 129 yX6_dueBy, Cond.static yX6_dueBy, Cond.code yX6_dueBy cX6_dueBy 4 (some .int), Cond.methodLink RL 44 yX5_deed, Cond.instanceMethod yX5_deed, Cond.selects RX5 yX5_deed yX5_deed, Cond.code yX5_deed cX5_deed 3 (some .int), Cond.methodLink RX5 138 yX2_hasDeed, Cond.instanceMethod yX2_hasDeed, Cond.selects RX2 yX2_hasDeed yX2_hasDeed, Cond.code yX2_hasDeed cX2_hasDeed 2 (some .boolean), Cond.methodLink RX5 141 yX2_wantedBy, Cond.methodLink RX5 144 yX2_dayOf, Cond.instanceMethod yX2_dayOf, Cond.selects RX2 yX2_dayOf yX2_dayOf, Cond.code yX2_dayOf cX2_dayOf 2 (some .int), Cond.methodLink RX5 147 yX2_rewardOf, Cond.instanceMethod yX2_rewardOf, Cond.selects RX2 yX2_rewardOf yX2_rewardOf, Cond.code yX2_rewardOf cX2_rewardOf 2 (some .int), Cond.methodLink RX5 150 yX3_outcomeOf, Cond.methodLink RL 47 yX6_deed]
def wsL_law_r17 : List Cond := [Cond.instanceMethod yX6_deed, Cond.selects RX6 yX6_deed yX6_deed, Cond.code yX6_deed cX6_deed 3 (some .int), Cond.methodLink RX6 164 yX6_noDeed, Cond.instanceMethod yX6_noDeed, Cond.selects RX6 yX6_noDeed yX6_noDeed, Cond.code yX6_noDeed cX6_noDeed 2 (some .boolean), Cond.methodLink RL 48 yX5_day, Cond.instanceMethod yX5_day, Cond.selects RX5 yX5_day yX5_day, Cond.code yX5_day cX5_day 1 (some .int), Cond.methodLink RX5 153 yX0_remember, Cond.instanceMethod yX0_remember, Cond.selects RX0 yX0_remember yX0_remember, Cond.code yX0_remember cX0_remember 2 none, Cond.fieldLink RX0 17 "PluckBroker$Acts" "upcoming" "I", Cond.methodLink RX0 21 yX3_saveTo, Cond.instanceMethod yX3_saveTo, Cond.selects RX3 yX3_saveTo yX3_saveTo, Cond.code yX3_saveTo cX3_saveTo 4 none, Cond.methodLink RX5 157 yX3_passDay, Cond.instanceMethod yX3_passDay, Cond.selects RX3 yX3_passDay yX3_passDay, Cond.code yX3_passDay cX3_passDay 3 (some .int)]
def wsL_law_r18 : List Cond := [Cond.methodLink RX3 102 yX2_dayOf, Cond.methodLink RX3 105 yX3_tryDeed, Cond.instanceMethod yX3_tryDeed, Cond.selects RX3 yX3_tryDeed yX3_tryDeed, Cond.code yX3_tryDeed cX3_tryDeed 3 (some .boolean), Cond.methodLink RX3 111 yX2_wantedBy, Cond.methodLink RX3 76 yX2_ownerOf, Cond.methodLink RX3 114 yX2_rewardOf, Cond.methodLink RX3 92 yX3_pay, Cond.instanceMethod yX3_pay, Cond.selects RX3 yX3_pay yX3_pay, Cond.code yX3_pay cX3_pay 3 none, Cond.methodLink RX3 108 yX3_sellOverdue, Cond.instanceMethod yX3_sellOverdue, Cond.selects RX3 yX3_sellOverdue yX3_sellOverdue, Cond.code yX3_sellOverdue cX3_sellOverdue 3 none, Cond.methodLink RL 51 yX6_day, Cond.instanceMethod yX6_day, Cond.selects RX6 yX6_day yX6_day, Cond.code yX6_day cX6_day 1 (some .int), Cond.methodLink RX6 167 yX6_note, Cond.instanceMethod yX6_note, Cond.selects RX6 yX6_note yX6_note, Cond.code yX6_note cX6_note 2 none]
def wsL_law_r19 : List Cond := [Cond.methodLink RX6 133 yX6_goDay, Cond.instanceMethod yX6_goDay, Cond.selects RX6 yX6_goDay yX6_goDay, Cond.code yX6_goDay cX6_goDay 5 (some .int), Cond.methodLink RL 52 yX5_pledge, Cond.instanceMethod yX5_pledge, Cond.selects RX5 yX5_pledge yX5_pledge, Cond.code yX5_pledge cX5_pledge 2 (some .int), Cond.methodLink RX5 160 yX3_canPledge, Cond.instanceMethod yX3_canPledge, Cond.selects RX3 yX3_canPledge yX3_canPledge, Cond.code yX3_canPledge cX3_canPledge 2 (some .boolean), Cond.methodLink RX3 79 yX2_hasQuality, Cond.methodLink RX3 83 yX3_inTill, Cond.methodLink RX5 163 yX3_tryPledge, Cond.instanceMethod yX3_tryPledge, Cond.selects RX3 yX3_tryPledge yX3_tryPledge, Cond.code yX3_tryPledge cX3_tryPledge 2 (some .boolean), Cond.methodLink RX3 89 yX3_canPledge, Cond.methodLink RL 55 yX6_pledge, Cond.instanceMethod yX6_pledge, Cond.selects RX6 yX6_pledge yX6_pledge, Cond.code yX6_pledge cX6_pledge 2 (some .int), Cond.methodLink RX6 170 yX6_canPledge]
def wsL_law_r20 : List Cond := [Cond.instanceMethod yX6_canPledge, Cond.selects RX6 yX6_canPledge yX6_canPledge, Cond.code yX6_canPledge cX6_canPledge 3 (some .boolean), Cond.methodLink RX6 174 yX6_goPledge, Cond.instanceMethod yX6_goPledge, Cond.selects RX6 yX6_goPledge yX6_goPledge, Cond.code yX6_goPledge cX6_goPledge 3 none, Cond.methodLink RL 56 yX5_redeem, Cond.instanceMethod yX5_redeem, Cond.selects RX5 yX5_redeem yX5_redeem, Cond.code yX5_redeem cX5_redeem 2 (some .int), Cond.methodLink RX5 166 yX3_canRedeem, Cond.instanceMethod yX3_canRedeem, Cond.selects RX3 yX3_canRedeem yX3_canRedeem, Cond.code yX3_canRedeem cX3_canRedeem 2 (some .boolean), Cond.methodLink RX3 44 yX3_purseOf, Cond.methodLink RX3 86 yX3_owedFor, Cond.methodLink RX5 169 yX3_tryRedeem, Cond.instanceMethod yX3_tryRedeem, Cond.selects RX3 yX3_tryRedeem yX3_tryRedeem, Cond.code yX3_tryRedeem cX3_tryRedeem 3 (some .boolean), Cond.methodLink RX3 96 yX3_canRedeem, Cond.methodLink RL 59 yX6_redeem, Cond.instanceMethod yX6_redeem]
def wsL_law_r21 : List Cond := [Cond.selects RX6 yX6_redeem yX6_redeem, Cond.code yX6_redeem cX6_redeem 2 (some .int), Cond.methodLink RX6 178 yX6_canRedeem, Cond.instanceMethod yX6_canRedeem, Cond.selects RX6 yX6_canRedeem yX6_canRedeem, Cond.code yX6_canRedeem cX6_canRedeem 3 (some .boolean), Cond.methodLink RX6 181 yX6_goRedeem, Cond.instanceMethod yX6_goRedeem, Cond.selects RX6 yX6_goRedeem yX6_goRedeem, Cond.code yX6_goRedeem cX6_goRedeem 4 none, Cond.methodLink RL 60 yX5_give, Cond.instanceMethod yX5_give, Cond.selects RX5 yX5_give yX5_give, Cond.code yX5_give cX5_give 3 (some .int), Cond.methodLink RX5 172 yX3_tryGive, Cond.instanceMethod yX3_tryGive, Cond.selects RX3 yX3_tryGive yX3_tryGive, Cond.code yX3_tryGive cX3_tryGive 3 (some .boolean), Cond.methodLink RX3 99 yX2_hasPerson, Cond.methodLink RL 63 yX6_give, Cond.instanceMethod yX6_give, Cond.selects RX6 yX6_give yX6_give, Cond.code yX6_give cX6_give 3 (some .int), Cond.constantLong RX6 184 (9)]
def wsL_law_r22 : List Cond := [Cond.methodLink RL 64 yX5_undo, Cond.instanceMethod yX5_undo, Cond.selects RX5 yX5_undo yX5_undo, Cond.code yX5_undo cX5_undo 1 (some .int), Cond.methodLink RX5 176 yX0_takeBack, Cond.instanceMethod yX0_takeBack, Cond.selects RX0 yX0_takeBack yX0_takeBack, Cond.code yX0_takeBack cX0_takeBack 2 none, Cond.methodLink RX0 28 yX3_loadFrom, Cond.instanceMethod yX3_loadFrom, Cond.selects RX3 yX3_loadFrom yX3_loadFrom, Cond.code yX3_loadFrom cX3_loadFrom 4 none, Cond.methodLink RL 67 yX6_undo, Cond.instanceMethod yX6_undo, Cond.selects RX6 yX6_undo yX6_undo, Cond.code yX6_undo cX6_undo 2 (some .int), Cond.methodLink RL 68 yX5_due, Cond.instanceMethod yX5_due, Cond.selects RX5 yX5_due yX5_due, Cond.code yX5_due cX5_due 3 (some .int), Cond.methodLink RX5 179 yX5_isNoDaysAhead, Cond.static yX5_isNoDaysAhead, Cond.code yX5_isNoDaysAhead cX5_isNoDaysAhead 1 (some .boolean), Cond.methodLink RX5 182 yX5_lookAhead]
def wsL_law_r23 : List Cond := [Cond.instanceMethod yX5_lookAhead, Cond.selects RX5 yX5_lookAhead yX5_lookAhead, Cond.code yX5_lookAhead cX5_lookAhead 3 none, Cond.methodLink RX5 197 yX3_copy, Cond.instanceMethod yX3_copy, Cond.selects RX3 yX3_copy yX3_copy, Cond.code yX3_copy cX3_copy 2 none, Cond.methodLink RX3 36 yX3_saveTo, Cond.methodLink RL 71 yX6_due, Cond.instanceMethod yX6_due, Cond.selects RX6 yX6_due yX6_due, Cond.code yX6_due cX6_due 3 (some .int), Cond.constantLong RX6 186 (20), Cond.methodLink RX6 188 yX6_begin, Cond.instanceMethod yX6_begin, Cond.selects RX6 yX6_begin yX6_begin, Cond.code yX6_begin cX6_begin 2 none, Cond.methodLink RX6 191 yX6_goDays, Cond.instanceMethod yX6_goDays, Cond.selects RX6 yX6_goDays yX6_goDays, Cond.code yX6_goDays cX6_goDays 3 none, Cond.methodLink RL 72 yX5_done, Cond.instanceMethod yX5_done, Cond.selects RX5 yX5_done yX5_done]
def wsL_law_r24 : List Cond := [Cond.code yX5_done cX5_done 2 (some .int), Cond.methodLink RL 75 yX6_done, Cond.instanceMethod yX6_done, Cond.selects RX6 yX6_done yX6_done, Cond.code yX6_done cX6_done 2 (some .int), Cond.methodLink RL 76 yX5_coins, Cond.instanceMethod yX5_coins, Cond.selects RX5 yX5_coins yX5_coins, Cond.code yX5_coins cX5_coins 3 (some .int), Cond.methodLink RL 79 yX6_coins, Cond.instanceMethod yX6_coins, Cond.selects RX6 yX6_coins yX6_coins, Cond.code yX6_coins cX6_coins 3 (some .int), Cond.methodLink RL 80 yX5_raise, Cond.instanceMethod yX5_raise, Cond.selects RX5 yX5_raise yX5_raise, Cond.code yX5_raise cX5_raise 9 (some .int), Cond.methodLink RX5 185 yX5_isNoChoice, Cond.static yX5_isNoChoice, Cond.code yX5_isNoChoice cX5_isNoChoice 1 (some .boolean), Cond.methodLink RX5 188 yX5_deedsIfPledged, Cond.instanceMethod yX5_deedsIfPledged, Cond.selects RX5 yX5_deedsIfPledged yX5_deedsIfPledged, Cond.code yX5_deedsIfPledged cX5_deedsIfPledged 5 (some .int)]
def wsL_law_r25 : List Cond := [Cond.methodLink RX5 209 yX3_deedsInTheEnd, Cond.instanceMethod yX3_deedsInTheEnd, Cond.selects RX3 yX3_deedsInTheEnd yX3_deedsInTheEnd, Cond.code yX3_deedsInTheEnd cX3_deedsInTheEnd 2 (some .int), Cond.methodLink RX3 117 yX3_passDay, Cond.methodLink RX3 120 yX3_deedsThatAre, Cond.methodLink RX5 192 yJ6_bitCount_0f7a4, Cond.static yJ6_bitCount_0f7a4, Cond.initialized RJ6, Cond.code yJ6_bitCount_0f7a4 cJ6_bitCount_0f7a4 1 (some .int), Cond.constant RJ6 265 (1431655765), Cond.constant RJ6 266 (858993459), Cond.constant RJ6 267 (252645135), Cond.methodLink RL 84 yX6_raise, Cond.instanceMethod yX6_raise, Cond.selects RX6 yX6_raise yX6_raise, Cond.code yX6_raise cX6_raise 8 (some .int), Cond.constantLong RX6 202 (60), Cond.fieldLink RX6 204 "PluckBrokerModel" "raiseWhich" "I", Cond.fieldLink RX6 207 "PluckBrokerModel" "raiseMany" "I", Cond.methodLink RX6 210 yX6_worthOf, Cond.instanceMethod yX6_worthOf, Cond.selects RX6 yX6_worthOf yX6_worthOf, Cond.code yX6_worthOf cX6_worthOf 4 (some .int)]
def wsL_law_r26 : List Cond := [Cond.methodLink RX6 195 yX6_has, Cond.static yX6_has, Cond.code yX6_has cX6_has 2 (some .boolean), Cond.methodLink RX6 213 yX6_doneBy, Cond.instanceMethod yX6_doneBy, Cond.selects RX6 yX6_doneBy yX6_doneBy, Cond.code yX6_doneBy cX6_doneBy 4 (some .int), Cond.methodLink RX6 199 yX6_many, Cond.static yX6_many, Cond.code yX6_many cX6_many 3 (some .int), Cond.methodLink RL 85 yX5_back, Cond.instanceMethod yX5_back, Cond.selects RX5 yX5_back yX5_back, Cond.code yX5_back cX5_back 3 (some .int), Cond.methodLink RL 88 yX6_back, Cond.instanceMethod yX6_back, Cond.selects RX6 yX6_back yX6_back, Cond.code yX6_back cX6_back 3 (some .int), Cond.methodLink RL 91 yX5_judge, Cond.instanceMethod yX5_judge, Cond.selects RX5 yX5_judge yX5_judge, Cond.code yX5_judge cX5_judge 10 (some .int), Cond.constantLong RX5 200 (1000), Cond.methodLink RX5 202 yX3_goesThrough]
def wsL_law_r27 : List Cond := [Cond.instanceMethod yX3_goesThrough, Cond.selects RX3 yX3_goesThrough yX3_goesThrough, Cond.code yX3_goesThrough cX3_goesThrough 4 (some .boolean), Cond.methodLink RX3 123 yX3_tryGive, Cond.methodLink RX3 127 yX3_tryPledge, Cond.methodLink RX3 130 yX3_tryRedeem, Cond.methodLink RX3 133 yX2_hasDeed, Cond.methodLink RL 95 yX6_judge, Cond.instanceMethod yX6_judge, Cond.selects RX6 yX6_judge yX6_judge, Cond.code yX6_judge cX6_judge 5 (some .int), Cond.constantLong RX6 219 (4), Cond.constantLong RX6 221 (1000), Cond.methodLink RX6 223 yX6_longPower, Cond.static yX6_longPower, Cond.code yX6_longPower cX6_longPower 6 (some .long), Cond.methodLink RX6 227 yX6_does, Cond.instanceMethod yX6_does, Cond.selects RX6 yX6_does yX6_does, Cond.code yX6_does cX6_does 6 (some .boolean), Cond.methodLink RX6 216 yX6_doesTo, Cond.instanceMethod yX6_doesTo, Cond.selects RX6 yX6_doesTo yX6_doesTo, Cond.code yX6_doesTo cX6_doesTo 3 (some .boolean)]
def wsL_law_r28 : List Cond := [Cond.methodLink RL 96 yX5_share, Cond.instanceMethod yX5_share, Cond.selects RX5 yX5_share yX5_share, Cond.code yX5_share cX5_share 5 (some .int), Cond.methodLink RX5 206 yX3_sellAllBut, Cond.instanceMethod yX3_sellAllBut, Cond.selects RX3 yX3_sellAllBut yX3_sellAllBut, Cond.code yX3_sellAllBut cX3_sellAllBut 3 none, Cond.methodLink RX5 212 yX5_partOfFraction, Cond.static yX5_partOfFraction, Cond.code yX5_partOfFraction cX5_partOfFraction 7 (some .int), Cond.methodLink RL 100 yX6_share, Cond.instanceMethod yX6_share, Cond.selects RX6 yX6_share yX6_share, Cond.code yX6_share cX6_share 6 (some .int), Cond.methodLink RX6 233 yX6_ways, Cond.static yX6_ways, Cond.code yX6_ways cX6_ways 3 (some .int), Cond.methodLink RX6 236 yX6_fraction, Cond.static yX6_fraction, Cond.code yX6_fraction cX6_fraction 4 (some .int), Cond.methodLink RX6 230 yX6_divisor, Cond.static yX6_divisor, Cond.code yX6_divisor cX6_divisor 5 (some .int)]
def wsL_law_r29 : List Cond := [Cond.methodLink RL 101 yX5_ask, Cond.instanceMethod yX5_ask, Cond.selects RX5 yX5_ask yX5_ask, Cond.code yX5_ask cX5_ask 3 (some .int), Cond.methodLink RX5 216 yX1_add, Cond.instanceMethod yX1_add, Cond.selects RX1 yX1_add yX1_add, Cond.code yX1_add cX1_add 3 none, Cond.fieldLink RX1 18 "PluckBroker$Asked" "count" "I", Cond.methodLink RL 104 yX6_ask, Cond.instanceMethod yX6_ask, Cond.selects RX6 yX6_ask yX6_ask, Cond.code yX6_ask cX6_ask 3 (some .int), Cond.constantLong RX6 240 (8), Cond.constantLong RX6 242 (30), Cond.methodLink RL 105 yX5_unask, Cond.instanceMethod yX5_unask, Cond.selects RX5 yX5_unask yX5_unask, Cond.code yX5_unask cX5_unask 2 (some .int), Cond.methodLink RL 108 yX6_unask, Cond.instanceMethod yX6_unask, Cond.selects RX6 yX6_unask yX6_unask, Cond.code yX6_unask cX6_unask 2 (some .int), Cond.methodLink RL 109 yX5_tickets]
def wsL_law_r30 : List Cond := [Cond.instanceMethod yX5_tickets, Cond.selects RX5 yX5_tickets yX5_tickets, Cond.code yX5_tickets cX5_tickets 6 (some .int), Cond.methodLink RX5 220 yX1_fits, Cond.instanceMethod yX1_fits, Cond.selects RX1 yX1_fits yX1_fits, Cond.code yX1_fits cX1_fits 5 (some .boolean), Cond.methodLink RL 112 yX6_tickets, Cond.instanceMethod yX6_tickets, Cond.selects RX6 yX6_tickets yX6_tickets, Cond.code yX6_tickets cX6_tickets 6 (some .int), Cond.fieldLink RX6 244 "PluckBrokerModel" "ticketMany" "I", Cond.fieldLink RX6 247 "PluckBrokerModel" "ticketFirst" "I", Cond.methodLink RL 113 yX5_rests, Cond.instanceMethod yX5_rests, Cond.selects RX5 yX5_rests yX5_rests, Cond.code yX5_rests cX5_rests 9 (some .int), Cond.methodLink RX5 223 yX5_gain, Cond.instanceMethod yX5_gain, Cond.selects RX5 yX5_gain yX5_gain, Cond.code yX5_gain cX5_gain 7 (some .int), Cond.methodLink RX5 256 yX3_dearestOf, Cond.instanceMethod yX3_dearestOf, Cond.selects RX3 yX3_dearestOf yX3_dearestOf]
def wsL_law_r31 : List Cond := [Cond.code yX3_dearestOf cX3_dearestOf 5 (some .int), Cond.methodLink RL 116 yX6_rests, Cond.instanceMethod yX6_rests, Cond.selects RX6 yX6_rests yX6_rests, Cond.code yX6_rests cX6_rests 8 (some .int), Cond.fieldLink RX6 253 "PluckBrokerModel" "restMany" "I", Cond.fieldLink RX6 256 "PluckBrokerModel" "restFirst" "I", Cond.methodLink RX6 250 yX6_goBest, Cond.instanceMethod yX6_goBest, Cond.selects RX6 yX6_goBest yX6_goBest, Cond.code yX6_goBest cX6_goBest 5 none, Cond.methodLink RL 117 yX5_sales, Cond.instanceMethod yX5_sales, Cond.selects RX5 yX5_sales yX5_sales, Cond.code yX5_sales cX5_sales 9 (some .int), Cond.methodLink RX5 227 yX5_weightOfSale, Cond.static yX5_weightOfSale, Cond.code yX5_weightOfSale cX5_weightOfSale 5 (some .int), Cond.methodLink RX5 230 yX5_deedsIfSold, Cond.instanceMethod yX5_deedsIfSold, Cond.selects RX5 yX5_deedsIfSold yX5_deedsIfSold, Cond.code yX5_deedsIfSold cX5_deedsIfSold 2 (some .int), Cond.methodLink RX5 259 yX3_settle, Cond.instanceMethod yX3_settle]
def wsL_law_r32 : List Cond := [Cond.selects RX3 yX3_settle yX3_settle, Cond.code yX3_settle cX3_settle 3 none, Cond.methodLink RL 121 yX6_sales, Cond.instanceMethod yX6_sales, Cond.selects RX6 yX6_sales yX6_sales, Cond.code yX6_sales cX6_sales 9 (some .int), Cond.constantLong RX6 259 (5), Cond.constantLong RX6 261 (10), Cond.methodLink RX6 263 yX6_power, Cond.static yX6_power, Cond.code yX6_power cX6_power 4 (some .int), Cond.methodLink RL 122 yX5_seed, Cond.instanceMethod yX5_seed, Cond.selects RX5 yX5_seed yX5_seed, Cond.code yX5_seed cX5_seed 5 (some .long), Cond.fieldLink RX5 233 "PluckBroker" "chance" "J", Cond.methodLink RL 126 yX6_seed, Cond.instanceMethod yX6_seed, Cond.selects RX6 yX6_seed yX6_seed, Cond.code yX6_seed cX6_seed 5 (some .long), Cond.fieldLink RX6 266 "PluckBrokerModel" "seed" "J", Cond.methodLink RL 127 yX5_years, Cond.instanceMethod yX5_years, Cond.selects RX5 yX5_years yX5_years]
def wsL_law_r33 : List Cond := [Cond.code yX5_years cX5_years 4 (some .int), Cond.constantLong RX5 237 (6364136223846793005), Cond.constantLong RX5 239 (1442695040888963407), Cond.constantLong RX5 241 (24), Cond.methodLink RX5 243 yX3_chances, Cond.instanceMethod yX3_chances, Cond.selects RX3 yX3_chances yX3_chances, Cond.code yX3_chances cX3_chances 2 none, Cond.methodLink RX5 246 yX3_inAllPurses, Cond.instanceMethod yX3_inAllPurses, Cond.selects RX3 yX3_inAllPurses yX3_inAllPurses, Cond.code yX3_inAllPurses cX3_inAllPurses 3 (some .int), Cond.methodLink RL 130 yX6_years, Cond.instanceMethod yX6_years, Cond.selects RX6 yX6_years yX6_years, Cond.code yX6_years cX6_years 6 (some .int), Cond.constantLong RX6 270 (6364136223846793005), Cond.constantLong RX6 272 (1442695040888963407), Cond.constantLong RX6 274 (24), Cond.methodLink RL 131 yX5_keep, Cond.instanceMethod yX5_keep, Cond.selects RX5 yX5_keep yX5_keep, Cond.code yX5_keep cX5_keep 2 (some .int), Cond.methodLink RX5 249 yX3_saveTo]
def wsL_law_r34 : List Cond := [Cond.methodLink RL 134 yX6_keep, Cond.instanceMethod yX6_keep, Cond.selects RX6 yX6_keep yX6_keep, Cond.code yX6_keep cX6_keep 3 (some .int), Cond.methodLink RL 135 yX5_again, Cond.instanceMethod yX5_again, Cond.selects RX5 yX5_again yX5_again, Cond.code yX5_again cX5_again 2 (some .int), Cond.methodLink RX5 253 yX3_loadFrom, Cond.methodLink RL 138 yX6_again, Cond.instanceMethod yX6_again, Cond.selects RX6 yX6_again yX6_again, Cond.code yX6_again cX6_again 3 (some .int)]
def wsL_law : List Cond := (wsL_law_r1 ++ (wsL_law_r2 ++ (wsL_law_r3 ++ (wsL_law_r4 ++ (wsL_law_r5 ++ (wsL_law_r6 ++ (wsL_law_r7 ++ (wsL_law_r8 ++ (wsL_law_r9 ++ (wsL_law_r10 ++ (wsL_law_r11 ++ (wsL_law_r12 ++ (wsL_law_r13 ++ (wsL_law_r14 ++ (wsL_law_r15 ++ (wsL_law_r16 ++ (wsL_law_r17 ++ (wsL_law_r18 ++ (wsL_law_r19 ++ (wsL_law_r20 ++ (wsL_law_r21 ++ (wsL_law_r22 ++ (wsL_law_r23 ++ (wsL_law_r24 ++ (wsL_law_r25 ++ (wsL_law_r26 ++ (wsL_law_r27 ++ (wsL_law_r28 ++ (wsL_law_r29 ++ (wsL_law_r30 ++ (wsL_law_r31 ++ (wsL_law_r32 ++ (wsL_law_r33 ++ wsL_law_r34))))))))))))))))))))))))))))))))) ++ wsX50 ++ wsX60 ++ wsX40 ++ wsX20 ++ wsX30 ++ wsX00 ++ wsX10 ++ ([] : List Cond)
end
section
theorem lw_in_of {ws : List Cond} (ps : List Nat) (h : ws = ps.filterMap (fun i => lw_tbl[i]?)) : ∀ w ∈ ws, w ∈ lw_tbl := fun w hw => by
  rw [h] at hw
  obtain ⟨i, -, hi⟩ := List.mem_filterMap.mp hw
  exact List.mem_of_getElem? hi
set_option maxRecDepth 20000 in
theorem li_wsL_law_r1 : ∀ w ∈ wsL_law_r1, w ∈ lw_tbl := lw_in_of [49, 50, 41, 634, 635, 47, 1020, 51, 52, 53, 54, 55, 56, 57, 58, 42, 173, 75, 76, 43, 174, 175, 126, 127] (by decide +kernel)
set_option maxRecDepth 20000 in
theorem li_wsL_law_r2 : ∀ w ∈ wsL_law_r2, w ∈ lw_tbl := lw_in_of [44, 176, 177, 139, 140, 45, 178, 156, 157, 46, 179, 74, 180, 60, 61, 62, 63, 78, 79, 80, 81, 82, 83, 84] (by decide +kernel)
set_option maxRecDepth 20000 in
theorem li_wsL_law_r3 : ∀ w ∈ wsL_law_r3, w ∈ lw_tbl := lw_in_of [85, 86, 87, 128, 129, 130, 131, 133, 132, 142, 143, 144, 145, 159, 160, 161, 162, 163, 636, 637, 638, 639, 641, 646] (by decide +kernel)
set_option maxRecDepth 20000 in
theorem li_wsL_law_r4 : ∀ w ∈ wsL_law_r4, w ∈ lw_tbl := lw_in_of [647, 648, 650, 651, 652, 655, 657, 659, 660, 661, 662, 664, 755, 665, 667, 668, 676, 677, 204, 205, 206, 207, 208, 209] (by decide +kernel)
set_option maxRecDepth 20000 in
theorem li_wsL_law_r5 : ∀ w ∈ wsL_law_r5, w ∈ lw_tbl := lw_in_of [210, 211, 64, 213, 214, 756, 757, 758, 759, 640, 760, 642, 761, 762, 763, 215, 216, 217, 218, 764, 765, 766, 767, 219] (by decide +kernel)
set_option maxRecDepth 20000 in
theorem li_wsL_law_r6 : ∀ w ∈ wsL_law_r6, w ∈ lw_tbl := lw_in_of [220, 221, 222, 223, 224, 225, 226, 66, 227, 228, 229, 230, 88, 91, 95, 99, 231, 233, 0, 234, 236, 237, 238, 240] (by decide +kernel)
set_option maxRecDepth 20000 in
theorem li_wsL_law_r7 : ∀ w ∈ wsL_law_r7, w ∈ lw_tbl := lw_in_of [1, 241, 242, 244, 2, 245, 246, 248, 3, 249, 250, 251, 252, 253, 255, 257, 4, 258, 259, 260, 261, 262, 263, 265] (by decide +kernel)
set_option maxRecDepth 20000 in
theorem li_wsL_law_r8 : ∀ w ∈ wsL_law_r8, w ∈ lw_tbl := lw_in_of [5, 266, 267, 268, 269, 270, 768, 769, 770, 771, 772, 774, 13, 775, 643, 654, 656, 658, 653, 776, 778, 14, 779, 780] (by decide +kernel)
set_option maxRecDepth 20000 in
theorem li_wsL_law_r9 : ∀ w ∈ wsL_law_r9, w ∈ lw_tbl := lw_in_of [782, 15, 783, 784, 786, 16, 787, 788, 790, 17, 791, 792, 794, 18, 795, 271, 272, 273, 274, 181, 275, 276, 277, 278] (by decide +kernel)
set_option maxRecDepth 20000 in
theorem li_wsL_law_r10 : ∀ w ∈ wsL_law_r10, w ∈ lw_tbl := lw_in_of [280, 281, 282, 283, 285, 286, 287, 288, 147, 796, 797, 798, 799, 644, 645, 649, 663, 289, 290, 291, 292, 293, 294, 295] (by decide +kernel)
set_option maxRecDepth 20000 in
theorem li_wsL_law_r11 : ∀ w ∈ wsL_law_r11, w ∈ lw_tbl := lw_in_of [296, 298, 299, 300, 301, 302, 303, 304, 305, 306, 307, 308, 309, 310, 311, 312, 313, 314, 315, 316, 317, 800, 801, 802] (by decide +kernel)
set_option maxRecDepth 20000 in
theorem li_wsL_law_r12 : ∀ w ∈ wsL_law_r12, w ∈ lw_tbl := lw_in_of [803, 666, 804, 806, 19, 807, 808, 810, 20, 811, 318, 319, 320, 321, 322, 323, 324, 325, 326, 327, 328, 329, 330, 331] (by decide +kernel)
set_option maxRecDepth 20000 in
theorem li_wsL_law_r13 : ∀ w ∈ wsL_law_r13, w ∈ lw_tbl := lw_in_of [332, 333, 334, 335, 336, 337, 338, 339, 340, 341, 342, 343, 344, 345, 812, 813, 814, 815, 816, 818, 21, 819, 820, 822] (by decide +kernel)
set_option maxRecDepth 20000 in
theorem li_wsL_law_r14 : ∀ w ∈ wsL_law_r14, w ∈ lw_tbl := lw_in_of [22, 823, 824, 826, 23, 827, 346, 347, 348, 349, 350, 351, 352, 353, 354, 355, 356, 357, 358, 359, 360, 361, 362, 363] (by decide +kernel)
set_option maxRecDepth 20000 in
theorem li_wsL_law_r15 : ∀ w ∈ wsL_law_r15, w ∈ lw_tbl := lw_in_of [364, 365, 366, 367, 368, 369, 370, 371, 372, 373, 374, 375, 377, 378, 828, 829, 830, 831, 832, 834, 24, 835, 836, 838] (by decide +kernel)
set_option maxRecDepth 20000 in
theorem li_wsL_law_r16 : ∀ w ∈ wsL_law_r16, w ∈ lw_tbl := lw_in_of [25, 839, 840, 841, 842, 379, 380, 381, 382, 383, 384, 385, 386, 387, 388, 389, 390, 391, 392, 393, 394, 395, 396, 843] (by decide +kernel)
set_option maxRecDepth 20000 in
theorem li_wsL_law_r17 : ∀ w ∈ wsL_law_r17, w ∈ lw_tbl := lw_in_of [844, 845, 846, 847, 849, 26, 850, 397, 398, 399, 400, 401, 402, 403, 404, 146, 405, 406, 407, 408, 409, 410, 411, 412] (by decide +kernel)
set_option maxRecDepth 20000 in
theorem li_wsL_law_r18 : ∀ w ∈ wsL_law_r18, w ∈ lw_tbl := lw_in_of [413, 414, 416, 6, 417, 418, 419, 420, 421, 423, 7, 424, 425, 427, 8, 428, 851, 852, 853, 854, 855, 857, 27, 858] (by decide +kernel)
set_option maxRecDepth 20000 in
theorem li_wsL_law_r19 : ∀ w ∈ wsL_law_r19, w ∈ lw_tbl := lw_in_of [859, 861, 28, 862, 429, 430, 431, 432, 433, 434, 435, 436, 437, 438, 439, 440, 441, 442, 443, 863, 864, 865, 866, 867] (by decide +kernel)
set_option maxRecDepth 20000 in
theorem li_wsL_law_r20 : ∀ w ∈ wsL_law_r20, w ∈ lw_tbl := lw_in_of [869, 29, 870, 871, 873, 30, 874, 444, 445, 446, 447, 448, 449, 450, 451, 452, 453, 454, 455, 456, 457, 458, 875, 876] (by decide +kernel)
set_option maxRecDepth 20000 in
theorem li_wsL_law_r21 : ∀ w ∈ wsL_law_r21, w ∈ lw_tbl := lw_in_of [877, 878, 879, 881, 31, 882, 883, 885, 32, 886, 459, 460, 461, 462, 463, 464, 465, 466, 467, 887, 888, 889, 890, 891] (by decide +kernel)
set_option maxRecDepth 20000 in
theorem li_wsL_law_r22 : ∀ w ∈ wsL_law_r22, w ∈ lw_tbl := lw_in_of [468, 469, 470, 471, 472, 473, 474, 475, 476, 477, 478, 479, 892, 893, 894, 895, 480, 481, 482, 483, 484, 485, 486, 487] (by decide +kernel)
set_option maxRecDepth 20000 in
theorem li_wsL_law_r23 : ∀ w ∈ wsL_law_r23, w ∈ lw_tbl := lw_in_of [489, 9, 490, 491, 492, 493, 494, 495, 896, 897, 898, 899, 900, 901, 903, 33, 904, 905, 907, 34, 908, 496, 497, 498] (by decide +kernel)
set_option maxRecDepth 20000 in
theorem li_wsL_law_r24 : ∀ w ∈ wsL_law_r24, w ∈ lw_tbl := lw_in_of [499, 909, 910, 911, 912, 500, 501, 502, 503, 913, 914, 915, 916, 504, 505, 506, 507, 508, 509, 510, 511, 513, 10, 514] (by decide +kernel)
set_option maxRecDepth 20000 in
theorem li_wsL_law_r25 : ∀ w ∈ wsL_law_r25, w ∈ lw_tbl := lw_in_of [515, 516, 517, 518, 519, 520, 521, 522, 48, 523, 524, 525, 526, 917, 918, 919, 920, 921, 670, 671, 922, 924, 35, 925] (by decide +kernel)
set_option maxRecDepth 20000 in
theorem li_wsL_law_r26 : ∀ w ∈ wsL_law_r26, w ∈ lw_tbl := lw_in_of [926, 927, 928, 929, 931, 36, 932, 933, 934, 935, 527, 528, 529, 530, 936, 937, 938, 939, 531, 532, 533, 534, 535, 536] (by decide +kernel)
set_option maxRecDepth 20000 in
theorem li_wsL_law_r27 : ∀ w ∈ wsL_law_r27, w ∈ lw_tbl := lw_in_of [537, 538, 539, 540, 541, 542, 543, 940, 941, 942, 943, 944, 945, 946, 947, 948, 949, 951, 37, 952, 953, 955, 38, 956] (by decide +kernel)
set_option maxRecDepth 20000 in
theorem li_wsL_law_r28 : ∀ w ∈ wsL_law_r28, w ∈ lw_tbl := lw_in_of [544, 545, 546, 547, 548, 549, 550, 551, 552, 553, 554, 957, 958, 959, 960, 961, 962, 963, 964, 965, 966, 967, 968, 969] (by decide +kernel)
set_option maxRecDepth 20000 in
theorem li_wsL_law_r29 : ∀ w ∈ wsL_law_r29, w ∈ lw_tbl := lw_in_of [555, 556, 557, 558, 559, 560, 561, 562, 164, 970, 971, 972, 973, 974, 975, 564, 565, 566, 567, 976, 977, 978, 979, 568] (by decide +kernel)
set_option maxRecDepth 20000 in
theorem li_wsL_law_r30 : ∀ w ∈ wsL_law_r30, w ∈ lw_tbl := lw_in_of [569, 570, 571, 572, 573, 574, 575, 980, 981, 982, 983, 672, 673, 578, 579, 580, 581, 582, 584, 11, 585, 586, 587, 588] (by decide +kernel)
set_option maxRecDepth 20000 in
theorem li_wsL_law_r31 : ∀ w ∈ wsL_law_r31, w ∈ lw_tbl := lw_in_of [589, 984, 985, 986, 987, 674, 675, 988, 990, 39, 991, 590, 591, 592, 593, 594, 595, 596, 597, 599, 12, 600, 601, 602] (by decide +kernel)
set_option maxRecDepth 20000 in
theorem li_wsL_law_r32 : ∀ w ∈ wsL_law_r32, w ∈ lw_tbl := lw_in_of [603, 604, 992, 993, 994, 995, 996, 997, 998, 999, 1000, 605, 606, 607, 608, 182, 1001, 1002, 1003, 1004, 669, 609, 610, 611] (by decide +kernel)
set_option maxRecDepth 20000 in
theorem li_wsL_law_r33 : ∀ w ∈ wsL_law_r33, w ∈ lw_tbl := lw_in_of [612, 613, 614, 615, 616, 617, 618, 619, 620, 621, 622, 623, 1005, 1006, 1007, 1008, 1009, 1010, 1011, 624, 625, 626, 627, 628] (by decide +kernel)
set_option maxRecDepth 20000 in
theorem li_wsL_law_r34 : ∀ w ∈ wsL_law_r34, w ∈ lw_tbl := lw_in_of [1012, 1013, 1014, 1015, 629, 630, 631, 632, 633, 1016, 1017, 1018, 1019] (by decide +kernel)
set_option maxRecDepth 20000 in
theorem li_wsX50 : ∀ w ∈ wsX50, w ∈ lw_tbl := lw_in_of [183, 185, 187, 189, 191, 193, 195, 197, 199, 201] (by decide +kernel)
set_option maxRecDepth 20000 in
theorem li_wsX60 : ∀ w ∈ wsX60, w ∈ lw_tbl := lw_in_of [678, 680, 682, 684, 686, 688, 690, 692, 694, 696, 698, 700, 702, 704, 706, 708, 710, 712, 714, 716, 718, 720, 722, 724, 726, 728, 730, 732, 734, 736, 738, 740, 742, 744, 746, 748, 750, 752] (by decide +kernel)
set_option maxRecDepth 20000 in
theorem li_wsX40 : ∀ w ∈ wsX40, w ∈ lw_tbl := lw_in_of [67, 69, 71] (by decide +kernel)
set_option maxRecDepth 20000 in
theorem li_wsX20 : ∀ w ∈ wsX20, w ∈ lw_tbl := lw_in_of [103, 105, 107, 109, 111, 113, 115, 117, 119, 121, 123] (by decide +kernel)
set_option maxRecDepth 20000 in
theorem li_wsX30 : ∀ w ∈ wsX30, w ∈ lw_tbl := lw_in_of [134, 136] (by decide +kernel)
set_option maxRecDepth 20000 in
theorem li_wsX00 : ∀ w ∈ wsX00, w ∈ lw_tbl := lw_in_of [149, 151, 153] (by decide +kernel)
set_option maxRecDepth 20000 in
theorem li_wsX10 : ∀ w ∈ wsX10, w ∈ lw_tbl := lw_in_of [166, 168, 170] (by decide +kernel)
theorem wsL_law_in : ∀ w ∈ wsL_law, w ∈ lw_tbl := (List.forall_mem_append.mpr ⟨(List.forall_mem_append.mpr ⟨(List.forall_mem_append.mpr ⟨(List.forall_mem_append.mpr ⟨(List.forall_mem_append.mpr ⟨(List.forall_mem_append.mpr ⟨(List.forall_mem_append.mpr ⟨(List.forall_mem_append.mpr ⟨(List.forall_mem_append.mpr ⟨li_wsL_law_r1, (List.forall_mem_append.mpr ⟨li_wsL_law_r2, (List.forall_mem_append.mpr ⟨li_wsL_law_r3, (List.forall_mem_append.mpr ⟨li_wsL_law_r4, (List.forall_mem_append.mpr ⟨li_wsL_law_r5, (List.forall_mem_append.mpr ⟨li_wsL_law_r6, (List.forall_mem_append.mpr ⟨li_wsL_law_r7, (List.forall_mem_append.mpr ⟨li_wsL_law_r8, (List.forall_mem_append.mpr ⟨li_wsL_law_r9, (List.forall_mem_append.mpr ⟨li_wsL_law_r10, (List.forall_mem_append.mpr ⟨li_wsL_law_r11, (List.forall_mem_append.mpr ⟨li_wsL_law_r12, (List.forall_mem_append.mpr ⟨li_wsL_law_r13, (List.forall_mem_append.mpr ⟨li_wsL_law_r14, (List.forall_mem_append.mpr ⟨li_wsL_law_r15, (List.forall_mem_append.mpr ⟨li_wsL_law_r16, (List.forall_mem_append.mpr ⟨li_wsL_law_r17, (List.forall_mem_append.mpr ⟨li_wsL_law_r18, (List.forall_mem_append.mpr ⟨li_wsL_law_r19, (List.forall_mem_append.mpr ⟨li_wsL_law_r20, (List.forall_mem_append.mpr ⟨li_wsL_law_r21, (List.forall_mem_append.mpr ⟨li_wsL_law_r22, (List.forall_mem_append.mpr ⟨li_wsL_law_r23, (List.forall_mem_append.mpr ⟨li_wsL_law_r24, (List.forall_mem_append.mpr ⟨li_wsL_law_r25, (List.forall_mem_append.mpr ⟨li_wsL_law_r26, (List.forall_mem_append.mpr ⟨li_wsL_law_r27, (List.forall_mem_append.mpr ⟨li_wsL_law_r28, (List.forall_mem_append.mpr ⟨li_wsL_law_r29, (List.forall_mem_append.mpr ⟨li_wsL_law_r30, (List.forall_mem_append.mpr ⟨li_wsL_law_r31, (List.forall_mem_append.mpr ⟨li_wsL_law_r32, (List.forall_mem_append.mpr ⟨li_wsL_law_r33, li_wsL_law_r34⟩)⟩)⟩)⟩)⟩)⟩)⟩)⟩)⟩)⟩)⟩)⟩)⟩)⟩)⟩)⟩)⟩)⟩)⟩)⟩)⟩)⟩)⟩)⟩)⟩)⟩)⟩)⟩)⟩)⟩)⟩)⟩)⟩), li_wsX50⟩), li_wsX60⟩), li_wsX40⟩), li_wsX20⟩), li_wsX30⟩), li_wsX00⟩), li_wsX10⟩), fun _ h => absurd h List.not_mem_nil⟩)
theorem inlX0 : ∀ w ∈ wsX00, w ∈ wsL_law := fun _ h => List.mem_append_left _ (List.mem_append_left _ (List.mem_append_right _ h))
theorem inX0 : ∀ w ∈ wsX00, w ∈ lw_tbl := fun w h => wsL_law_in w (inlX0 w h)
theorem inlX1 : ∀ w ∈ wsX10, w ∈ wsL_law := fun _ h => List.mem_append_left _ (List.mem_append_right _ h)
theorem inX1 : ∀ w ∈ wsX10, w ∈ lw_tbl := fun w h => wsL_law_in w (inlX1 w h)
theorem inlX2 : ∀ w ∈ wsX20, w ∈ wsL_law := fun _ h => List.mem_append_left _ (List.mem_append_left _ (List.mem_append_left _ (List.mem_append_left _ (List.mem_append_right _ h))))
theorem inX2 : ∀ w ∈ wsX20, w ∈ lw_tbl := fun w h => wsL_law_in w (inlX2 w h)
theorem inlX3 : ∀ w ∈ wsX30, w ∈ wsL_law := fun _ h => List.mem_append_left _ (List.mem_append_left _ (List.mem_append_left _ (List.mem_append_right _ h)))
theorem inX3 : ∀ w ∈ wsX30, w ∈ lw_tbl := fun w h => wsL_law_in w (inlX3 w h)
theorem inlX4 : ∀ w ∈ wsX40, w ∈ wsL_law := fun _ h => List.mem_append_left _ (List.mem_append_left _ (List.mem_append_left _ (List.mem_append_left _ (List.mem_append_left _ (List.mem_append_right _ h)))))
theorem inX4 : ∀ w ∈ wsX40, w ∈ lw_tbl := fun w h => wsL_law_in w (inlX4 w h)
theorem inlX5 : ∀ w ∈ wsX50, w ∈ wsL_law := fun _ h => List.mem_append_left _ (List.mem_append_left _ (List.mem_append_left _ (List.mem_append_left _ (List.mem_append_left _ (List.mem_append_left _ (List.mem_append_left _ (List.mem_append_right _ h)))))))
theorem inX5 : ∀ w ∈ wsX50, w ∈ lw_tbl := fun w h => wsL_law_in w (inlX5 w h)
theorem inlX6 : ∀ w ∈ wsX60, w ∈ wsL_law := fun _ h => List.mem_append_left _ (List.mem_append_left _ (List.mem_append_left _ (List.mem_append_left _ (List.mem_append_left _ (List.mem_append_left _ (List.mem_append_right _ h))))))
theorem inX6 : ∀ w ∈ wsX60, w ∈ lw_tbl := fun w h => wsL_law_in w (inlX6 w h)
theorem inJ6 : ∀ w ∈ wsJ60, w ∈ lw_tbl := by decide +kernel
abbrev vwCl : List vw_C := [(RX0, TX0, 3), (RX1, TX1, 3), (RX2, TX2, 11), (RX3, TX3, 2), (RX4, TX4, 3), (RX5, TX5, 10), (RX6, TX6, 38)]
end
section
set_option maxRecDepth 20000 in
theorem ggX0_remember_X3_saveTo : GoodIn wsX0_remember wsX3_saveTo := goodIn_r _ [8, 9, 10, 11, 12, 16, 17] (by decide +kernel) (by decide +kernel)
set_option maxRecDepth 20000 in
theorem gX0_remember_X3_saveTo : GoodIn wsX0_remember (wsV RX0 21 RX3 yX3_saveTo wsX3_saveTo) := goodIn_app (goodIn_of _ (by decide +kernel)) ggX0_remember_X3_saveTo
set_option maxRecDepth 20000 in
theorem ggX0_takeBack_X3_loadFrom : GoodIn wsX0_takeBack wsX3_loadFrom := goodIn_r _ [8, 9, 10, 11, 12, 16, 17] (by decide +kernel) (by decide +kernel)
set_option maxRecDepth 20000 in
theorem gX0_takeBack_X3_loadFrom : GoodIn wsX0_takeBack (wsV RX0 28 RX3 yX3_loadFrom wsX3_loadFrom) := goodIn_app (goodIn_of _ (by decide +kernel)) ggX0_takeBack_X3_loadFrom
set_option maxRecDepth 20000 in
theorem ggX1_add_X5_put : GoodIn wsX1_add wsX5_put := goodIn_r _ [6] (by decide +kernel) (by decide +kernel)
set_option maxRecDepth 20000 in
theorem gX1_add_X5_put_n22 : GoodIn wsX1_add (wsX5_put) := ggX1_add_X5_put
set_option maxRecDepth 20000 in
theorem ggX1_fits_X5_cell : GoodIn wsX1_fits wsX5_cell := goodIn_r _ [6] (by decide +kernel) (by decide +kernel)
set_option maxRecDepth 20000 in
theorem gX1_fits_X5_cell_n26 : GoodIn wsX1_fits (wsX5_cell) := ggX1_fits_X5_cell
set_option maxRecDepth 20000 in
theorem ggX1_fits_X5_dueFor : GoodIn wsX1_fits wsX5_dueFor := goodIn_r _ [8] (by decide +kernel) (by decide +kernel)
set_option maxRecDepth 20000 in
theorem gX1_fits_X5_dueFor_n30 : GoodIn wsX1_fits (wsX5_dueFor) := ggX1_fits_X5_dueFor
set_option maxRecDepth 20000 in
theorem ggX2_addPerson_X5_put : GoodIn wsX2_addPerson wsX5_put := goodIn_r _ [5] (by decide +kernel) (by decide +kernel)
set_option maxRecDepth 20000 in
theorem gX2_addPerson_X5_put_n46 : GoodIn wsX2_addPerson (wsX5_put) := ggX2_addPerson_X5_put
set_option maxRecDepth 20000 in
theorem ggX2_addQuality_X5_put : GoodIn wsX2_addQuality wsX5_put := goodIn_r _ [7] (by decide +kernel) (by decide +kernel)
set_option maxRecDepth 20000 in
theorem gX2_addQuality_X5_put_n46 : GoodIn wsX2_addQuality (wsX5_put) := ggX2_addQuality_X5_put
set_option maxRecDepth 20000 in
theorem ggX2_addDeed_X5_put : GoodIn wsX2_addDeed wsX5_put := goodIn_r _ [7] (by decide +kernel) (by decide +kernel)
set_option maxRecDepth 20000 in
theorem gX2_addDeed_X5_put_n46 : GoodIn wsX2_addDeed (wsX5_put) := ggX2_addDeed_X5_put
set_option maxRecDepth 20000 in
theorem ggX2_firstPurseOf_X5_cell : GoodIn wsX2_firstPurseOf wsX5_cell := goodIn_r _ [4] (by decide +kernel) (by decide +kernel)
set_option maxRecDepth 20000 in
theorem gX2_firstPurseOf_X5_cell_n50 : GoodIn wsX2_firstPurseOf (wsX5_cell) := ggX2_firstPurseOf_X5_cell
set_option maxRecDepth 20000 in
theorem ggX2_ownerOf_X5_cell : GoodIn wsX2_ownerOf wsX5_cell := goodIn_r _ [4] (by decide +kernel) (by decide +kernel)
set_option maxRecDepth 20000 in
theorem gX2_ownerOf_X5_cell_n50 : GoodIn wsX2_ownerOf (wsX5_cell) := ggX2_ownerOf_X5_cell
set_option maxRecDepth 20000 in
theorem ggX2_worthOf_X5_cell : GoodIn wsX2_worthOf wsX5_cell := goodIn_r _ [4] (by decide +kernel) (by decide +kernel)
set_option maxRecDepth 20000 in
theorem gX2_worthOf_X5_cell_n50 : GoodIn wsX2_worthOf (wsX5_cell) := ggX2_worthOf_X5_cell
set_option maxRecDepth 20000 in
theorem ggX2_kindOf_X5_cell : GoodIn wsX2_kindOf wsX5_cell := goodIn_r _ [4] (by decide +kernel) (by decide +kernel)
set_option maxRecDepth 20000 in
theorem gX2_kindOf_X5_cell_n50 : GoodIn wsX2_kindOf (wsX5_cell) := ggX2_kindOf_X5_cell
set_option maxRecDepth 20000 in
theorem ggX2_wantedBy_X5_cell : GoodIn wsX2_wantedBy wsX5_cell := goodIn_r _ [4] (by decide +kernel) (by decide +kernel)
set_option maxRecDepth 20000 in
theorem gX2_wantedBy_X5_cell_n50 : GoodIn wsX2_wantedBy (wsX5_cell) := ggX2_wantedBy_X5_cell
set_option maxRecDepth 20000 in
theorem ggX2_dayOf_X5_cell : GoodIn wsX2_dayOf wsX5_cell := goodIn_r _ [4] (by decide +kernel) (by decide +kernel)
set_option maxRecDepth 20000 in
theorem gX2_dayOf_X5_cell_n50 : GoodIn wsX2_dayOf (wsX5_cell) := ggX2_dayOf_X5_cell
set_option maxRecDepth 20000 in
theorem ggX2_rewardOf_X5_cell : GoodIn wsX2_rewardOf wsX5_cell := goodIn_r _ [4] (by decide +kernel) (by decide +kernel)
set_option maxRecDepth 20000 in
theorem gX2_rewardOf_X5_cell_n50 : GoodIn wsX2_rewardOf (wsX5_cell) := ggX2_rewardOf_X5_cell
set_option maxRecDepth 20000 in
theorem ggX2_qualitiesOf_X2_ownerOf : GoodIn wsX2_qualitiesOf wsX2_ownerOf := goodIn_r _ [6, 7, 8, 9, 10, 11, 12, 13, 14, 15, 16, 17, 18, 19, 20, 21] (by decide +kernel) (by decide +kernel)
set_option maxRecDepth 20000 in
theorem gX2_qualitiesOf_X2_ownerOf : GoodIn wsX2_qualitiesOf (wsV RX2 54 RX2 yX2_ownerOf wsX2_ownerOf) := goodIn_app (goodIn_of _ (by decide +kernel)) ggX2_qualitiesOf_X2_ownerOf
set_option maxRecDepth 20000 in
theorem ggX2_deedsOf_X2_wantedBy : GoodIn wsX2_deedsOf wsX2_wantedBy := goodIn_r _ [6, 7, 8, 9, 10, 16, 17, 18, 19, 20, 21, 22, 23, 24, 25, 26] (by decide +kernel) (by decide +kernel)
set_option maxRecDepth 20000 in
theorem gX2_deedsOf_X2_wantedBy : GoodIn wsX2_deedsOf (wsV RX2 58 RX2 yX2_wantedBy wsX2_wantedBy) := goodIn_app (goodIn_of _ (by decide +kernel)) ggX2_deedsOf_X2_wantedBy
set_option maxRecDepth 20000 in
theorem ggX2_deedsOf_X2_ownerOf : GoodIn wsX2_deedsOf wsX2_ownerOf := goodIn_r _ [14, 15, 8, 9, 10, 16, 17, 18, 19, 20, 21, 22, 23, 24, 25, 26] (by decide +kernel) (by decide +kernel)
set_option maxRecDepth 20000 in
theorem gX2_deedsOf_X2_ownerOf : GoodIn wsX2_deedsOf (wsV RX2 54 RX2 yX2_ownerOf wsX2_ownerOf) := goodIn_app (goodIn_of _ (by decide +kernel)) ggX2_deedsOf_X2_ownerOf
set_option maxRecDepth 20000 in
theorem ggX3_begin_X5_put : GoodIn wsX3_begin wsX5_put := goodIn_r _ [5] (by decide +kernel) (by decide +kernel)
set_option maxRecDepth 20000 in
theorem gX3_begin_X5_put_n25 : GoodIn wsX3_begin (wsX5_put) := ggX3_begin_X5_put
set_option maxRecDepth 20000 in
theorem ggX3_begin_X2_firstPurseOf : GoodIn wsX3_begin wsX2_firstPurseOf := goodIn_r _ [10, 11, 12, 4, 13, 16, 17, 18, 19, 20, 21, 22, 23, 24, 25, 26] (by decide +kernel) (by decide +kernel)
set_option maxRecDepth 20000 in
theorem gX3_begin_X2_firstPurseOf : GoodIn wsX3_begin (wsV RX3 32 RX2 yX2_firstPurseOf wsX2_firstPurseOf) := goodIn_app (goodIn_of _ (by decide +kernel)) ggX3_begin_X2_firstPurseOf
set_option maxRecDepth 20000 in
theorem ggX3_copy_X3_saveTo : GoodIn wsX3_copy wsX3_saveTo := goodIn_r _ [6, 1, 7, 8, 9, 10, 11] (by decide +kernel) (by decide +kernel)
set_option maxRecDepth 20000 in
theorem gX3_copy_X3_saveTo : GoodIn wsX3_copy (wsV RX3 36 RX3 yX3_saveTo wsX3_saveTo) := goodIn_app (goodIn_of _ (by decide +kernel)) ggX3_copy_X3_saveTo
set_option maxRecDepth 20000 in
theorem ggX3_saveTo_X5_put : GoodIn wsX3_saveTo wsX5_put := goodIn_r _ [4] (by decide +kernel) (by decide +kernel)
set_option maxRecDepth 20000 in
theorem gX3_saveTo_X5_put_n25 : GoodIn wsX3_saveTo (wsX5_put) := ggX3_saveTo_X5_put
set_option maxRecDepth 20000 in
theorem ggX3_loadFrom_X5_cell : GoodIn wsX3_loadFrom wsX5_cell := goodIn_r _ [4] (by decide +kernel) (by decide +kernel)
set_option maxRecDepth 20000 in
theorem gX3_loadFrom_X5_cell_n40 : GoodIn wsX3_loadFrom (wsX5_cell) := ggX3_loadFrom_X5_cell
set_option maxRecDepth 20000 in
theorem ggX3_inTill_X5_cell : GoodIn wsX3_inTill wsX5_cell := goodIn_r _ [4] (by decide +kernel) (by decide +kernel)
set_option maxRecDepth 20000 in
theorem gX3_inTill_X5_cell_n40 : GoodIn wsX3_inTill (wsX5_cell) := ggX3_inTill_X5_cell
set_option maxRecDepth 20000 in
theorem ggX3_today_X5_cell : GoodIn wsX3_today wsX5_cell := goodIn_r _ [4] (by decide +kernel) (by decide +kernel)
set_option maxRecDepth 20000 in
theorem gX3_today_X5_cell_n40 : GoodIn wsX3_today (wsX5_cell) := ggX3_today_X5_cell
set_option maxRecDepth 20000 in
theorem ggX3_purseOf_X5_cell : GoodIn wsX3_purseOf wsX5_cell := goodIn_r _ [4] (by decide +kernel) (by decide +kernel)
set_option maxRecDepth 20000 in
theorem gX3_purseOf_X5_cell_n40 : GoodIn wsX3_purseOf (wsX5_cell) := ggX3_purseOf_X5_cell
set_option maxRecDepth 20000 in
theorem ggX3_standingOf_X5_cell : GoodIn wsX3_standingOf wsX5_cell := goodIn_r _ [4] (by decide +kernel) (by decide +kernel)
set_option maxRecDepth 20000 in
theorem gX3_standingOf_X5_cell_n40 : GoodIn wsX3_standingOf (wsX5_cell) := ggX3_standingOf_X5_cell
set_option maxRecDepth 20000 in
theorem ggX3_pledgedOn_X5_cell : GoodIn wsX3_pledgedOn wsX5_cell := goodIn_r _ [4] (by decide +kernel) (by decide +kernel)
set_option maxRecDepth 20000 in
theorem gX3_pledgedOn_X5_cell_n40 : GoodIn wsX3_pledgedOn (wsX5_cell) := ggX3_pledgedOn_X5_cell
set_option maxRecDepth 20000 in
theorem ggX3_outcomeOf_X5_cell : GoodIn wsX3_outcomeOf wsX5_cell := goodIn_r _ [4] (by decide +kernel) (by decide +kernel)
set_option maxRecDepth 20000 in
theorem gX3_outcomeOf_X5_cell_n40 : GoodIn wsX3_outcomeOf (wsX5_cell) := ggX3_outcomeOf_X5_cell
set_option maxRecDepth 20000 in
theorem ggX3_inAllPurses_X3_purseOf : GoodIn wsX3_inAllPurses wsX3_purseOf := goodIn_r _ [6, 7, 8, 9, 10, 11, 12] (by decide +kernel) (by decide +kernel)
set_option maxRecDepth 20000 in
theorem gX3_inAllPurses_X3_purseOf : GoodIn wsX3_inAllPurses (wsV RX3 44 RX3 yX3_purseOf wsX3_purseOf) := goodIn_app (goodIn_of _ (by decide +kernel)) ggX3_inAllPurses_X3_purseOf
set_option maxRecDepth 20000 in
theorem ggX3_qualitiesThatAre_X3_standingOf : GoodIn wsX3_qualitiesThatAre wsX3_standingOf := goodIn_r _ [6, 7, 8, 9, 10, 11, 12] (by decide +kernel) (by decide +kernel)
set_option maxRecDepth 20000 in
theorem gX3_qualitiesThatAre_X3_standingOf : GoodIn wsX3_qualitiesThatAre (wsV RX3 50 RX3 yX3_standingOf wsX3_standingOf) := goodIn_app (goodIn_of _ (by decide +kernel)) ggX3_qualitiesThatAre_X3_standingOf
set_option maxRecDepth 20000 in
theorem ggX3_deedsThatAre_X3_outcomeOf : GoodIn wsX3_deedsThatAre wsX3_outcomeOf := goodIn_r _ [6, 7, 8, 9, 10, 11, 12] (by decide +kernel) (by decide +kernel)
set_option maxRecDepth 20000 in
theorem gX3_deedsThatAre_X3_outcomeOf : GoodIn wsX3_deedsThatAre (wsV RX3 56 RX3 yX3_outcomeOf wsX3_outcomeOf) := goodIn_app (goodIn_of _ (by decide +kernel)) ggX3_deedsThatAre_X3_outcomeOf
set_option maxRecDepth 20000 in
theorem ggX3_owedFor_X3_standingOf : GoodIn wsX3_owedFor wsX3_standingOf := goodIn_r _ [6, 7, 8, 9, 10, 32, 33] (by decide +kernel) (by decide +kernel)
set_option maxRecDepth 20000 in
theorem gX3_owedFor_X3_standingOf : GoodIn wsX3_owedFor (wsV RX3 50 RX3 yX3_standingOf wsX3_standingOf) := goodIn_app (goodIn_of _ (by decide +kernel)) ggX3_owedFor_X3_standingOf
set_option maxRecDepth 20000 in
theorem ggX3_owedFor_X2_kindOf : GoodIn wsX3_owedFor wsX2_kindOf := goodIn_r _ [15, 16, 8, 9, 10, 34, 35, 36, 37, 38, 39, 40, 41, 42, 43, 44] (by decide +kernel) (by decide +kernel)
set_option maxRecDepth 20000 in
theorem gX3_owedFor_X2_kindOf : GoodIn wsX3_owedFor (wsV RX3 59 RX2 yX2_kindOf wsX2_kindOf) := goodIn_app (goodIn_of _ (by decide +kernel)) ggX3_owedFor_X2_kindOf
set_option maxRecDepth 20000 in
theorem ggX3_owedFor_X2_worthOf : GoodIn wsX3_owedFor wsX2_worthOf := goodIn_r _ [20, 21, 8, 9, 10, 34, 35, 36, 37, 38, 39, 40, 41, 42, 43, 44] (by decide +kernel) (by decide +kernel)
set_option maxRecDepth 20000 in
theorem gX3_owedFor_X2_worthOf : GoodIn wsX3_owedFor (wsV RX3 62 RX2 yX2_worthOf wsX2_worthOf) := goodIn_app (goodIn_of _ (by decide +kernel)) ggX3_owedFor_X2_worthOf
set_option maxRecDepth 20000 in
theorem ggX3_owedFor_X3_today : GoodIn wsX3_owedFor wsX3_today := goodIn_r _ [25, 7, 8, 9, 10, 32, 33] (by decide +kernel) (by decide +kernel)
set_option maxRecDepth 20000 in
theorem gX3_owedFor_X3_today : GoodIn wsX3_owedFor (wsV RX3 65 RX3 yX3_today wsX3_today) := goodIn_app (goodIn_of _ (by decide +kernel)) ggX3_owedFor_X3_today
set_option maxRecDepth 20000 in
theorem ggX3_owedFor_X3_pledgedOn : GoodIn wsX3_owedFor wsX3_pledgedOn := goodIn_r _ [29, 7, 8, 9, 10, 32, 33] (by decide +kernel) (by decide +kernel)
set_option maxRecDepth 20000 in
theorem gX3_owedFor_X3_pledgedOn : GoodIn wsX3_owedFor (wsV RX3 69 RX3 yX3_pledgedOn wsX3_pledgedOn) := goodIn_app (goodIn_of _ (by decide +kernel)) ggX3_owedFor_X3_pledgedOn
set_option maxRecDepth 20000 in
theorem ggX3_owedFor_X5_dueFor : GoodIn wsX3_owedFor wsX5_dueFor := goodIn_r _ [31] (by decide +kernel) (by decide +kernel)
set_option maxRecDepth 20000 in
theorem gX3_owedFor_X5_dueFor_n72 : GoodIn wsX3_owedFor (wsX5_dueFor) := ggX3_owedFor_X5_dueFor
set_option maxRecDepth 20000 in
theorem ggX3_dearestOf_X2_ownerOf : GoodIn wsX3_dearestOf wsX2_ownerOf := goodIn_r _ [6, 7, 8, 9, 10, 24, 25, 26, 27, 28, 29, 30, 31, 32, 33, 34] (by decide +kernel) (by decide +kernel)
set_option maxRecDepth 20000 in
theorem gX3_dearestOf_X2_ownerOf : GoodIn wsX3_dearestOf (wsV RX3 76 RX2 yX2_ownerOf wsX2_ownerOf) := goodIn_app (goodIn_of _ (by decide +kernel)) ggX3_dearestOf_X2_ownerOf
set_option maxRecDepth 20000 in
theorem ggX3_dearestOf_X3_standingOf : GoodIn wsX3_dearestOf wsX3_standingOf := goodIn_r _ [15, 16, 8, 9, 10, 22, 23] (by decide +kernel) (by decide +kernel)
set_option maxRecDepth 20000 in
theorem gX3_dearestOf_X3_standingOf : GoodIn wsX3_dearestOf (wsV RX3 50 RX3 yX3_standingOf wsX3_standingOf) := goodIn_app (goodIn_of _ (by decide +kernel)) ggX3_dearestOf_X3_standingOf
set_option maxRecDepth 20000 in
theorem ggX3_dearestOf_X2_worthOf : GoodIn wsX3_dearestOf wsX2_worthOf := goodIn_r _ [20, 21, 8, 9, 10, 24, 25, 26, 27, 28, 29, 30, 31, 32, 33, 34] (by decide +kernel) (by decide +kernel)
set_option maxRecDepth 20000 in
theorem gX3_dearestOf_X2_worthOf : GoodIn wsX3_dearestOf (wsV RX3 62 RX2 yX2_worthOf wsX2_worthOf) := goodIn_app (goodIn_of _ (by decide +kernel)) ggX3_dearestOf_X2_worthOf
set_option maxRecDepth 20000 in
theorem ggX3_canPledge_X2_hasQuality : GoodIn wsX3_canPledge wsX2_hasQuality := goodIn_r _ [6, 7, 28, 29, 30, 31, 32, 33, 34, 35, 36, 37, 38] (by decide +kernel) (by decide +kernel)
set_option maxRecDepth 20000 in
theorem gX3_canPledge_X2_hasQuality : GoodIn wsX3_canPledge (wsV RX3 79 RX2 yX2_hasQuality wsX2_hasQuality) := goodIn_app (goodIn_of _ (by decide +kernel)) ggX3_canPledge_X2_hasQuality
set_option maxRecDepth 20000 in
theorem ggX3_canPledge_X3_standingOf : GoodIn wsX3_canPledge wsX3_standingOf := goodIn_r _ [12, 13, 14, 15, 16, 26, 27] (by decide +kernel) (by decide +kernel)
set_option maxRecDepth 20000 in
theorem gX3_canPledge_X3_standingOf : GoodIn wsX3_canPledge (wsV RX3 50 RX3 yX3_standingOf wsX3_standingOf) := goodIn_app (goodIn_of _ (by decide +kernel)) ggX3_canPledge_X3_standingOf
set_option maxRecDepth 20000 in
theorem ggX3_canPledge_X3_inTill : GoodIn wsX3_canPledge wsX3_inTill := goodIn_r _ [20, 13, 14, 15, 16, 26, 27] (by decide +kernel) (by decide +kernel)
set_option maxRecDepth 20000 in
theorem gX3_canPledge_X3_inTill : GoodIn wsX3_canPledge (wsV RX3 83 RX3 yX3_inTill wsX3_inTill) := goodIn_app (goodIn_of _ (by decide +kernel)) ggX3_canPledge_X3_inTill
set_option maxRecDepth 20000 in
theorem ggX3_canPledge_X2_worthOf : GoodIn wsX3_canPledge wsX2_worthOf := goodIn_r _ [24, 25, 14, 15, 16, 28, 29, 30, 31, 32, 33, 34, 35, 36, 37, 38] (by decide +kernel) (by decide +kernel)
set_option maxRecDepth 20000 in
theorem gX3_canPledge_X2_worthOf : GoodIn wsX3_canPledge (wsV RX3 62 RX2 yX2_worthOf wsX2_worthOf) := goodIn_app (goodIn_of _ (by decide +kernel)) ggX3_canPledge_X2_worthOf
set_option maxRecDepth 20000 in
theorem ggX3_canRedeem_X2_hasQuality : GoodIn wsX3_canRedeem wsX2_hasQuality := goodIn_r _ [6, 7, 52, 53, 54, 55, 56, 57, 58, 59, 60, 61, 62] (by decide +kernel) (by decide +kernel)
set_option maxRecDepth 20000 in
theorem gX3_canRedeem_X2_hasQuality : GoodIn wsX3_canRedeem (wsV RX3 79 RX2 yX2_hasQuality wsX2_hasQuality) := goodIn_app (goodIn_of _ (by decide +kernel)) ggX3_canRedeem_X2_hasQuality
set_option maxRecDepth 20000 in
theorem ggX3_canRedeem_X3_standingOf : GoodIn wsX3_canRedeem wsX3_standingOf := goodIn_r _ [12, 13, 14, 15, 16, 50, 51] (by decide +kernel) (by decide +kernel)
set_option maxRecDepth 20000 in
theorem gX3_canRedeem_X3_standingOf : GoodIn wsX3_canRedeem (wsV RX3 50 RX3 yX3_standingOf wsX3_standingOf) := goodIn_app (goodIn_of _ (by decide +kernel)) ggX3_canRedeem_X3_standingOf
set_option maxRecDepth 20000 in
theorem ggX3_canRedeem_X2_ownerOf : GoodIn wsX3_canRedeem wsX2_ownerOf := goodIn_r _ [20, 21, 14, 15, 16, 52, 53, 54, 55, 56, 57, 58, 59, 60, 61, 62] (by decide +kernel) (by decide +kernel)
set_option maxRecDepth 20000 in
theorem gX3_canRedeem_X2_ownerOf : GoodIn wsX3_canRedeem (wsV RX3 76 RX2 yX2_ownerOf wsX2_ownerOf) := goodIn_app (goodIn_of _ (by decide +kernel)) ggX3_canRedeem_X2_ownerOf
set_option maxRecDepth 20000 in
theorem ggX3_canRedeem_X3_purseOf : GoodIn wsX3_canRedeem wsX3_purseOf := goodIn_r _ [25, 13, 14, 15, 16, 50, 51] (by decide +kernel) (by decide +kernel)
set_option maxRecDepth 20000 in
theorem gX3_canRedeem_X3_purseOf : GoodIn wsX3_canRedeem (wsV RX3 44 RX3 yX3_purseOf wsX3_purseOf) := goodIn_app (goodIn_of _ (by decide +kernel)) ggX3_canRedeem_X3_purseOf
set_option maxRecDepth 20000 in
theorem ggX3_canRedeem_X3_owedFor : GoodIn wsX3_canRedeem wsX3_owedFor := goodIn_r _ [29, 1, 8, 9, 10, 11, 12, 13, 14, 15, 16, 30, 31, 32, 5, 33, 34, 35, 36, 37, 38, 39, 40, 41, 42, 43, 44, 45, 46, 47, 48, 49, 50, 51, 52, 53, 54, 55, 56, 57, 58, 59, 60, 61, 62] (by decide +kernel) (by decide +kernel)
set_option maxRecDepth 20000 in
theorem gX3_canRedeem_X3_owedFor : GoodIn wsX3_canRedeem (wsV RX3 86 RX3 yX3_owedFor wsX3_owedFor) := goodIn_app (goodIn_of _ (by decide +kernel)) ggX3_canRedeem_X3_owedFor
set_option maxRecDepth 20000 in
theorem ggX3_tryPledge_X3_canPledge : GoodIn wsX3_tryPledge wsX3_canPledge := goodIn_r _ [7, 1, 8, 9, 10, 11, 12, 13, 14, 15, 16, 6, 17, 2, 18, 19, 20, 21, 22, 23, 24, 25, 26, 27, 28, 29, 45, 46, 47, 48, 49, 50, 51, 52, 53, 54, 55, 56, 57] (by decide +kernel) (by decide +kernel)
set_option maxRecDepth 20000 in
theorem gX3_tryPledge_X3_canPledge : GoodIn wsX3_tryPledge (wsV RX3 89 RX3 yX3_canPledge wsX3_canPledge) := goodIn_app (goodIn_of _ (by decide +kernel)) ggX3_tryPledge_X3_canPledge
set_option maxRecDepth 20000 in
theorem ggX3_tryPledge_X2_ownerOf : GoodIn wsX3_tryPledge wsX2_ownerOf := goodIn_r _ [33, 34, 18, 19, 20, 47, 48, 49, 50, 51, 52, 53, 54, 55, 56, 57] (by decide +kernel) (by decide +kernel)
set_option maxRecDepth 20000 in
theorem gX3_tryPledge_X2_ownerOf : GoodIn wsX3_tryPledge (wsV RX3 76 RX2 yX2_ownerOf wsX2_ownerOf) := goodIn_app (goodIn_of _ (by decide +kernel)) ggX3_tryPledge_X2_ownerOf
set_option maxRecDepth 20000 in
theorem ggX3_tryPledge_X2_worthOf : GoodIn wsX3_tryPledge wsX2_worthOf := goodIn_r _ [28, 29, 18, 19, 20, 47, 48, 49, 50, 51, 52, 53, 54, 55, 56, 57] (by decide +kernel) (by decide +kernel)
set_option maxRecDepth 20000 in
theorem gX3_tryPledge_X2_worthOf : GoodIn wsX3_tryPledge (wsV RX3 62 RX2 yX2_worthOf wsX2_worthOf) := goodIn_app (goodIn_of _ (by decide +kernel)) ggX3_tryPledge_X2_worthOf
set_option maxRecDepth 20000 in
theorem ggX3_tryPledge_X3_pay : GoodIn wsX3_tryPledge wsX3_pay := goodIn_r _ [38, 2, 18, 19, 20, 39, 40, 45, 46] (by decide +kernel) (by decide +kernel)
set_option maxRecDepth 20000 in
theorem gX3_tryPledge_X3_pay : GoodIn wsX3_tryPledge (wsV RX3 92 RX3 yX3_pay wsX3_pay) := goodIn_app (goodIn_of _ (by decide +kernel)) ggX3_tryPledge_X3_pay
set_option maxRecDepth 20000 in
theorem ggX3_tryPledge_X3_inTill : GoodIn wsX3_tryPledge wsX3_inTill := goodIn_r _ [24, 2, 18, 19, 20, 45, 46] (by decide +kernel) (by decide +kernel)
set_option maxRecDepth 20000 in
theorem gX3_tryPledge_X3_inTill : GoodIn wsX3_tryPledge (wsV RX3 83 RX3 yX3_inTill wsX3_inTill) := goodIn_app (goodIn_of _ (by decide +kernel)) ggX3_tryPledge_X3_inTill
set_option maxRecDepth 20000 in
theorem ggX3_tryPledge_X5_put : GoodIn wsX3_tryPledge wsX5_put := goodIn_r _ [40] (by decide +kernel) (by decide +kernel)
set_option maxRecDepth 20000 in
theorem gX3_tryPledge_X5_put_n25 : GoodIn wsX3_tryPledge (wsX5_put) := ggX3_tryPledge_X5_put
set_option maxRecDepth 20000 in
theorem ggX3_tryPledge_X3_today : GoodIn wsX3_tryPledge wsX3_today := goodIn_r _ [44, 2, 18, 19, 20, 45, 46] (by decide +kernel) (by decide +kernel)
set_option maxRecDepth 20000 in
theorem gX3_tryPledge_X3_today : GoodIn wsX3_tryPledge (wsV RX3 65 RX3 yX3_today wsX3_today) := goodIn_app (goodIn_of _ (by decide +kernel)) ggX3_tryPledge_X3_today
set_option maxRecDepth 20000 in
theorem ggX3_tryRedeem_X3_canRedeem : GoodIn wsX3_tryRedeem wsX3_canRedeem := goodIn_r _ [7, 1, 8, 9, 10, 11, 12, 13, 14, 15, 16, 6, 17, 2, 18, 19, 20, 21, 22, 23, 24, 25, 26, 27, 28, 29, 30, 31, 32, 33, 34, 35, 36, 37, 38, 39, 40, 41, 42, 43, 44, 45, 46, 47, 48, 49, 50, 51, 52, 53, 64, 65, 66, 67, 68, 69, 70, 71, 72, 73, 74, 75, 76] (by decide +kernel) (by decide +kernel)
set_option maxRecDepth 20000 in
theorem gX3_tryRedeem_X3_canRedeem : GoodIn wsX3_tryRedeem (wsV RX3 96 RX3 yX3_canRedeem wsX3_canRedeem) := goodIn_app (goodIn_of _ (by decide +kernel)) ggX3_tryRedeem_X3_canRedeem
set_option maxRecDepth 20000 in
theorem ggX3_tryRedeem_X3_owedFor : GoodIn wsX3_tryRedeem wsX3_owedFor := goodIn_r _ [33, 1, 14, 15, 16, 6, 17, 2, 18, 19, 20, 34, 35, 36, 11, 37, 38, 39, 40, 41, 42, 43, 44, 45, 46, 47, 48, 49, 50, 51, 52, 53, 64, 65, 66, 67, 68, 69, 70, 71, 72, 73, 74, 75, 76] (by decide +kernel) (by decide +kernel)
set_option maxRecDepth 20000 in
theorem gX3_tryRedeem_X3_owedFor : GoodIn wsX3_tryRedeem (wsV RX3 86 RX3 yX3_owedFor wsX3_owedFor) := goodIn_app (goodIn_of _ (by decide +kernel)) ggX3_tryRedeem_X3_owedFor
set_option maxRecDepth 20000 in
theorem ggX3_tryRedeem_X2_ownerOf : GoodIn wsX3_tryRedeem wsX2_ownerOf := goodIn_r _ [24, 25, 18, 19, 20, 66, 67, 68, 69, 70, 71, 72, 73, 74, 75, 76] (by decide +kernel) (by decide +kernel)
set_option maxRecDepth 20000 in
theorem gX3_tryRedeem_X2_ownerOf : GoodIn wsX3_tryRedeem (wsV RX3 76 RX2 yX2_ownerOf wsX2_ownerOf) := goodIn_app (goodIn_of _ (by decide +kernel)) ggX3_tryRedeem_X2_ownerOf
set_option maxRecDepth 20000 in
theorem ggX3_tryRedeem_X3_pay : GoodIn wsX3_tryRedeem wsX3_pay := goodIn_r _ [57, 2, 18, 19, 20, 58, 59, 64, 65] (by decide +kernel) (by decide +kernel)
set_option maxRecDepth 20000 in
theorem gX3_tryRedeem_X3_pay : GoodIn wsX3_tryRedeem (wsV RX3 92 RX3 yX3_pay wsX3_pay) := goodIn_app (goodIn_of _ (by decide +kernel)) ggX3_tryRedeem_X3_pay
set_option maxRecDepth 20000 in
theorem ggX3_tryRedeem_X3_inTill : GoodIn wsX3_tryRedeem wsX3_inTill := goodIn_r _ [63, 2, 18, 19, 20, 64, 65] (by decide +kernel) (by decide +kernel)
set_option maxRecDepth 20000 in
theorem gX3_tryRedeem_X3_inTill : GoodIn wsX3_tryRedeem (wsV RX3 83 RX3 yX3_inTill wsX3_inTill) := goodIn_app (goodIn_of _ (by decide +kernel)) ggX3_tryRedeem_X3_inTill
set_option maxRecDepth 20000 in
theorem ggX3_tryRedeem_X5_put : GoodIn wsX3_tryRedeem wsX5_put := goodIn_r _ [59] (by decide +kernel) (by decide +kernel)
set_option maxRecDepth 20000 in
theorem gX3_tryRedeem_X5_put_n25 : GoodIn wsX3_tryRedeem (wsX5_put) := ggX3_tryRedeem_X5_put
set_option maxRecDepth 20000 in
theorem ggX3_tryGive_X2_hasPerson : GoodIn wsX3_tryGive wsX2_hasPerson := goodIn_r _ [6, 7, 21, 22, 23, 24, 25, 26, 27, 28, 29, 30, 31] (by decide +kernel) (by decide +kernel)
set_option maxRecDepth 20000 in
theorem gX3_tryGive_X2_hasPerson : GoodIn wsX3_tryGive (wsV RX3 99 RX2 yX2_hasPerson wsX2_hasPerson) := goodIn_app (goodIn_of _ (by decide +kernel)) ggX3_tryGive_X2_hasPerson
set_option maxRecDepth 20000 in
theorem ggX3_tryGive_X3_pay : GoodIn wsX3_tryGive wsX3_pay := goodIn_r _ [12, 13, 14, 15, 16, 17, 18, 19, 20] (by decide +kernel) (by decide +kernel)
set_option maxRecDepth 20000 in
theorem gX3_tryGive_X3_pay : GoodIn wsX3_tryGive (wsV RX3 92 RX3 yX3_pay wsX3_pay) := goodIn_app (goodIn_of _ (by decide +kernel)) ggX3_tryGive_X3_pay
set_option maxRecDepth 20000 in
theorem ggX3_pay_X5_cell : GoodIn wsX3_pay wsX5_cell := goodIn_r _ [4] (by decide +kernel) (by decide +kernel)
set_option maxRecDepth 20000 in
theorem gX3_pay_X5_cell_n40 : GoodIn wsX3_pay (wsX5_cell) := ggX3_pay_X5_cell
set_option maxRecDepth 20000 in
theorem ggX3_pay_X5_put : GoodIn wsX3_pay wsX5_put := goodIn_r _ [6] (by decide +kernel) (by decide +kernel)
set_option maxRecDepth 20000 in
theorem gX3_pay_X5_put_n25 : GoodIn wsX3_pay (wsX5_put) := ggX3_pay_X5_put
set_option maxRecDepth 20000 in
theorem ggX3_passDay_X2_dayOf : GoodIn wsX3_passDay wsX2_dayOf := goodIn_r _ [7, 8, 9, 10, 11, 61, 62, 63, 64, 65, 66, 67, 68, 69, 70, 71] (by decide +kernel) (by decide +kernel)
set_option maxRecDepth 20000 in
theorem gX3_passDay_X2_dayOf : GoodIn wsX3_passDay (wsV RX3 102 RX2 yX2_dayOf wsX2_dayOf) := goodIn_app (goodIn_of _ (by decide +kernel)) ggX3_passDay_X2_dayOf
set_option maxRecDepth 20000 in
theorem ggX3_passDay_X3_today : GoodIn wsX3_passDay wsX3_today := goodIn_r _ [16, 2, 9, 10, 11, 59, 60] (by decide +kernel) (by decide +kernel)
set_option maxRecDepth 20000 in
theorem gX3_passDay_X3_today : GoodIn wsX3_passDay (wsV RX3 65 RX3 yX3_today wsX3_today) := goodIn_app (goodIn_of _ (by decide +kernel)) ggX3_passDay_X3_today
set_option maxRecDepth 20000 in
theorem ggX3_passDay_X3_tryDeed : GoodIn wsX3_passDay wsX3_tryDeed := goodIn_r _ [20, 1, 2, 21, 22, 23, 6, 24, 25, 9, 10, 11, 26, 27, 28, 15, 29, 30, 31, 32, 33, 34, 35, 36, 37, 38, 39, 40, 41, 42, 43, 44, 45, 59, 60, 61, 62, 63, 64, 65, 66, 67, 68, 69, 70, 71] (by decide +kernel) (by decide +kernel)
set_option maxRecDepth 20000 in
theorem gX3_passDay_X3_tryDeed : GoodIn wsX3_passDay (wsV RX3 105 RX3 yX3_tryDeed wsX3_tryDeed) := goodIn_app (goodIn_of _ (by decide +kernel)) ggX3_passDay_X3_tryDeed
set_option maxRecDepth 20000 in
theorem ggX3_passDay_X5_put : GoodIn wsX3_passDay wsX5_put := goodIn_r _ [31] (by decide +kernel) (by decide +kernel)
set_option maxRecDepth 20000 in
theorem gX3_passDay_X5_put_n25 : GoodIn wsX3_passDay (wsX5_put) := ggX3_passDay_X5_put
set_option maxRecDepth 20000 in
theorem ggX3_passDay_X3_sellOverdue : GoodIn wsX3_passDay wsX3_sellOverdue := goodIn_r _ [49, 1, 2, 26, 27, 28, 15, 29, 9, 10, 11, 12, 13, 14, 16, 50, 51, 52, 53, 54, 55, 56, 6, 57, 58, 30, 31, 59, 60, 61, 62, 63, 64, 65, 66, 67, 68, 69, 70, 71] (by decide +kernel) (by decide +kernel)
set_option maxRecDepth 20000 in
theorem gX3_passDay_X3_sellOverdue : GoodIn wsX3_passDay (wsV RX3 108 RX3 yX3_sellOverdue wsX3_sellOverdue) := goodIn_app (goodIn_of _ (by decide +kernel)) ggX3_passDay_X3_sellOverdue
set_option maxRecDepth 20000 in
theorem ggX3_tryDeed_X2_wantedBy : GoodIn wsX3_tryDeed wsX2_wantedBy := goodIn_r _ [7, 8, 9, 10, 11, 35, 36, 37, 38, 39, 40, 41, 42, 43, 44, 45] (by decide +kernel) (by decide +kernel)
set_option maxRecDepth 20000 in
theorem gX3_tryDeed_X2_wantedBy : GoodIn wsX3_tryDeed (wsV RX3 111 RX2 yX2_wantedBy wsX2_wantedBy) := goodIn_app (goodIn_of _ (by decide +kernel)) ggX3_tryDeed_X2_wantedBy
set_option maxRecDepth 20000 in
theorem ggX3_tryDeed_X3_standingOf : GoodIn wsX3_tryDeed wsX3_standingOf := goodIn_r _ [16, 2, 9, 10, 11, 33, 34] (by decide +kernel) (by decide +kernel)
set_option maxRecDepth 20000 in
theorem gX3_tryDeed_X3_standingOf : GoodIn wsX3_tryDeed (wsV RX3 50 RX3 yX3_standingOf wsX3_standingOf) := goodIn_app (goodIn_of _ (by decide +kernel)) ggX3_tryDeed_X3_standingOf
set_option maxRecDepth 20000 in
theorem ggX3_tryDeed_X5_put : GoodIn wsX3_tryDeed wsX5_put := goodIn_r _ [18] (by decide +kernel) (by decide +kernel)
set_option maxRecDepth 20000 in
theorem gX3_tryDeed_X5_put_n25 : GoodIn wsX3_tryDeed (wsX5_put) := ggX3_tryDeed_X5_put
set_option maxRecDepth 20000 in
theorem ggX3_tryDeed_X2_ownerOf : GoodIn wsX3_tryDeed wsX2_ownerOf := goodIn_r _ [22, 23, 9, 10, 11, 35, 36, 37, 38, 39, 40, 41, 42, 43, 44, 45] (by decide +kernel) (by decide +kernel)
set_option maxRecDepth 20000 in
theorem gX3_tryDeed_X2_ownerOf : GoodIn wsX3_tryDeed (wsV RX3 76 RX2 yX2_ownerOf wsX2_ownerOf) := goodIn_app (goodIn_of _ (by decide +kernel)) ggX3_tryDeed_X2_ownerOf
set_option maxRecDepth 20000 in
theorem ggX3_tryDeed_X2_rewardOf : GoodIn wsX3_tryDeed wsX2_rewardOf := goodIn_r _ [27, 28, 9, 10, 11, 35, 36, 37, 38, 39, 40, 41, 42, 43, 44, 45] (by decide +kernel) (by decide +kernel)
set_option maxRecDepth 20000 in
theorem gX3_tryDeed_X2_rewardOf : GoodIn wsX3_tryDeed (wsV RX3 114 RX2 yX2_rewardOf wsX2_rewardOf) := goodIn_app (goodIn_of _ (by decide +kernel)) ggX3_tryDeed_X2_rewardOf
set_option maxRecDepth 20000 in
theorem ggX3_tryDeed_X3_pay : GoodIn wsX3_tryDeed wsX3_pay := goodIn_r _ [32, 2, 9, 10, 11, 17, 18, 33, 34] (by decide +kernel) (by decide +kernel)
set_option maxRecDepth 20000 in
theorem gX3_tryDeed_X3_pay : GoodIn wsX3_tryDeed (wsV RX3 92 RX3 yX3_pay wsX3_pay) := goodIn_app (goodIn_of _ (by decide +kernel)) ggX3_tryDeed_X3_pay
set_option maxRecDepth 20000 in
theorem ggX3_sellOverdue_X3_standingOf : GoodIn wsX3_sellOverdue wsX3_standingOf := goodIn_r _ [7, 2, 8, 9, 10, 27, 28] (by decide +kernel) (by decide +kernel)
set_option maxRecDepth 20000 in
theorem gX3_sellOverdue_X3_standingOf : GoodIn wsX3_sellOverdue (wsV RX3 50 RX3 yX3_standingOf wsX3_standingOf) := goodIn_app (goodIn_of _ (by decide +kernel)) ggX3_sellOverdue_X3_standingOf
set_option maxRecDepth 20000 in
theorem ggX3_sellOverdue_X3_today : GoodIn wsX3_sellOverdue wsX3_today := goodIn_r _ [14, 2, 8, 9, 10, 27, 28] (by decide +kernel) (by decide +kernel)
set_option maxRecDepth 20000 in
theorem gX3_sellOverdue_X3_today : GoodIn wsX3_sellOverdue (wsV RX3 65 RX3 yX3_today wsX3_today) := goodIn_app (goodIn_of _ (by decide +kernel)) ggX3_sellOverdue_X3_today
set_option maxRecDepth 20000 in
theorem ggX3_sellOverdue_X3_pledgedOn : GoodIn wsX3_sellOverdue wsX3_pledgedOn := goodIn_r _ [18, 2, 8, 9, 10, 27, 28] (by decide +kernel) (by decide +kernel)
set_option maxRecDepth 20000 in
theorem gX3_sellOverdue_X3_pledgedOn : GoodIn wsX3_sellOverdue (wsV RX3 69 RX3 yX3_pledgedOn wsX3_pledgedOn) := goodIn_app (goodIn_of _ (by decide +kernel)) ggX3_sellOverdue_X3_pledgedOn
set_option maxRecDepth 20000 in
theorem ggX3_sellOverdue_X2_kindOf : GoodIn wsX3_sellOverdue wsX2_kindOf := goodIn_r _ [23, 24, 8, 9, 10, 29, 30, 31, 32, 33, 34, 35, 36, 37, 38, 39] (by decide +kernel) (by decide +kernel)
set_option maxRecDepth 20000 in
theorem gX3_sellOverdue_X2_kindOf : GoodIn wsX3_sellOverdue (wsV RX3 59 RX2 yX2_kindOf wsX2_kindOf) := goodIn_app (goodIn_of _ (by decide +kernel)) ggX3_sellOverdue_X2_kindOf
set_option maxRecDepth 20000 in
theorem ggX3_sellOverdue_X5_put : GoodIn wsX3_sellOverdue wsX5_put := goodIn_r _ [26] (by decide +kernel) (by decide +kernel)
set_option maxRecDepth 20000 in
theorem gX3_sellOverdue_X5_put_n25 : GoodIn wsX3_sellOverdue (wsX5_put) := ggX3_sellOverdue_X5_put
set_option maxRecDepth 20000 in
theorem ggX3_deedsInTheEnd_X3_passDay : GoodIn wsX3_deedsInTheEnd wsX3_passDay := goodIn_r _ [5, 6, 7, 8, 9, 10, 11, 12, 13, 14, 15, 16, 17, 18, 19, 4, 20, 21, 22, 23, 24, 25, 26, 27, 28, 29, 30, 31, 32, 33, 34, 35, 36, 37, 38, 39, 40, 41, 42, 43, 44, 45, 46, 47, 48, 49, 50, 51, 52, 53, 54, 55, 56, 57, 58, 59, 60, 61, 62, 71, 72, 73, 74, 75, 76, 77, 78, 79, 80, 81, 82, 83] (by decide +kernel) (by decide +kernel)
set_option maxRecDepth 20000 in
theorem gX3_deedsInTheEnd_X3_passDay : GoodIn wsX3_deedsInTheEnd (wsV RX3 117 RX3 yX3_passDay wsX3_passDay) := goodIn_app (goodIn_of _ (by decide +kernel)) ggX3_deedsInTheEnd_X3_passDay
set_option maxRecDepth 20000 in
theorem ggX3_deedsInTheEnd_X3_deedsThatAre : GoodIn wsX3_deedsInTheEnd wsX3_deedsThatAre := goodIn_r _ [66, 6, 67, 68, 69, 4, 70, 7, 14, 15, 16, 71, 72, 73, 74, 75, 76, 77, 78, 79, 80, 81, 82, 83] (by decide +kernel) (by decide +kernel)
set_option maxRecDepth 20000 in
theorem gX3_deedsInTheEnd_X3_deedsThatAre : GoodIn wsX3_deedsInTheEnd (wsV RX3 120 RX3 yX3_deedsThatAre wsX3_deedsThatAre) := goodIn_app (goodIn_of _ (by decide +kernel)) ggX3_deedsInTheEnd_X3_deedsThatAre
set_option maxRecDepth 20000 in
theorem ggX3_sellAllBut_X5_put : GoodIn wsX3_sellAllBut wsX5_put := goodIn_r _ [5] (by decide +kernel) (by decide +kernel)
set_option maxRecDepth 20000 in
theorem gX3_sellAllBut_X5_put_n25 : GoodIn wsX3_sellAllBut (wsX5_put) := ggX3_sellAllBut_X5_put
set_option maxRecDepth 20000 in
theorem ggX3_settle_X3_standingOf : GoodIn wsX3_settle wsX3_standingOf := goodIn_r _ [7, 2, 8, 9, 10, 13, 14] (by decide +kernel) (by decide +kernel)
set_option maxRecDepth 20000 in
theorem gX3_settle_X3_standingOf : GoodIn wsX3_settle (wsV RX3 50 RX3 yX3_standingOf wsX3_standingOf) := goodIn_app (goodIn_of _ (by decide +kernel)) ggX3_settle_X3_standingOf
set_option maxRecDepth 20000 in
theorem ggX3_settle_X5_put : GoodIn wsX3_settle wsX5_put := goodIn_r _ [12] (by decide +kernel) (by decide +kernel)
set_option maxRecDepth 20000 in
theorem gX3_settle_X5_put_n25 : GoodIn wsX3_settle (wsX5_put) := ggX3_settle_X5_put
set_option maxRecDepth 20000 in
theorem ggX3_goesThrough_X3_tryGive : GoodIn wsX3_goesThrough wsX3_tryGive := goodIn_r _ [6, 1, 7, 8, 9, 10, 11, 12, 13, 14, 15, 5, 16, 17, 18, 19, 20, 21, 22, 121, 122, 123, 124, 125, 126, 127, 128, 129, 130, 131, 132, 133] (by decide +kernel) (by decide +kernel)
set_option maxRecDepth 20000 in
theorem gX3_goesThrough_X3_tryGive : GoodIn wsX3_goesThrough (wsV RX3 123 RX3 yX3_tryGive wsX3_tryGive) := goodIn_app (goodIn_of _ (by decide +kernel)) ggX3_goesThrough_X3_tryGive
set_option maxRecDepth 20000 in
theorem ggX3_goesThrough_X2_hasPerson : GoodIn wsX3_goesThrough wsX2_hasPerson := goodIn_r _ [11, 12, 123, 124, 125, 126, 127, 128, 129, 130, 131, 132, 133] (by decide +kernel) (by decide +kernel)
set_option maxRecDepth 20000 in
theorem gX3_goesThrough_X2_hasPerson : GoodIn wsX3_goesThrough (wsV RX3 99 RX2 yX2_hasPerson wsX2_hasPerson) := goodIn_app (goodIn_of _ (by decide +kernel)) ggX3_goesThrough_X2_hasPerson
end
section
set_option maxRecDepth 20000 in
theorem ggX3_goesThrough_X3_purseOf : GoodIn wsX3_goesThrough wsX3_purseOf := goodIn_r _ [26, 17, 18, 19, 20, 121, 122] (by decide +kernel) (by decide +kernel)
set_option maxRecDepth 20000 in
theorem gX3_goesThrough_X3_purseOf : GoodIn wsX3_goesThrough (wsV RX3 44 RX3 yX3_purseOf wsX3_purseOf) := goodIn_app (goodIn_of _ (by decide +kernel)) ggX3_goesThrough_X3_purseOf
set_option maxRecDepth 20000 in
theorem ggX3_goesThrough_X3_passDay : GoodIn wsX3_goesThrough wsX3_passDay := goodIn_r _ [30, 1, 17, 31, 32, 33, 10, 34, 35, 18, 19, 20, 36, 37, 38, 5, 39, 40, 41, 42, 43, 44, 45, 46, 47, 48, 49, 50, 51, 52, 21, 22, 53, 54, 55, 56, 57, 58, 59, 60, 61, 62, 13, 14, 15, 16, 63, 64, 65, 66, 67, 68, 69, 70, 71, 72, 73, 74, 75, 121, 122, 123, 124, 125, 126, 127, 128, 129, 130, 131, 132, 133] (by decide +kernel) (by decide +kernel)
set_option maxRecDepth 20000 in
theorem gX3_goesThrough_X3_passDay : GoodIn wsX3_goesThrough (wsV RX3 117 RX3 yX3_passDay wsX3_passDay) := goodIn_app (goodIn_of _ (by decide +kernel)) ggX3_goesThrough_X3_passDay
set_option maxRecDepth 20000 in
theorem ggX3_goesThrough_X3_tryPledge : GoodIn wsX3_goesThrough wsX3_tryPledge := goodIn_r _ [79, 1, 17, 80, 81, 82, 5, 83, 84, 85, 86, 10, 87, 88, 49, 50, 51, 52, 18, 19, 20, 89, 90, 91, 92, 93, 94, 95, 96, 97, 53, 54, 55, 56, 57, 13, 14, 15, 16, 21, 22, 36, 37, 38, 39, 121, 122, 123, 124, 125, 126, 127, 128, 129, 130, 131, 132, 133] (by decide +kernel) (by decide +kernel)
set_option maxRecDepth 20000 in
theorem gX3_goesThrough_X3_tryPledge : GoodIn wsX3_goesThrough (wsV RX3 127 RX3 yX3_tryPledge wsX3_tryPledge) := goodIn_app (goodIn_of _ (by decide +kernel)) ggX3_goesThrough_X3_tryPledge
set_option maxRecDepth 20000 in
theorem ggX3_goesThrough_X3_tryRedeem : GoodIn wsX3_goesThrough wsX3_tryRedeem := goodIn_r _ [101, 1, 17, 102, 103, 104, 5, 105, 84, 85, 86, 10, 87, 88, 49, 50, 51, 52, 18, 19, 20, 53, 54, 55, 56, 57, 23, 24, 25, 26, 106, 107, 108, 109, 71, 72, 73, 74, 75, 93, 94, 95, 96, 97, 36, 37, 38, 39, 67, 68, 69, 70, 110, 111, 13, 14, 15, 16, 21, 22, 89, 90, 91, 92, 121, 122, 123, 124, 125, 126, 127, 128, 129, 130, 131, 132, 133] (by decide +kernel) (by decide +kernel)
set_option maxRecDepth 20000 in
theorem gX3_goesThrough_X3_tryRedeem : GoodIn wsX3_goesThrough (wsV RX3 130 RX3 yX3_tryRedeem wsX3_tryRedeem) := goodIn_app (goodIn_of _ (by decide +kernel)) ggX3_goesThrough_X3_tryRedeem
set_option maxRecDepth 20000 in
theorem ggX3_goesThrough_X2_hasDeed : GoodIn wsX3_goesThrough wsX2_hasDeed := goodIn_r _ [115, 116, 123, 124, 125, 126, 127, 128, 129, 130, 131, 132, 133] (by decide +kernel) (by decide +kernel)
set_option maxRecDepth 20000 in
theorem gX3_goesThrough_X2_hasDeed : GoodIn wsX3_goesThrough (wsV RX3 133 RX2 yX2_hasDeed wsX2_hasDeed) := goodIn_app (goodIn_of _ (by decide +kernel)) ggX3_goesThrough_X2_hasDeed
set_option maxRecDepth 20000 in
theorem ggX3_goesThrough_X3_outcomeOf : GoodIn wsX3_goesThrough wsX3_outcomeOf := goodIn_r _ [120, 17, 18, 19, 20, 121, 122] (by decide +kernel) (by decide +kernel)
set_option maxRecDepth 20000 in
theorem gX3_goesThrough_X3_outcomeOf : GoodIn wsX3_goesThrough (wsV RX3 56 RX3 yX3_outcomeOf wsX3_outcomeOf) := goodIn_app (goodIn_of _ (by decide +kernel)) ggX3_goesThrough_X3_outcomeOf
set_option maxRecDepth 20000 in
theorem ggX3_chances_X3_tryPledge : GoodIn wsX3_chances wsX3_tryPledge := goodIn_r _ [5, 6, 7, 8, 9, 10, 4, 11, 12, 13, 14, 15, 16, 17, 18, 19, 20, 21, 22, 23, 24, 25, 26, 27, 28, 29, 30, 31, 32, 33, 34, 35, 36, 37, 38, 39, 40, 41, 42, 43, 44, 45, 46, 47, 48, 112, 113, 114, 115, 116, 117, 118, 119, 120, 121, 122, 123, 124] (by decide +kernel) (by decide +kernel)
set_option maxRecDepth 20000 in
theorem gX3_chances_X3_tryPledge : GoodIn wsX3_chances (wsV RX3 127 RX3 yX3_tryPledge wsX3_tryPledge) := goodIn_app (goodIn_of _ (by decide +kernel)) ggX3_chances_X3_tryPledge
set_option maxRecDepth 20000 in
theorem ggX3_chances_X3_tryRedeem : GoodIn wsX3_chances wsX3_tryRedeem := goodIn_r _ [52, 6, 7, 53, 54, 55, 4, 56, 12, 13, 14, 15, 16, 17, 18, 19, 20, 21, 22, 23, 24, 34, 35, 36, 37, 38, 57, 58, 59, 60, 61, 62, 63, 64, 65, 66, 67, 68, 69, 29, 30, 31, 32, 33, 45, 46, 47, 48, 70, 71, 72, 73, 74, 75, 39, 40, 41, 42, 43, 44, 25, 26, 27, 28, 112, 113, 114, 115, 116, 117, 118, 119, 120, 121, 122, 123, 124] (by decide +kernel) (by decide +kernel)
set_option maxRecDepth 20000 in
theorem gX3_chances_X3_tryRedeem : GoodIn wsX3_chances (wsV RX3 130 RX3 yX3_tryRedeem wsX3_tryRedeem) := goodIn_app (goodIn_of _ (by decide +kernel)) ggX3_chances_X3_tryRedeem
set_option maxRecDepth 20000 in
theorem ggX3_chances_X3_tryGive : GoodIn wsX3_chances wsX3_tryGive := goodIn_r _ [79, 6, 80, 81, 82, 15, 83, 84, 39, 40, 41, 4, 42, 7, 22, 23, 24, 43, 44, 112, 113, 114, 115, 116, 117, 118, 119, 120, 121, 122, 123, 124] (by decide +kernel) (by decide +kernel)
set_option maxRecDepth 20000 in
theorem gX3_chances_X3_tryGive : GoodIn wsX3_chances (wsV RX3 123 RX3 yX3_tryGive wsX3_tryGive) := goodIn_app (goodIn_of _ (by decide +kernel)) ggX3_chances_X3_tryGive
set_option maxRecDepth 20000 in
theorem ggX3_chances_X3_passDay : GoodIn wsX3_chances wsX3_passDay := goodIn_r _ [88, 6, 7, 89, 90, 91, 15, 92, 93, 22, 23, 24, 45, 46, 47, 4, 48, 94, 95, 96, 97, 98, 99, 100, 101, 102, 18, 19, 20, 21, 43, 44, 34, 35, 36, 37, 38, 103, 104, 105, 106, 107, 39, 40, 41, 42, 108, 109, 110, 111, 70, 71, 72, 73, 65, 66, 67, 68, 69, 112, 113, 114, 115, 116, 117, 118, 119, 120, 121, 122, 123, 124] (by decide +kernel) (by decide +kernel)
set_option maxRecDepth 20000 in
theorem gX3_chances_X3_passDay : GoodIn wsX3_chances (wsV RX3 117 RX3 yX3_passDay wsX3_passDay) := goodIn_app (goodIn_of _ (by decide +kernel)) ggX3_chances_X3_passDay
set_option maxRecDepth 20000 in
theorem ggX4_append_X5_put : GoodIn wsX4_append wsX5_put := goodIn_r _ [5] (by decide +kernel) (by decide +kernel)
set_option maxRecDepth 20000 in
theorem gX4_append_X5_put_n19 : GoodIn wsX4_append (wsX5_put) := ggX4_append_X5_put
set_option maxRecDepth 20000 in
theorem ggX4_readInto_X2_clear : GoodIn wsX4_readInto wsX2_clear := goodIn_r _ [7, 8, 9, 10, 11, 65, 66, 67, 68, 69, 70, 71, 72, 73, 74, 75] (by decide +kernel) (by decide +kernel)
set_option maxRecDepth 20000 in
theorem gX4_readInto_X2_clear : GoodIn wsX4_readInto (wsV RX4 23 RX2 yX2_clear wsX2_clear) := goodIn_app (goodIn_of _ (by decide +kernel)) ggX4_readInto_X2_clear
set_option maxRecDepth 20000 in
theorem ggX4_readInto_X4_upcoming : GoodIn wsX4_readInto wsX4_upcoming := goodIn_r _ [16, 1, 2, 17, 18, 19, 20, 62, 63, 64] (by decide +kernel) (by decide +kernel)
set_option maxRecDepth 20000 in
theorem gX4_readInto_X4_upcoming : GoodIn wsX4_readInto (wsV RX4 31 RX4 yX4_upcoming wsX4_upcoming) := goodIn_app (goodIn_of _ (by decide +kernel)) ggX4_readInto_X4_upcoming
set_option maxRecDepth 20000 in
theorem ggX4_readInto_X4_figure : GoodIn wsX4_readInto wsX4_figure := goodIn_r _ [24, 1, 12, 13, 14, 15, 16, 2, 17, 18, 19, 20, 62, 63, 64] (by decide +kernel) (by decide +kernel)
set_option maxRecDepth 20000 in
theorem gX4_readInto_X4_figure : GoodIn wsX4_readInto (wsV RX4 35 RX4 yX4_figure wsX4_figure) := goodIn_app (goodIn_of _ (by decide +kernel)) ggX4_readInto_X4_figure
set_option maxRecDepth 20000 in
theorem ggX4_readInto_X4_readThing : GoodIn wsX4_readInto wsX4_readThing := goodIn_r _ [28, 1, 12, 13, 14, 15, 16, 2, 17, 18, 19, 20, 29, 30, 31, 32, 21, 22, 23, 24, 33, 34, 35, 6, 36, 37, 9, 38, 39, 40, 41, 42, 43, 44, 45, 46, 47, 48, 10, 49, 50, 51, 52, 53, 54, 55, 56, 57, 58, 59, 11, 60, 61, 65, 66, 67, 68, 69, 70, 71, 72, 73, 74, 75, 62, 63, 64] (by decide +kernel) (by decide +kernel)
set_option maxRecDepth 20000 in
theorem gX4_readInto_X4_readThing : GoodIn wsX4_readInto (wsV RX4 42 RX4 yX4_readThing wsX4_readThing) := goodIn_app (goodIn_of _ (by decide +kernel)) ggX4_readInto_X4_readThing
set_option maxRecDepth 20000 in
theorem ggX4_readThing_X4_upcoming : GoodIn wsX4_readThing wsX4_upcoming := goodIn_r _ [6, 1, 7, 8, 9, 10, 11, 64, 65, 66] (by decide +kernel) (by decide +kernel)
set_option maxRecDepth 20000 in
theorem gX4_readThing_X4_upcoming : GoodIn wsX4_readThing (wsV RX4 31 RX4 yX4_upcoming wsX4_upcoming) := goodIn_app (goodIn_of _ (by decide +kernel)) ggX4_readThing_X4_upcoming
set_option maxRecDepth 20000 in
theorem ggX4_readThing_X4_readPerson : GoodIn wsX4_readThing wsX4_readPerson := goodIn_r _ [15, 16, 17, 18, 5, 19, 1, 2, 3, 4, 6, 7, 8, 9, 10, 11, 20, 21, 22, 23, 24, 25, 26, 27, 28, 64, 65, 66, 53, 54, 55, 56, 57, 58, 59, 60, 61, 62, 63] (by decide +kernel) (by decide +kernel)
set_option maxRecDepth 20000 in
theorem gX4_readThing_X4_readPerson : GoodIn wsX4_readThing (wsV RX4 49 RX4 yX4_readPerson wsX4_readPerson) := goodIn_app (goodIn_of _ (by decide +kernel)) ggX4_readThing_X4_readPerson
set_option maxRecDepth 20000 in
theorem ggX4_readThing_X4_readQuality : GoodIn wsX4_readThing wsX4_readQuality := goodIn_r _ [32, 16, 17, 18, 5, 19, 1, 2, 3, 4, 6, 7, 8, 9, 10, 11, 33, 34, 35, 23, 36, 37, 38, 39, 40, 27, 28, 53, 54, 55, 56, 57, 58, 59, 60, 61, 62, 63, 64, 65, 66] (by decide +kernel) (by decide +kernel)
set_option maxRecDepth 20000 in
theorem gX4_readThing_X4_readQuality : GoodIn wsX4_readThing (wsV RX4 55 RX4 yX4_readQuality wsX4_readQuality) := goodIn_app (goodIn_of _ (by decide +kernel)) ggX4_readThing_X4_readQuality
set_option maxRecDepth 20000 in
theorem ggX4_readThing_X4_readDeed : GoodIn wsX4_readThing wsX4_readDeed := goodIn_r _ [44, 16, 17, 18, 5, 19, 1, 2, 3, 4, 6, 7, 8, 9, 10, 11, 45, 46, 47, 23, 48, 49, 50, 51, 52, 27, 28, 53, 54, 55, 56, 57, 58, 59, 60, 61, 62, 63, 64, 65, 66] (by decide +kernel) (by decide +kernel)
set_option maxRecDepth 20000 in
theorem gX4_readThing_X4_readDeed : GoodIn wsX4_readThing (wsV RX4 61 RX4 yX4_readDeed wsX4_readDeed) := goodIn_app (goodIn_of _ (by decide +kernel)) ggX4_readThing_X4_readDeed
set_option maxRecDepth 20000 in
theorem ggX4_readPerson_X4_figure : GoodIn wsX4_readPerson wsX4_figure := goodIn_r _ [5, 6, 7, 8, 9, 4, 10, 11, 12, 13, 14, 15, 25, 26, 27] (by decide +kernel) (by decide +kernel)
set_option maxRecDepth 20000 in
theorem gX4_readPerson_X4_figure : GoodIn wsX4_readPerson (wsV RX4 35 RX4 yX4_figure wsX4_figure) := goodIn_app (goodIn_of _ (by decide +kernel)) ggX4_readPerson_X4_figure
set_option maxRecDepth 20000 in
theorem ggX4_readPerson_X2_addPerson : GoodIn wsX4_readPerson wsX2_addPerson := goodIn_r _ [20, 21, 22, 23, 14, 24, 28, 29, 30, 31, 32, 33, 34, 35, 36, 37, 38] (by decide +kernel) (by decide +kernel)
set_option maxRecDepth 20000 in
theorem gX4_readPerson_X2_addPerson : GoodIn wsX4_readPerson (wsV RX4 64 RX2 yX2_addPerson wsX2_addPerson) := goodIn_app (goodIn_of _ (by decide +kernel)) ggX4_readPerson_X2_addPerson
set_option maxRecDepth 20000 in
theorem ggX4_readQuality_X4_figure : GoodIn wsX4_readQuality wsX4_figure := goodIn_r _ [5, 6, 7, 8, 9, 4, 10, 11, 12, 13, 14, 15, 38, 39, 40] (by decide +kernel) (by decide +kernel)
set_option maxRecDepth 20000 in
theorem gX4_readQuality_X4_figure : GoodIn wsX4_readQuality (wsV RX4 35 RX4 yX4_figure wsX4_figure) := goodIn_app (goodIn_of _ (by decide +kernel)) ggX4_readQuality_X4_figure
set_option maxRecDepth 20000 in
theorem ggX4_readQuality_X2_addQuality : GoodIn wsX4_readQuality wsX2_addQuality := goodIn_r _ [20, 21, 22, 23, 24, 25, 14, 26, 27, 28, 29, 30, 31, 32, 33, 34, 35, 36, 37] (by decide +kernel) (by decide +kernel)
set_option maxRecDepth 20000 in
theorem gX4_readQuality_X2_addQuality : GoodIn wsX4_readQuality (wsV RX4 68 RX2 yX2_addQuality wsX2_addQuality) := goodIn_app (goodIn_of _ (by decide +kernel)) ggX4_readQuality_X2_addQuality
set_option maxRecDepth 20000 in
theorem ggX4_readDeed_X4_figure : GoodIn wsX4_readDeed wsX4_figure := goodIn_r _ [5, 6, 7, 8, 9, 4, 10, 11, 12, 13, 14, 15, 38, 39, 40] (by decide +kernel) (by decide +kernel)
set_option maxRecDepth 20000 in
theorem gX4_readDeed_X4_figure : GoodIn wsX4_readDeed (wsV RX4 35 RX4 yX4_figure wsX4_figure) := goodIn_app (goodIn_of _ (by decide +kernel)) ggX4_readDeed_X4_figure
set_option maxRecDepth 20000 in
theorem ggX4_readDeed_X2_addDeed : GoodIn wsX4_readDeed wsX2_addDeed := goodIn_r _ [20, 21, 22, 23, 24, 25, 14, 26, 27, 28, 29, 30, 31, 32, 33, 34, 35, 36, 37] (by decide +kernel) (by decide +kernel)
set_option maxRecDepth 20000 in
theorem gX4_readDeed_X2_addDeed : GoodIn wsX4_readDeed (wsV RX4 72 RX2 yX2_addDeed wsX2_addDeed) := goodIn_app (goodIn_of _ (by decide +kernel)) ggX4_readDeed_X2_addDeed
set_option maxRecDepth 20000 in
theorem ggX4_upcoming_X5_cell : GoodIn wsX4_upcoming wsX5_cell := goodIn_r _ [6] (by decide +kernel) (by decide +kernel)
set_option maxRecDepth 20000 in
theorem gX4_upcoming_X5_cell_n75 : GoodIn wsX4_upcoming (wsX5_cell) := ggX4_upcoming_X5_cell
set_option maxRecDepth 20000 in
theorem ggX4_figure_X4_upcoming : GoodIn wsX4_figure wsX4_upcoming := goodIn_r _ [6, 1, 7, 8, 9, 10, 11, 12, 13, 14] (by decide +kernel) (by decide +kernel)
set_option maxRecDepth 20000 in
theorem gX4_figure_X4_upcoming : GoodIn wsX4_figure (wsV RX4 31 RX4 yX4_upcoming wsX4_upcoming) := goodIn_app (goodIn_of _ (by decide +kernel)) ggX4_figure_X4_upcoming
set_option maxRecDepth 20000 in
theorem ggX5_init_X4_init : GoodIn wsX5_init wsX4_init := goodIn_r _ [29, 30, 2, 3, 26, 31, 57, 58, 59] (by decide +kernel) (by decide +kernel)
set_option maxRecDepth 20000 in
theorem gX5_init_X4_init_n11 : GoodIn wsX5_init (wsX4_init) := ggX5_init_X4_init
set_option maxRecDepth 20000 in
theorem ggX5_init_X2_init : GoodIn wsX5_init wsX2_init := goodIn_r _ [33, 34, 2, 3, 26, 35, 36, 37, 38, 39, 40, 41, 70, 71, 72, 73, 74, 75, 76, 77, 78, 79, 80] (by decide +kernel) (by decide +kernel)
set_option maxRecDepth 20000 in
theorem gX5_init_X2_init_n18 : GoodIn wsX5_init (wsX2_init) := ggX5_init_X2_init
set_option maxRecDepth 20000 in
theorem ggX5_init_X3_init : GoodIn wsX5_init wsX3_init := goodIn_r _ [44, 45, 2, 3, 26, 46, 47, 81, 82] (by decide +kernel) (by decide +kernel)
set_option maxRecDepth 20000 in
theorem gX5_init_X3_init : GoodIn wsX5_init (wsX3_init) := ggX5_init_X3_init
set_option maxRecDepth 20000 in
theorem ggX5_init_X0_init : GoodIn wsX5_init wsX0_init := goodIn_r _ [49, 50, 2, 3, 26, 51, 83, 84, 85] (by decide +kernel) (by decide +kernel)
set_option maxRecDepth 20000 in
theorem gX5_init_X0_init_n40 : GoodIn wsX5_init (wsX0_init) := ggX5_init_X0_init
set_option maxRecDepth 20000 in
theorem ggX5_init_X1_init : GoodIn wsX5_init wsX1_init := goodIn_r _ [53, 54, 2, 3, 26, 55, 56, 86, 87, 88] (by decide +kernel) (by decide +kernel)
set_option maxRecDepth 20000 in
theorem gX5_init_X1_init_n47 : GoodIn wsX5_init (wsX1_init) := ggX5_init_X1_init
set_option maxRecDepth 20000 in
theorem ggX5_write_X4_append : GoodIn wsX5_write wsX4_append := goodIn_r _ [6, 7, 8, 9, 10, 11, 22, 23, 24] (by decide +kernel) (by decide +kernel)
set_option maxRecDepth 20000 in
theorem gX5_write_X4_append : GoodIn wsX5_write (wsV RX5 60 RX4 yX4_append wsX4_append) := goodIn_app (goodIn_of _ (by decide +kernel)) ggX5_write_X4_append
set_option maxRecDepth 20000 in
theorem ggX5_fault_X4_readInto : GoodIn wsX5_fault wsX4_readInto := goodIn_r _ [7, 8, 9, 10, 11, 12, 13, 14, 15, 16, 17, 18, 19, 20, 21, 6, 22, 23, 24, 25, 26, 27, 28, 29, 30, 31, 32, 33, 34, 35, 36, 37, 38, 39, 40, 41, 42, 43, 44, 45, 46, 47, 48, 49, 50, 51, 52, 53, 54, 55, 56, 57, 58, 59, 60, 61, 62, 63, 64, 65, 66, 67, 78, 79, 80, 81, 82, 83, 84, 85, 86, 87, 88, 89, 90, 91] (by decide +kernel) (by decide +kernel)
set_option maxRecDepth 20000 in
theorem gX5_fault_X4_readInto : GoodIn wsX5_fault (wsV RX5 64 RX4 yX4_readInto wsX4_readInto) := goodIn_app (goodIn_of _ (by decide +kernel)) ggX5_fault_X4_readInto
set_option maxRecDepth 20000 in
theorem ggX5_shop_X4_readInto : GoodIn wsX5_shop wsX4_readInto := goodIn_r _ [11, 12, 13, 14, 15, 16, 17, 18, 19, 20, 21, 22, 23, 24, 25, 10, 26, 27, 28, 29, 30, 31, 32, 33, 34, 35, 36, 37, 38, 39, 40, 41, 42, 43, 44, 45, 46, 47, 48, 49, 50, 51, 52, 53, 54, 55, 56, 57, 58, 59, 60, 61, 62, 63, 64, 65, 66, 67, 68, 69, 70, 71, 110, 111, 112, 99, 100, 101, 102, 103, 104, 105, 106, 107, 108, 109] (by decide +kernel) (by decide +kernel)
set_option maxRecDepth 20000 in
theorem gX5_shop_X4_readInto : GoodIn wsX5_shop (wsV RX5 64 RX4 yX4_readInto wsX4_readInto) := goodIn_app (goodIn_of _ (by decide +kernel)) ggX5_shop_X4_readInto
set_option maxRecDepth 20000 in
theorem ggX5_shop_X3_begin : GoodIn wsX5_shop wsX3_begin := goodIn_r _ [76, 77, 78, 48, 29, 49, 79, 80, 81, 17, 82, 47, 28, 30, 113, 114, 99, 100, 101, 102, 103, 104, 105, 106, 107, 108, 109] (by decide +kernel) (by decide +kernel)
set_option maxRecDepth 20000 in
theorem gX5_shop_X3_begin : GoodIn wsX5_shop (wsV RX5 68 RX3 yX3_begin wsX3_begin) := goodIn_app (goodIn_of _ (by decide +kernel)) ggX5_shop_X3_begin
set_option maxRecDepth 20000 in
theorem ggX5_shop_X0_forget : GoodIn wsX5_shop wsX0_forget := goodIn_r _ [87, 88, 115, 116, 117] (by decide +kernel) (by decide +kernel)
set_option maxRecDepth 20000 in
theorem gX5_shop_X0_forget : GoodIn wsX5_shop (wsV RX5 71 RX0 yX0_forget wsX0_forget) := goodIn_app (goodIn_of _ (by decide +kernel)) ggX5_shop_X0_forget
set_option maxRecDepth 20000 in
theorem ggX5_about_X3_today : GoodIn wsX5_about wsX3_today := goodIn_r _ [10, 11, 12, 13, 14, 66, 67] (by decide +kernel) (by decide +kernel)
set_option maxRecDepth 20000 in
theorem gX5_about_X3_today : GoodIn wsX5_about (wsV RX5 86 RX3 yX3_today wsX3_today) := goodIn_app (goodIn_of _ (by decide +kernel)) ggX5_about_X3_today
set_option maxRecDepth 20000 in
theorem ggX5_about_X3_inTill : GoodIn wsX5_about wsX3_inTill := goodIn_r _ [18, 11, 12, 13, 14, 66, 67] (by decide +kernel) (by decide +kernel)
set_option maxRecDepth 20000 in
theorem gX5_about_X3_inTill : GoodIn wsX5_about (wsV RX5 90 RX3 yX3_inTill wsX3_inTill) := goodIn_app (goodIn_of _ (by decide +kernel)) ggX5_about_X3_inTill
set_option maxRecDepth 20000 in
theorem ggX5_about_X3_qualitiesThatAre : GoodIn wsX5_about wsX3_qualitiesThatAre := goodIn_r _ [22, 23, 24, 25, 26, 9, 27, 11, 12, 13, 14, 66, 67, 46, 47, 48, 49, 50, 51, 52, 53, 54, 55, 56] (by decide +kernel) (by decide +kernel)
set_option maxRecDepth 20000 in
theorem gX5_about_X3_qualitiesThatAre : GoodIn wsX5_about (wsV RX5 93 RX3 yX3_qualitiesThatAre wsX3_qualitiesThatAre) := goodIn_app (goodIn_of _ (by decide +kernel)) ggX5_about_X3_qualitiesThatAre
set_option maxRecDepth 20000 in
theorem ggX5_about_X3_deedsThatAre : GoodIn wsX5_about wsX3_deedsThatAre := goodIn_r _ [31, 23, 32, 33, 34, 9, 35, 11, 12, 13, 14, 66, 67, 46, 47, 48, 49, 50, 51, 52, 53, 54, 55, 56] (by decide +kernel) (by decide +kernel)
set_option maxRecDepth 20000 in
theorem gX5_about_X3_deedsThatAre : GoodIn wsX5_about (wsV RX5 97 RX3 yX3_deedsThatAre wsX3_deedsThatAre) := goodIn_app (goodIn_of _ (by decide +kernel)) ggX5_about_X3_deedsThatAre
set_option maxRecDepth 20000 in
theorem ggX5_person_X2_hasPerson : GoodIn wsX5_person wsX2_hasPerson := goodIn_r _ [7, 8, 48, 49, 50, 51, 52, 53, 54, 55, 56, 57, 58] (by decide +kernel) (by decide +kernel)
set_option maxRecDepth 20000 in
theorem gX5_person_X2_hasPerson : GoodIn wsX5_person (wsV RX5 104 RX2 yX2_hasPerson wsX2_hasPerson) := goodIn_app (goodIn_of _ (by decide +kernel)) ggX5_person_X2_hasPerson
set_option maxRecDepth 20000 in
theorem ggX5_person_X3_purseOf : GoodIn wsX5_person wsX3_purseOf := goodIn_r _ [13, 14, 15, 16, 17, 59, 60] (by decide +kernel) (by decide +kernel)
set_option maxRecDepth 20000 in
theorem gX5_person_X3_purseOf : GoodIn wsX5_person (wsV RX5 108 RX3 yX3_purseOf wsX3_purseOf) := goodIn_app (goodIn_of _ (by decide +kernel)) ggX5_person_X3_purseOf
set_option maxRecDepth 20000 in
theorem ggX5_person_X2_qualitiesOf : GoodIn wsX5_person wsX2_qualitiesOf := goodIn_r _ [21, 22, 23, 24, 25, 6, 26, 27, 15, 16, 17, 48, 49, 50, 51, 52, 53, 54, 55, 56, 57, 58] (by decide +kernel) (by decide +kernel)
set_option maxRecDepth 20000 in
theorem gX5_person_X2_qualitiesOf : GoodIn wsX5_person (wsV RX5 111 RX2 yX2_qualitiesOf wsX2_qualitiesOf) := goodIn_app (goodIn_of _ (by decide +kernel)) ggX5_person_X2_qualitiesOf
set_option maxRecDepth 20000 in
theorem ggX5_person_X2_deedsOf : GoodIn wsX5_person wsX2_deedsOf := goodIn_r _ [31, 32, 33, 34, 35, 6, 36, 37, 15, 16, 17, 23, 24, 25, 26, 27, 48, 49, 50, 51, 52, 53, 54, 55, 56, 57, 58] (by decide +kernel) (by decide +kernel)
set_option maxRecDepth 20000 in
theorem gX5_person_X2_deedsOf : GoodIn wsX5_person (wsV RX5 114 RX2 yX2_deedsOf wsX2_deedsOf) := goodIn_app (goodIn_of _ (by decide +kernel)) ggX5_person_X2_deedsOf
set_option maxRecDepth 20000 in
theorem ggX5_quality_X2_hasQuality : GoodIn wsX5_quality wsX2_hasQuality := goodIn_r _ [7, 8, 62, 63, 64, 65, 66, 67, 68, 69, 70, 71, 72] (by decide +kernel) (by decide +kernel)
set_option maxRecDepth 20000 in
theorem gX5_quality_X2_hasQuality : GoodIn wsX5_quality (wsV RX5 117 RX2 yX2_hasQuality wsX2_hasQuality) := goodIn_app (goodIn_of _ (by decide +kernel)) ggX5_quality_X2_hasQuality
set_option maxRecDepth 20000 in
theorem ggX5_quality_X2_ownerOf : GoodIn wsX5_quality wsX2_ownerOf := goodIn_r _ [12, 13, 14, 15, 16, 62, 63, 64, 65, 66, 67, 68, 69, 70, 71, 72] (by decide +kernel) (by decide +kernel)
set_option maxRecDepth 20000 in
theorem gX5_quality_X2_ownerOf : GoodIn wsX5_quality (wsV RX5 120 RX2 yX2_ownerOf wsX2_ownerOf) := goodIn_app (goodIn_of _ (by decide +kernel)) ggX5_quality_X2_ownerOf
set_option maxRecDepth 20000 in
theorem ggX5_quality_X2_worthOf : GoodIn wsX5_quality wsX2_worthOf := goodIn_r _ [20, 21, 14, 15, 16, 62, 63, 64, 65, 66, 67, 68, 69, 70, 71, 72] (by decide +kernel) (by decide +kernel)
set_option maxRecDepth 20000 in
theorem gX5_quality_X2_worthOf : GoodIn wsX5_quality (wsV RX5 123 RX2 yX2_worthOf wsX2_worthOf) := goodIn_app (goodIn_of _ (by decide +kernel)) ggX5_quality_X2_worthOf
set_option maxRecDepth 20000 in
theorem ggX5_quality_X2_kindOf : GoodIn wsX5_quality wsX2_kindOf := goodIn_r _ [25, 26, 14, 15, 16, 62, 63, 64, 65, 66, 67, 68, 69, 70, 71, 72] (by decide +kernel) (by decide +kernel)
set_option maxRecDepth 20000 in
theorem gX5_quality_X2_kindOf : GoodIn wsX5_quality (wsV RX5 126 RX2 yX2_kindOf wsX2_kindOf) := goodIn_app (goodIn_of _ (by decide +kernel)) ggX5_quality_X2_kindOf
set_option maxRecDepth 20000 in
theorem ggX5_quality_X3_standingOf : GoodIn wsX5_quality wsX3_standingOf := goodIn_r _ [31, 32, 14, 15, 16, 73, 74] (by decide +kernel) (by decide +kernel)
set_option maxRecDepth 20000 in
theorem gX5_quality_X3_standingOf : GoodIn wsX5_quality (wsV RX5 129 RX3 yX3_standingOf wsX3_standingOf) := goodIn_app (goodIn_of _ (by decide +kernel)) ggX5_quality_X3_standingOf
set_option maxRecDepth 20000 in
theorem ggX5_quality_X3_pledgedOn : GoodIn wsX5_quality wsX3_pledgedOn := goodIn_r _ [36, 32, 14, 15, 16, 73, 74] (by decide +kernel) (by decide +kernel)
set_option maxRecDepth 20000 in
theorem gX5_quality_X3_pledgedOn : GoodIn wsX5_quality (wsV RX5 132 RX3 yX3_pledgedOn wsX3_pledgedOn) := goodIn_app (goodIn_of _ (by decide +kernel)) ggX5_quality_X3_pledgedOn
set_option maxRecDepth 20000 in
theorem ggX5_quality_X3_owedFor : GoodIn wsX5_quality wsX3_owedFor := goodIn_r _ [40, 41, 42, 28, 29, 30, 31, 32, 14, 15, 16, 43, 23, 24, 6, 25, 26, 44, 18, 19, 20, 21, 45, 46, 47, 48, 49, 34, 35, 36, 50, 51, 73, 74, 62, 63, 64, 65, 66, 67, 68, 69, 70, 71, 72] (by decide +kernel) (by decide +kernel)
set_option maxRecDepth 20000 in
theorem gX5_quality_X3_owedFor : GoodIn wsX5_quality (wsV RX5 135 RX3 yX3_owedFor wsX3_owedFor) := goodIn_app (goodIn_of _ (by decide +kernel)) ggX5_quality_X3_owedFor
set_option maxRecDepth 20000 in
theorem ggX5_deed_X2_hasDeed : GoodIn wsX5_deed wsX2_hasDeed := goodIn_r _ [7, 8, 43, 44, 45, 46, 47, 48, 49, 50, 51, 52, 53] (by decide +kernel) (by decide +kernel)
set_option maxRecDepth 20000 in
theorem gX5_deed_X2_hasDeed : GoodIn wsX5_deed (wsV RX5 138 RX2 yX2_hasDeed wsX2_hasDeed) := goodIn_app (goodIn_of _ (by decide +kernel)) ggX5_deed_X2_hasDeed
set_option maxRecDepth 20000 in
theorem ggX5_deed_X2_wantedBy : GoodIn wsX5_deed wsX2_wantedBy := goodIn_r _ [12, 13, 14, 15, 16, 43, 44, 45, 46, 47, 48, 49, 50, 51, 52, 53] (by decide +kernel) (by decide +kernel)
set_option maxRecDepth 20000 in
theorem gX5_deed_X2_wantedBy : GoodIn wsX5_deed (wsV RX5 141 RX2 yX2_wantedBy wsX2_wantedBy) := goodIn_app (goodIn_of _ (by decide +kernel)) ggX5_deed_X2_wantedBy
set_option maxRecDepth 20000 in
theorem ggX5_deed_X2_dayOf : GoodIn wsX5_deed wsX2_dayOf := goodIn_r _ [20, 21, 14, 15, 16, 43, 44, 45, 46, 47, 48, 49, 50, 51, 52, 53] (by decide +kernel) (by decide +kernel)
set_option maxRecDepth 20000 in
theorem gX5_deed_X2_dayOf : GoodIn wsX5_deed (wsV RX5 144 RX2 yX2_dayOf wsX2_dayOf) := goodIn_app (goodIn_of _ (by decide +kernel)) ggX5_deed_X2_dayOf
set_option maxRecDepth 20000 in
theorem ggX5_deed_X2_rewardOf : GoodIn wsX5_deed wsX2_rewardOf := goodIn_r _ [25, 26, 14, 15, 16, 43, 44, 45, 46, 47, 48, 49, 50, 51, 52, 53] (by decide +kernel) (by decide +kernel)
set_option maxRecDepth 20000 in
theorem gX5_deed_X2_rewardOf : GoodIn wsX5_deed (wsV RX5 147 RX2 yX2_rewardOf wsX2_rewardOf) := goodIn_app (goodIn_of _ (by decide +kernel)) ggX5_deed_X2_rewardOf
set_option maxRecDepth 20000 in
theorem ggX5_deed_X3_outcomeOf : GoodIn wsX5_deed wsX3_outcomeOf := goodIn_r _ [31, 32, 14, 15, 16, 54, 55] (by decide +kernel) (by decide +kernel)
set_option maxRecDepth 20000 in
theorem gX5_deed_X3_outcomeOf : GoodIn wsX5_deed (wsV RX5 150 RX3 yX3_outcomeOf wsX3_outcomeOf) := goodIn_app (goodIn_of _ (by decide +kernel)) ggX5_deed_X3_outcomeOf
set_option maxRecDepth 20000 in
theorem ggX5_day_X0_remember : GoodIn wsX5_day wsX0_remember := goodIn_r _ [7, 8, 9, 10, 11, 12, 13, 14, 15, 16, 17, 18, 19, 87, 88, 89, 90, 91] (by decide +kernel) (by decide +kernel)
set_option maxRecDepth 20000 in
theorem gX5_day_X0_remember : GoodIn wsX5_day (wsV RX5 153 RX0 yX0_remember wsX0_remember) := goodIn_app (goodIn_of _ (by decide +kernel)) ggX5_day_X0_remember
set_option maxRecDepth 20000 in
theorem ggX5_day_X3_passDay : GoodIn wsX5_day wsX3_passDay := goodIn_r _ [23, 24, 16, 25, 26, 27, 28, 29, 30, 31, 18, 32, 33, 34, 35, 14, 36, 37, 38, 39, 40, 41, 42, 43, 44, 45, 46, 47, 48, 49, 17, 19, 50, 51, 52, 53, 54, 55, 56, 57, 58, 59, 60, 61, 62, 63, 64, 65, 66, 67, 68, 69, 70, 71, 72, 73, 74, 75, 76, 90, 91, 92, 93, 94, 95, 96, 97, 98, 99, 100, 101, 102] (by decide +kernel) (by decide +kernel)
set_option maxRecDepth 20000 in
theorem gX5_day_X3_passDay : GoodIn wsX5_day (wsV RX5 157 RX3 yX3_passDay wsX3_passDay) := goodIn_app (goodIn_of _ (by decide +kernel)) ggX5_day_X3_passDay
set_option maxRecDepth 20000 in
theorem ggX5_pledge_X2_hasQuality : GoodIn wsX5_pledge wsX2_hasQuality := goodIn_r _ [8, 9, 77, 78, 79, 80, 81, 82, 83, 84, 85, 86, 87] (by decide +kernel) (by decide +kernel)
set_option maxRecDepth 20000 in
theorem gX5_pledge_X2_hasQuality : GoodIn wsX5_pledge (wsV RX5 117 RX2 yX2_hasQuality wsX2_hasQuality) := goodIn_app (goodIn_of _ (by decide +kernel)) ggX5_pledge_X2_hasQuality
set_option maxRecDepth 20000 in
theorem ggX5_pledge_X3_canPledge : GoodIn wsX5_pledge wsX3_canPledge := goodIn_r _ [14, 15, 16, 5, 6, 7, 8, 9, 17, 18, 19, 13, 20, 21, 22, 23, 24, 25, 26, 27, 28, 29, 30, 31, 32, 33, 88, 89, 77, 78, 79, 80, 81, 82, 83, 84, 85, 86, 87] (by decide +kernel) (by decide +kernel)
set_option maxRecDepth 20000 in
theorem gX5_pledge_X3_canPledge : GoodIn wsX5_pledge (wsV RX5 160 RX3 yX3_canPledge wsX3_canPledge) := goodIn_app (goodIn_of _ (by decide +kernel)) ggX5_pledge_X3_canPledge
set_option maxRecDepth 20000 in
theorem ggX5_pledge_X0_remember : GoodIn wsX5_pledge wsX0_remember := goodIn_r _ [38, 39, 40, 41, 42, 43, 44, 13, 45, 21, 46, 23, 47, 90, 91, 92, 88, 89] (by decide +kernel) (by decide +kernel)
set_option maxRecDepth 20000 in
theorem gX5_pledge_X0_remember : GoodIn wsX5_pledge (wsV RX5 153 RX0 yX0_remember wsX0_remember) := goodIn_app (goodIn_of _ (by decide +kernel)) ggX5_pledge_X0_remember
set_option maxRecDepth 20000 in
theorem ggX5_pledge_X3_tryPledge : GoodIn wsX5_pledge wsX3_tryPledge := goodIn_r _ [51, 15, 21, 52, 11, 12, 13, 14, 16, 5, 6, 7, 8, 9, 17, 18, 19, 20, 22, 23, 24, 25, 26, 27, 28, 29, 30, 31, 32, 33, 53, 54, 55, 56, 57, 58, 59, 60, 61, 46, 47, 62, 63, 64, 65, 88, 89, 77, 78, 79, 80, 81, 82, 83, 84, 85, 86, 87] (by decide +kernel) (by decide +kernel)
set_option maxRecDepth 20000 in
theorem gX5_pledge_X3_tryPledge : GoodIn wsX5_pledge (wsV RX5 163 RX3 yX3_tryPledge wsX3_tryPledge) := goodIn_app (goodIn_of _ (by decide +kernel)) ggX5_pledge_X3_tryPledge
set_option maxRecDepth 20000 in
theorem ggX5_pledge_X3_inTill : GoodIn wsX5_pledge wsX3_inTill := goodIn_r _ [28, 21, 22, 23, 24, 88, 89] (by decide +kernel) (by decide +kernel)
set_option maxRecDepth 20000 in
theorem gX5_pledge_X3_inTill : GoodIn wsX5_pledge (wsV RX5 90 RX3 yX3_inTill wsX3_inTill) := goodIn_app (goodIn_of _ (by decide +kernel)) ggX5_pledge_X3_inTill
set_option maxRecDepth 20000 in
theorem ggX5_redeem_X2_hasQuality : GoodIn wsX5_redeem wsX2_hasQuality := goodIn_r _ [8, 9, 97, 98, 99, 100, 101, 102, 103, 104, 105, 106, 107] (by decide +kernel) (by decide +kernel)
set_option maxRecDepth 20000 in
theorem gX5_redeem_X2_hasQuality : GoodIn wsX5_redeem (wsV RX5 117 RX2 yX2_hasQuality wsX2_hasQuality) := goodIn_app (goodIn_of _ (by decide +kernel)) ggX5_redeem_X2_hasQuality
set_option maxRecDepth 20000 in
theorem ggX5_redeem_X3_canRedeem : GoodIn wsX5_redeem wsX3_canRedeem := goodIn_r _ [14, 15, 16, 5, 6, 7, 8, 9, 17, 18, 19, 13, 20, 21, 22, 23, 24, 25, 26, 27, 28, 29, 30, 31, 32, 33, 34, 35, 36, 37, 38, 39, 40, 41, 42, 43, 44, 45, 46, 47, 48, 49, 50, 51, 52, 53, 54, 55, 56, 57, 108, 109, 97, 98, 99, 100, 101, 102, 103, 104, 105, 106, 107] (by decide +kernel) (by decide +kernel)
set_option maxRecDepth 20000 in
theorem gX5_redeem_X3_canRedeem : GoodIn wsX5_redeem (wsV RX5 166 RX3 yX3_canRedeem wsX3_canRedeem) := goodIn_app (goodIn_of _ (by decide +kernel)) ggX5_redeem_X3_canRedeem
set_option maxRecDepth 20000 in
theorem ggX5_redeem_X0_remember : GoodIn wsX5_redeem wsX0_remember := goodIn_r _ [62, 63, 64, 65, 66, 67, 68, 13, 69, 21, 70, 23, 71, 110, 111, 112, 108, 109] (by decide +kernel) (by decide +kernel)
set_option maxRecDepth 20000 in
theorem gX5_redeem_X0_remember : GoodIn wsX5_redeem (wsV RX5 153 RX0 yX0_remember wsX0_remember) := goodIn_app (goodIn_of _ (by decide +kernel)) ggX5_redeem_X0_remember
set_option maxRecDepth 20000 in
theorem ggX5_redeem_X3_tryRedeem : GoodIn wsX5_redeem wsX3_tryRedeem := goodIn_r _ [75, 15, 21, 76, 11, 12, 13, 14, 16, 5, 6, 7, 8, 9, 17, 18, 19, 20, 22, 23, 24, 25, 26, 27, 28, 29, 30, 31, 32, 33, 34, 35, 36, 37, 38, 39, 40, 41, 42, 43, 44, 45, 46, 47, 48, 49, 50, 51, 52, 53, 54, 55, 56, 57, 77, 78, 79, 80, 70, 71, 81, 82, 83, 84, 108, 109, 97, 98, 99, 100, 101, 102, 103, 104, 105, 106, 107] (by decide +kernel) (by decide +kernel)
set_option maxRecDepth 20000 in
theorem gX5_redeem_X3_tryRedeem : GoodIn wsX5_redeem (wsV RX5 169 RX3 yX3_tryRedeem wsX3_tryRedeem) := goodIn_app (goodIn_of _ (by decide +kernel)) ggX5_redeem_X3_tryRedeem
set_option maxRecDepth 20000 in
theorem ggX5_redeem_X2_ownerOf : GoodIn wsX5_redeem wsX2_ownerOf := goodIn_r _ [28, 29, 22, 23, 24, 97, 98, 99, 100, 101, 102, 103, 104, 105, 106, 107] (by decide +kernel) (by decide +kernel)
set_option maxRecDepth 20000 in
theorem gX5_redeem_X2_ownerOf : GoodIn wsX5_redeem (wsV RX5 120 RX2 yX2_ownerOf wsX2_ownerOf) := goodIn_app (goodIn_of _ (by decide +kernel)) ggX5_redeem_X2_ownerOf
set_option maxRecDepth 20000 in
theorem ggX5_redeem_X3_purseOf : GoodIn wsX5_redeem wsX3_purseOf := goodIn_r _ [33, 21, 22, 23, 24, 108, 109] (by decide +kernel) (by decide +kernel)
set_option maxRecDepth 20000 in
theorem gX5_redeem_X3_purseOf : GoodIn wsX5_redeem (wsV RX5 108 RX3 yX3_purseOf wsX3_purseOf) := goodIn_app (goodIn_of _ (by decide +kernel)) ggX5_redeem_X3_purseOf
set_option maxRecDepth 20000 in
theorem ggX5_give_X2_hasPerson : GoodIn wsX5_give wsX2_hasPerson := goodIn_r _ [8, 9, 53, 54, 55, 56, 57, 58, 59, 60, 61, 62, 63] (by decide +kernel) (by decide +kernel)
set_option maxRecDepth 20000 in
theorem gX5_give_X2_hasPerson : GoodIn wsX5_give (wsV RX5 104 RX2 yX2_hasPerson wsX2_hasPerson) := goodIn_app (goodIn_of _ (by decide +kernel)) ggX5_give_X2_hasPerson
set_option maxRecDepth 20000 in
theorem ggX5_give_X0_remember : GoodIn wsX5_give wsX0_remember := goodIn_r _ [14, 15, 16, 17, 18, 19, 20, 21, 22, 23, 24, 25, 26, 64, 65, 66, 67, 68] (by decide +kernel) (by decide +kernel)
set_option maxRecDepth 20000 in
theorem gX5_give_X0_remember : GoodIn wsX5_give (wsV RX5 153 RX0 yX0_remember wsX0_remember) := goodIn_app (goodIn_of _ (by decide +kernel)) ggX5_give_X0_remember
set_option maxRecDepth 20000 in
theorem ggX5_give_X3_tryGive : GoodIn wsX5_give wsX3_tryGive := goodIn_r _ [30, 31, 32, 5, 6, 7, 8, 9, 33, 34, 35, 21, 36, 23, 37, 25, 38, 24, 26, 67, 68, 53, 54, 55, 56, 57, 58, 59, 60, 61, 62, 63] (by decide +kernel) (by decide +kernel)
set_option maxRecDepth 20000 in
theorem gX5_give_X3_tryGive : GoodIn wsX5_give (wsV RX5 172 RX3 yX3_tryGive wsX3_tryGive) := goodIn_app (goodIn_of _ (by decide +kernel)) ggX5_give_X3_tryGive
set_option maxRecDepth 20000 in
theorem ggX5_give_X3_purseOf : GoodIn wsX5_give wsX3_purseOf := goodIn_r _ [42, 23, 37, 25, 38, 67, 68] (by decide +kernel) (by decide +kernel)
set_option maxRecDepth 20000 in
theorem gX5_give_X3_purseOf : GoodIn wsX5_give (wsV RX5 108 RX3 yX3_purseOf wsX3_purseOf) := goodIn_app (goodIn_of _ (by decide +kernel)) ggX5_give_X3_purseOf
set_option maxRecDepth 20000 in
theorem ggX5_undo_X0_takeBack : GoodIn wsX5_undo wsX0_takeBack := goodIn_r _ [7, 8, 9, 10, 11, 12, 13, 14, 15, 16, 17, 18, 19, 30, 31, 32, 33, 34] (by decide +kernel) (by decide +kernel)
set_option maxRecDepth 20000 in
theorem gX5_undo_X0_takeBack : GoodIn wsX5_undo (wsV RX5 176 RX0 yX0_takeBack wsX0_takeBack) := goodIn_app (goodIn_of _ (by decide +kernel)) ggX5_undo_X0_takeBack
set_option maxRecDepth 20000 in
theorem ggX5_due_X2_hasQuality : GoodIn wsX5_due wsX2_hasQuality := goodIn_r _ [7, 8, 107, 108, 109, 110, 111, 112, 113, 114, 115, 116, 117] (by decide +kernel) (by decide +kernel)
set_option maxRecDepth 20000 in
theorem gX5_due_X2_hasQuality : GoodIn wsX5_due (wsV RX5 117 RX2 yX2_hasQuality wsX2_hasQuality) := goodIn_app (goodIn_of _ (by decide +kernel)) ggX5_due_X2_hasQuality
set_option maxRecDepth 20000 in
theorem ggX5_due_X5_isNoDaysAhead : GoodIn wsX5_due wsX5_isNoDaysAhead := goodIn_r _ [12] (by decide +kernel) (by decide +kernel)
set_option maxRecDepth 20000 in
theorem gX5_due_X5_isNoDaysAhead : GoodIn wsX5_due (va_wsS RX5 179 yX5_isNoDaysAhead wsX5_isNoDaysAhead) := goodIn_app (goodIn_of _ (by decide +kernel)) ggX5_due_X5_isNoDaysAhead
set_option maxRecDepth 20000 in
theorem ggX5_due_X5_lookAhead : GoodIn wsX5_due wsX5_lookAhead := goodIn_r _ [16, 2, 17, 18, 19, 20, 21, 22, 23, 24, 25, 26, 27, 28, 11, 29, 30, 31, 32, 33, 34, 35, 36, 37, 6, 38, 39, 40, 41, 42, 43, 44, 45, 46, 47, 48, 49, 50, 51, 52, 53, 54, 55, 56, 57, 58, 59, 60, 61, 62, 63, 64, 65, 66, 67, 68, 69, 70, 71, 72, 73, 74, 75, 76, 77, 78, 79, 80, 81, 82, 83, 84, 85, 97, 98, 99, 100, 101, 102, 103, 104, 105, 106, 118, 119, 107, 108, 109, 110, 111, 112, 113, 114, 115, 116, 117] (by decide +kernel) (by decide +kernel)
set_option maxRecDepth 20000 in
theorem gX5_due_X5_lookAhead : GoodIn wsX5_due (wsV RX5 182 RX5 yX5_lookAhead wsX5_lookAhead) := goodIn_app (goodIn_of _ (by decide +kernel)) ggX5_due_X5_lookAhead
set_option maxRecDepth 20000 in
theorem ggX5_due_X3_owedFor : GoodIn wsX5_due wsX3_owedFor := goodIn_r _ [89, 34, 55, 56, 57, 21, 58, 23, 40, 11, 41, 81, 82, 83, 6, 84, 85, 90, 91, 92, 93, 94, 42, 43, 44, 45, 77, 78, 79, 80, 95, 96, 118, 119, 107, 108, 109, 110, 111, 112, 113, 114, 115, 116, 117] (by decide +kernel) (by decide +kernel)
set_option maxRecDepth 20000 in
theorem gX5_due_X3_owedFor : GoodIn wsX5_due (wsV RX5 135 RX3 yX3_owedFor wsX3_owedFor) := goodIn_app (goodIn_of _ (by decide +kernel)) ggX5_due_X3_owedFor
set_option maxRecDepth 20000 in
theorem ggX5_done_X5_isNoDaysAhead : GoodIn wsX5_done wsX5_isNoDaysAhead := goodIn_r _ [5] (by decide +kernel) (by decide +kernel)
set_option maxRecDepth 20000 in
theorem gX5_done_X5_isNoDaysAhead : GoodIn wsX5_done (va_wsS RX5 179 yX5_isNoDaysAhead wsX5_isNoDaysAhead) := goodIn_app (goodIn_of _ (by decide +kernel)) ggX5_done_X5_isNoDaysAhead
set_option maxRecDepth 20000 in
theorem ggX5_done_X5_lookAhead : GoodIn wsX5_done wsX5_lookAhead := goodIn_r _ [9, 1, 10, 11, 12, 13, 14, 15, 16, 17, 18, 19, 20, 21, 4, 22, 23, 24, 25, 26, 27, 28, 29, 30, 31, 32, 33, 34, 35, 36, 37, 38, 39, 40, 41, 42, 43, 44, 45, 46, 47, 48, 49, 50, 51, 52, 53, 54, 55, 56, 57, 58, 59, 60, 61, 62, 63, 64, 65, 66, 67, 68, 69, 70, 71, 72, 73, 74, 75, 76, 77, 78, 79, 88, 89, 90, 91, 92, 93, 94, 95, 96, 97, 98, 99, 100, 101, 102, 103, 104, 105, 106, 107, 108, 109, 110] (by decide +kernel) (by decide +kernel)
set_option maxRecDepth 20000 in
theorem gX5_done_X5_lookAhead : GoodIn wsX5_done (wsV RX5 182 RX5 yX5_lookAhead wsX5_lookAhead) := goodIn_app (goodIn_of _ (by decide +kernel)) ggX5_done_X5_lookAhead
set_option maxRecDepth 20000 in
theorem ggX5_done_X3_deedsThatAre : GoodIn wsX5_done wsX3_deedsThatAre := goodIn_r _ [83, 27, 84, 85, 86, 14, 87, 16, 34, 4, 35, 98, 99, 100, 101, 102, 103, 104, 105, 106, 107, 108, 109, 110] (by decide +kernel) (by decide +kernel)
set_option maxRecDepth 20000 in
theorem gX5_done_X3_deedsThatAre : GoodIn wsX5_done (wsV RX5 97 RX3 yX3_deedsThatAre wsX3_deedsThatAre) := goodIn_app (goodIn_of _ (by decide +kernel)) ggX5_done_X3_deedsThatAre
set_option maxRecDepth 20000 in
theorem ggX5_coins_X2_hasPerson : GoodIn wsX5_coins wsX2_hasPerson := goodIn_r _ [7, 8, 100, 101, 102, 103, 104, 105, 106, 107, 108, 109, 110] (by decide +kernel) (by decide +kernel)
set_option maxRecDepth 20000 in
theorem gX5_coins_X2_hasPerson : GoodIn wsX5_coins (wsV RX5 104 RX2 yX2_hasPerson wsX2_hasPerson) := goodIn_app (goodIn_of _ (by decide +kernel)) ggX5_coins_X2_hasPerson
set_option maxRecDepth 20000 in
theorem ggX5_coins_X5_isNoDaysAhead : GoodIn wsX5_coins wsX5_isNoDaysAhead := goodIn_r _ [12] (by decide +kernel) (by decide +kernel)
set_option maxRecDepth 20000 in
theorem gX5_coins_X5_isNoDaysAhead : GoodIn wsX5_coins (va_wsS RX5 179 yX5_isNoDaysAhead wsX5_isNoDaysAhead) := goodIn_app (goodIn_of _ (by decide +kernel)) ggX5_coins_X5_isNoDaysAhead
set_option maxRecDepth 20000 in
theorem ggX5_coins_X5_lookAhead : GoodIn wsX5_coins wsX5_lookAhead := goodIn_r _ [16, 2, 17, 18, 19, 20, 21, 22, 23, 24, 25, 26, 27, 28, 11, 29, 30, 31, 32, 33, 34, 35, 36, 37, 6, 38, 39, 40, 41, 42, 43, 44, 45, 46, 47, 48, 49, 50, 51, 52, 53, 54, 55, 56, 57, 58, 59, 60, 61, 62, 63, 64, 65, 66, 67, 68, 69, 70, 71, 72, 73, 74, 75, 76, 77, 78, 79, 80, 81, 82, 83, 84, 85, 90, 91, 92, 93, 94, 95, 96, 97, 98, 99, 111, 112, 100, 101, 102, 103, 104, 105, 106, 107, 108, 109, 110] (by decide +kernel) (by decide +kernel)
set_option maxRecDepth 20000 in
theorem gX5_coins_X5_lookAhead : GoodIn wsX5_coins (wsV RX5 182 RX5 yX5_lookAhead wsX5_lookAhead) := goodIn_app (goodIn_of _ (by decide +kernel)) ggX5_coins_X5_lookAhead
set_option maxRecDepth 20000 in
theorem ggX5_coins_X3_purseOf : GoodIn wsX5_coins wsX3_purseOf := goodIn_r _ [89, 23, 40, 11, 41, 111, 112] (by decide +kernel) (by decide +kernel)
set_option maxRecDepth 20000 in
theorem gX5_coins_X3_purseOf : GoodIn wsX5_coins (wsV RX5 108 RX3 yX3_purseOf wsX3_purseOf) := goodIn_app (goodIn_of _ (by decide +kernel)) ggX5_coins_X3_purseOf
set_option maxRecDepth 20000 in
theorem ggX5_raise_X2_hasPerson : GoodIn wsX5_raise wsX2_hasPerson := goodIn_r _ [6, 7, 152, 153, 154, 155, 156, 157, 158, 159, 160, 161, 162] (by decide +kernel) (by decide +kernel)
set_option maxRecDepth 20000 in
theorem gX5_raise_X2_hasPerson : GoodIn wsX5_raise (wsV RX5 104 RX2 yX2_hasPerson wsX2_hasPerson) := goodIn_app (goodIn_of _ (by decide +kernel)) ggX5_raise_X2_hasPerson
set_option maxRecDepth 20000 in
theorem ggX5_raise_X5_isNoChoice : GoodIn wsX5_raise wsX5_isNoChoice := goodIn_r _ [11] (by decide +kernel) (by decide +kernel)
set_option maxRecDepth 20000 in
theorem gX5_raise_X5_isNoChoice : GoodIn wsX5_raise (va_wsS RX5 185 yX5_isNoChoice wsX5_isNoChoice) := goodIn_app (goodIn_of _ (by decide +kernel)) ggX5_raise_X5_isNoChoice
set_option maxRecDepth 20000 in
theorem ggX5_raise_X5_deedsIfPledged : GoodIn wsX5_raise wsX5_deedsIfPledged := goodIn_r _ [15, 1, 16, 17, 18, 19, 20, 5, 21, 22, 23, 24, 25, 26, 27, 28, 10, 29, 30, 31, 32, 33, 34, 35, 36, 37, 38, 39, 40, 41, 42, 43, 44, 45, 46, 47, 48, 49, 50, 51, 52, 53, 54, 55, 56, 57, 58, 59, 60, 61, 62, 63, 64, 65, 66, 67, 68, 69, 70, 71, 72, 73, 74, 75, 76, 77, 78, 79, 80, 81, 82, 83, 84, 85, 86, 87, 88, 89, 90, 91, 92, 93, 94, 95, 96, 97, 98, 99, 100, 101, 102, 103, 104, 105, 106, 107, 108, 109, 110, 111, 112, 113, 114, 115, 116, 117, 118, 119, 120, 121, 122, 123, 124, 125, 126, 127, 128, 129, 130, 131, 132, 133, 134, 135, 136, 137, 138, 139, 140, 141, 142, 143, 144, 145, 146, 147, 148, 149, 150, 151, 152, 153, 154, 155, 156, 157, 158, 159, 160, 161, 162, 163, 164] (by decide +kernel) (by decide +kernel)
set_option maxRecDepth 20000 in
theorem gX5_raise_X5_deedsIfPledged : GoodIn wsX5_raise (wsV RX5 188 RX5 yX5_deedsIfPledged wsX5_deedsIfPledged) := goodIn_app (goodIn_of _ (by decide +kernel)) ggX5_raise_X5_deedsIfPledged
set_option maxRecDepth 20000 in
theorem ggX5_raise_J6_bitCount_0f7a4 : GoodIn wsX5_raise wsJ6_bitCount_0f7a4 := goodIn_r _ [138, 139, 140, 141] (by decide +kernel) (by decide +kernel)
set_option maxRecDepth 20000 in
theorem gX5_raise_J6_bitCount_0f7a4 : GoodIn wsX5_raise (va_wsS RX5 192 yJ6_bitCount_0f7a4 wsJ6_bitCount_0f7a4) := goodIn_app (goodIn_of _ (by decide +kernel)) ggX5_raise_J6_bitCount_0f7a4
end
section
/-! nest mates' links, all of the tables, and how they move -/
def gNF : List (String × Nat × String × String × String × String) := [("PluckBroker", 56, "PluckBroker$Text", "length", "I", "PluckBroker"), ("PluckBroker$State", 19, "PluckBroker$Plan", "tillFigure", "I", "PluckBroker"), ("PluckBroker$Text", 39, "PluckBroker$Plan", "tillFigure", "I", "PluckBroker"), ("PluckBroker$State", 29, "PluckBroker$Plan", "persons", "I", "PluckBroker"), ("PluckBroker$Text", 46, "PluckBroker$Plan", "persons", "I", "PluckBroker"), ("PluckBroker", 77, "PluckBroker$Plan", "persons", "I", "PluckBroker"), ("PluckBroker$Text", 52, "PluckBroker$Plan", "qualities", "I", "PluckBroker"), ("PluckBroker", 80, "PluckBroker$Plan", "qualities", "I", "PluckBroker"), ("PluckBroker$State", 47, "PluckBroker$Plan", "qualities", "I", "PluckBroker"), ("PluckBroker$Text", 58, "PluckBroker$Plan", "deeds", "I", "PluckBroker"), ("PluckBroker", 83, "PluckBroker$Plan", "deeds", "I", "PluckBroker"), ("PluckBroker$State", 53, "PluckBroker$Plan", "deeds", "I", "PluckBroker"), ("PluckBroker", 100, "PluckBroker$Acts", "count", "I", "PluckBroker"), ("PluckBroker", 103, "PluckBroker$Asked", "count", "I", "PluckBroker")]
def gNM : List (String × Nat × MethodName × String) := [("PluckBroker", 11, ⟨"PluckBroker$Text", "<init>", "()V"⟩, "PluckBroker"), ("PluckBroker", 18, ⟨"PluckBroker$Plan", "<init>", "()V"⟩, "PluckBroker"), ("PluckBroker", 40, ⟨"PluckBroker$Acts", "<init>", "()V"⟩, "PluckBroker"), ("PluckBroker", 47, ⟨"PluckBroker$Asked", "<init>", "()V"⟩, "PluckBroker"), ("PluckBroker$Text", 19, ⟨"PluckBroker", "put", "([III)V"⟩, "PluckBroker"), ("PluckBroker$Text", 75, ⟨"PluckBroker", "cell", "([II)I"⟩, "PluckBroker"), ("PluckBroker$Plan", 46, ⟨"PluckBroker", "put", "([III)V"⟩, "PluckBroker"), ("PluckBroker$State", 25, ⟨"PluckBroker", "put", "([III)V"⟩, "PluckBroker"), ("PluckBroker$Plan", 50, ⟨"PluckBroker", "cell", "([II)I"⟩, "PluckBroker"), ("PluckBroker$State", 40, ⟨"PluckBroker", "cell", "([II)I"⟩, "PluckBroker"), ("PluckBroker$State", 72, ⟨"PluckBroker", "dueFor", "(IIII)I"⟩, "PluckBroker"), ("PluckBroker$Asked", 22, ⟨"PluckBroker", "put", "([III)V"⟩, "PluckBroker"), ("PluckBroker$Asked", 26, ⟨"PluckBroker", "cell", "([II)I"⟩, "PluckBroker"), ("PluckBroker$Asked", 30, ⟨"PluckBroker", "dueFor", "(IIII)I"⟩, "PluckBroker")]
def gN (U : State) : Prop := (∀ q ∈ gNF, va_Nw (.fieldLinkNest q.1 q.2.1 q.2.2.1 q.2.2.2.1 q.2.2.2.2.1 q.2.2.2.2.2) U) ∧ (∀ q ∈ gNM, va_Nw (.methodLinkNest q.1 q.2.1 q.2.2.1 q.2.2.2) U)
theorem gN.warm {s U : State} (hW : s.WarmedH U.vm) (h : gN s) : gN U := ⟨fun q hq => va_Nw.warmF hW (h.1 q hq), fun q hq => va_Nw.warmM hW (h.2 q hq)⟩
theorem gN.same {u U : State} (hv : u.vm = U.vm) (h : gN u) : gN U := ⟨fun q hq => va_Nw.same rfl hv (h.1 q hq), fun q hq => va_Nw.same rfl hv (h.2 q hq)⟩
theorem gN.m {U : State} (h : gN U) (i : Nat) {a : String} {k : Nat} {x : MethodName} {b : String} (hi : gNM[i]? = some (a, k, x, b)) : va_Nw (.methodLinkNest a k x b) U := h.2 _ (List.mem_of_getElem? hi)
theorem gN.f {U : State} (h : gN U) (i : Nat) {a : String} {k : Nat} {b n d g : String} (hi : gNF[i]? = some (a, k, b, n, d, g)) : va_Nw (.fieldLinkNest a k b n d g) U := h.1 _ (List.mem_of_getElem? hi)
/-- what a body knows of its machine -/
def gCx (p : Program) (s : State) (m : MethodId) (args : Array Value) (meth : Method) (cd : Code) (D : va_G) (cI cZ : ClassId) (A : Nat → Prop) (cc : ByteArray) (nL : Nat) (Ts : List Cond) (own : String) : Prop :=
  CallFix p m cd cc nL s args Ts own ∧ va_K D vwCl [(cI, .int), (cZ, .boolean)] s ∧ gN s ∧ (∀ q : Nat, s.heap.size ≤ q → A q) ∧ meth.locks = false
/-- the goal: from this world, these locals and this stack on -/
def G (p : Program) (l : Launch) (e : Env) (R : Room) (s : State) (m : MethodId) (args : Array Value) (below : List Frame) (meth : Method) (cd : Code) (D : va_G) (A : Nat → Prop) (cells slots : Nat) (Q : State → Prop) (nL : Nat) (ws : va_W) (pc : Nat) (lv : List (Nat × Value)) (st : List Value) : Prop :=
  ∀ (H : Heap) (locs : List Loc) (ls : Array Slot), va_P D vwCl ws H → va_D A ws → va_S A s.heap H locs → lv_has ls nL lv → W p l e R s m args below meth cd H locs cells slots Q (F0 m pc ls st)
theorem va_P.subm {D : va_G} {cl : List vw_C} {ws ws' : va_W} {H : Heap} (h : va_P D cl ws H) (is : List Nat) (hs : is.map (fun i => ws[i]?) = ws'.map some) : va_P D cl ws' H := by
  intro k q hq
  have h1 : (is.map (fun i => ws[i]?))[k]? = some (some q) := by rw [hs, List.getElem?_map, hq]; rfl
  rw [List.getElem?_map] at h1
  cases hi : is[k]? with
  | none => rw [hi] at h1; cases h1
  | some i => rw [hi] at h1; exact h i q (Option.some.inj h1)
def gpre (D : va_G) (cI cZ : ClassId) (W0 : va_W) (sz : Nat) : State → Prop := fun U => U.heap.size = sz ∧ va_P D vwCl W0 U.heap ∧ va_D (fun _ => True) W0 ∧ va_K D vwCl [(cI, .int), (cZ, .boolean)] U ∧ gN U
def gpost {α : Type} (D : va_G) (A : Nat → Prop) (W1 : α → va_W) : α → State → Prop := fun a t => va_P D vwCl (W1 a) t.heap ∧ va_D A (W1 a)
/-- contracts: int (and boolean), long, nothing -/
def CtI {α : Type} (l : Launch) (y : MethodName) (wd : List Cond) (rm : Room) (D : va_G) (cI cZ : ClassId) (As : List Value) (W0 : va_W) (post : Int32 → α → Prop) (W1 : α → va_W) (mc ms : Nat) : Prop :=
  ∀ sz : Nat, Met l y wd rm (va_Pc As (gpre D cI cZ W0 sz)) (va_Qi post (gpost D (va_A W0 sz) W1) (va_A W0 sz)) mc ms (va_A W0 sz)
def CtL {α : Type} (l : Launch) (y : MethodName) (wd : List Cond) (rm : Room) (D : va_G) (cI cZ : ClassId) (As : List Value) (W0 : va_W) (post : Int64 → α → Prop) (W1 : α → va_W) (mc ms : Nat) : Prop :=
  ∀ sz : Nat, Met l y wd rm (va_Pc As (gpre D cI cZ W0 sz)) (va_Ql post (gpost D (va_A W0 sz) W1) (va_A W0 sz)) mc ms (va_A W0 sz)
def CtV {α : Type} (l : Launch) (y : MethodName) (wd : List Cond) (rm : Room) (D : va_G) (cI cZ : ClassId) (As : List Value) (W0 : va_W) (post : α → Prop) (W1 : α → va_W) (mc ms : Nat) : Prop :=
  ∀ sz : Nat, Met l y wd rm (va_Pc As (gpre D cI cZ W0 sz)) (va_Qv post (gpost D (va_A W0 sz) W1) (va_A W0 sz)) mc ms (va_A W0 sz)
theorem gpre.blind {As : List Value} {D : va_G} {cI cZ : ClassId} {W0 : va_W} {sz : Nat} : FrameBlind (va_Pc As (gpre D cI cZ W0 sz)) := fun a U g mk q =>
  ⟨q.1, q.2.1, q.2.2.1, q.2.2.2.1, va_K.moved (u := U) (U := U.calling g mk a) (Vm.Alike.refl U.vm) q.2.2.2.2.1, gN.same (u := U) (U := U.calling g mk a) rfl q.2.2.2.2.2⟩
theorem g_same {A0 : Nat → Prop} {D : va_G} {ws wc : va_W} {H H1 : Heap} (hP : va_P D vwCl ws H) (hD : va_D A0 ws) (isC : List Nat) (hC : isC.map (fun i => ws[i]?) = wc.map some) (hk : ∀ q : Nat, q < H.size → ¬ va_A wc H.size q → H1[q]? = H[q]?) (hP1 : va_P D vwCl wc H1) : va_P D vwCl ws H1 := by
  intro k q hq
  by_cases hA : va_A wc H.size q.1
  · rcases hA with ⟨k2, e, h⟩ | h
    · have h1 : (isC.map (fun i => ws[i]?))[k2]? = some (some (q.1, e)) := by rw [hC, List.getElem?_map, h]; rfl
      rw [List.getElem?_map] at h1
      cases hi : isC[k2]? with
      | none => rw [hi] at h1; cases h1
      | some i =>
        rw [hi] at h1
        have h2 : ws[i]? = some (q.1, e) := Option.some.inj h1
        have hij := hD.1 i k (q.1, e) q h2 hq rfl
        subst hij
        have : q = (q.1, e) := Option.some.inj (hq.symm.trans h2)
        rw [this]
        exact hP1 k2 _ h
    · exact absurd (hP k q hq).lt (by omega)
  · exact (hP k q hq).kept (hk q.1 (hP k q hq).lt hA)
theorem g_nd {isC isR isN : List Nat} (h : (va_nd isC && (va_nd isR && (va_nd isN && isR.all (fun i => !(isC.any (fun j => Nat.beq i j)))))) = true) : va_nd isC = true ∧ va_nd isR = true ∧ va_nd isN = true ∧ ∀ i ∈ isR, i ∉ isC := by
  simp only [Bool.and_eq_true] at h
  refine ⟨h.1, h.2.1, h.2.2.1, fun i hi hc => ?_⟩
  have h1 := List.all_eq_true.mp h.2.2.2 i hi
  have h2 : isC.any (fun j => Nat.beq i j) = true := List.any_eq_true.mpr ⟨i, hc, Nat.beq_refl i⟩
  rw [h2] at h1
  cases h1
theorem g_pick {ws : va_W} : ∀ {is : List Nat}, is.all (fun i => Nat.blt i ws.length) = true → is.map (fun i => ws[i]?) = (is.filterMap (fun i => ws[i]?)).map some
  | [], _ => rfl
  | i :: is, h => by
    simp only [List.all_cons, Bool.and_eq_true] at h
    have hi : i < ws.length := Nat.le_of_ble_eq_true h.1
    have e := g_pick h.2
    rw [List.map_cons, e, List.filterMap_cons, List.getElem?_eq_getElem hi]
    rfl
section GL
variable {p : Program} {l : Launch} {e : Env} {R : Room} {s : State} {m : MethodId} {args : Array Value} {below : List Frame} {meth : Method} {cd : Code} {D : va_G} {cI cZ : ClassId} {A : Nat → Prop} {cells slots : Nat} {Q : State → Prop} {cc : ByteArray} {nL : Nat} {Ts : List Cond} {own : String} {ws : va_W} {pc : Nat} {lv : List (Nat × Value)} {st : List Value}
theorem g_iconst (hC : gCx p s m args meth cd D cI cZ A cc nL Ts own) {n : Int} {v : Int32} (hdg : decode cc pc = .ok (.iconst n, 1)) (hv : Int32.ofInt n = v) (k : G p l e R s m args below meth cd D A cells slots Q nL ws (pc + 1) lv (.int v :: st)) : G p l e R s m args below meth cd D A cells slots Q nL ws (pc) lv (st) := fun H locs ls hP hD hS hl => lv_iconst hC.1.1 hC.1.2.1 hdg hv (k H locs ls hP hD hS hl)
theorem g_bipush (hC : gCx p s m args meth cd D cI cZ A cc nL Ts own) {n : Int} {v : Int32} (hdg : decode cc pc = .ok (.bipush n, 2)) (hv : (Int8.ofInt n).toInt32 = v) (k : G p l e R s m args below meth cd D A cells slots Q nL ws (pc + 2) lv (.int v :: st)) : G p l e R s m args below meth cd D A cells slots Q nL ws (pc) lv (st) := fun H locs ls hP hD hS hl => lv_bipush hC.1.1 hC.1.2.1 hdg hv (k H locs ls hP hD hS hl)
theorem g_sipush (hC : gCx p s m args meth cd D cI cZ A cc nL Ts own) {n : Int} {v : Int32} (hdg : decode cc pc = .ok (.sipush n, 3)) (hv : (Int16.ofInt n).toInt32 = v) (k : G p l e R s m args below meth cd D A cells slots Q nL ws (pc + 3) lv (.int v :: st)) : G p l e R s m args below meth cd D A cells slots Q nL ws (pc) lv (st) := fun H locs ls hP hD hS hl => lv_sipush hC.1.1 hC.1.2.1 hdg hv (k H locs ls hP hD hS hl)
theorem g_lconst (hC : gCx p s m args meth cd D cI cZ A cc nL Ts own) {n : Fin 2} {v : Int64} (hdg : decode cc pc = .ok (.lconst n, 1)) (hv : Int64.ofNat (n : Nat) = v) (k : G p l e R s m args below meth cd D A cells slots Q nL ws (pc + 1) lv (.long v :: st)) : G p l e R s m args below meth cd D A cells slots Q nL ws (pc) lv (st) := fun H locs ls hP hD hS hl => lv_lconst hC.1.1 hC.1.2.1 hdg hv (k H locs ls hP hD hS hl)
theorem g_ldc2 (hC : gCx p s m args meth cd D cI cZ A cc nL Ts own) {index : Nat} {v : Int64} (hw : (Cond.constantLong own index v).before args s = true) (hdg : decode cc pc = .ok (.ldc2_w index, 3)) (k : G p l e R s m args below meth cd D A cells slots Q nL ws (pc + 3) lv (.long v :: st)) : G p l e R s m args below meth cd D A cells slots Q nL ws (pc) lv (st) := fun H locs ls hP hD hS hl => lv_ldc2 hC.1.1 hC.1.2.1 hC.1.2.2.2.1 hw hdg (k H locs ls hP hD hS hl)
theorem g_ldcw (hC : gCx p s m args meth cd D cI cZ A cc nL Ts own) {index : Nat} {v : Int32} (hw : (Cond.constant own index v).before args s = true) (hdg : decode cc pc = .ok (.ldc_w index, 3)) (k : G p l e R s m args below meth cd D A cells slots Q nL ws (pc + 3) lv (.int v :: st)) : G p l e R s m args below meth cd D A cells slots Q nL ws (pc) lv (st) := fun H locs ls hP hD hS hl => lv_ldcw hC.1.1 hC.1.2.1 hC.1.2.2.2.1 hw hdg (k H locs ls hP hD hS hl)
theorem g_iload_n (hC : gCx p s m args meth cd D cI cZ A cc nL Ts own) {kf : Fin 4} {i : Nat} {x : Int32} (j : Nat) (hdg : decode cc pc = .ok (.iload_n kf, 1)) (hi : (kf : Nat) = i) (hk : lv[j]? = some (i, .int x)) (k : G p l e R s m args below meth cd D A cells slots Q nL ws (pc + 1) lv (.int x :: st)) : G p l e R s m args below meth cd D A cells slots Q nL ws (pc) lv (st) := fun H locs ls hP hD hS hl => lv_iload_n hC.1.1 hC.1.2.1 hdg hi (lv_at hl j hk) (k H locs ls hP hD hS hl)
theorem g_iload (hC : gCx p s m args meth cd D cI cZ A cc nL Ts own) {i : Nat} {x : Int32} (j : Nat) (hdg : decode cc pc = .ok (.iload i, 2)) (hk : lv[j]? = some (i, .int x)) (k : G p l e R s m args below meth cd D A cells slots Q nL ws (pc + 2) lv (.int x :: st)) : G p l e R s m args below meth cd D A cells slots Q nL ws (pc) lv (st) := fun H locs ls hP hD hS hl => lv_iload hC.1.1 hC.1.2.1 hdg (lv_at hl j hk) (k H locs ls hP hD hS hl)
theorem g_lload_n (hC : gCx p s m args meth cd D cI cZ A cc nL Ts own) {kf : Fin 4} {i : Nat} {x : Int64} (j : Nat) (hdg : decode cc pc = .ok (.lload_n kf, 1)) (hi : (kf : Nat) = i) (hk : lv[j]? = some (i, .long x)) (k : G p l e R s m args below meth cd D A cells slots Q nL ws (pc + 1) lv (.long x :: st)) : G p l e R s m args below meth cd D A cells slots Q nL ws (pc) lv (st) := fun H locs ls hP hD hS hl => lv_lload_n hC.1.1 hC.1.2.1 hdg hi (lv_at hl j hk) (k H locs ls hP hD hS hl)
theorem g_lload (hC : gCx p s m args meth cd D cI cZ A cc nL Ts own) {i : Nat} {x : Int64} (j : Nat) (hdg : decode cc pc = .ok (.lload i, 2)) (hk : lv[j]? = some (i, .long x)) (k : G p l e R s m args below meth cd D A cells slots Q nL ws (pc + 2) lv (.long x :: st)) : G p l e R s m args below meth cd D A cells slots Q nL ws (pc) lv (st) := fun H locs ls hP hD hS hl => lv_lload hC.1.1 hC.1.2.1 hdg (lv_at hl j hk) (k H locs ls hP hD hS hl)
theorem g_aload_n (hC : gCx p s m args meth cd D cI cZ A cc nL Ts own) {kf : Fin 4} {i : Nat} {x : Nat} (j : Nat) (hdg : decode cc pc = .ok (.aload_n kf, 1)) (hi : (kf : Nat) = i) (hk : lv[j]? = some (i, .ref x)) (k : G p l e R s m args below meth cd D A cells slots Q nL ws (pc + 1) lv (.ref x :: st)) : G p l e R s m args below meth cd D A cells slots Q nL ws (pc) lv (st) := fun H locs ls hP hD hS hl => lv_aload_n hC.1.1 hC.1.2.1 hdg hi (lv_at hl j hk) (k H locs ls hP hD hS hl)
theorem g_istore_n (hC : gCx p s m args meth cd D cI cZ A cc nL Ts own) {kf : Fin 4} {i : Nat} {x : Int32} {lv' : List (Nat × Value)} (ks : List Nat) (hdg : decode cc pc = .ok (.istore_n kf, 1)) (hi : (kf : Nat) = i) (hn : i < nL) (hl2 : lv_pick ((i, Value.int x) :: lv.filter (fun q => !(q.1 == i) && !(q.1 + 1 == i && q.2.category == 2))) ks = lv') (k : G p l e R s m args below meth cd D A cells slots Q nL ws (pc + 1) lv' (st)) : G p l e R s m args below meth cd D A cells slots Q nL ws (pc) lv (.int x :: st) := fun H locs ls hP hD hS hl => lv_istore_n hC.1.1 hC.1.2.1 hdg hi hl hn rfl (fun ls2 hl3 => k H locs ls2 hP hD hS (lv_sub hl3 ks hl2))
theorem g_istore (hC : gCx p s m args meth cd D cI cZ A cc nL Ts own) {i : Nat} {x : Int32} {lv' : List (Nat × Value)} (ks : List Nat) (hdg : decode cc pc = .ok (.istore i, 2)) (hn : i < nL) (hl2 : lv_pick ((i, Value.int x) :: lv.filter (fun q => !(q.1 == i) && !(q.1 + 1 == i && q.2.category == 2))) ks = lv') (k : G p l e R s m args below meth cd D A cells slots Q nL ws (pc + 2) lv' (st)) : G p l e R s m args below meth cd D A cells slots Q nL ws (pc) lv (.int x :: st) := fun H locs ls hP hD hS hl => lv_istore hC.1.1 hC.1.2.1 hdg hl hn rfl (fun ls2 hl3 => k H locs ls2 hP hD hS (lv_sub hl3 ks hl2))
theorem g_lstore_n (hC : gCx p s m args meth cd D cI cZ A cc nL Ts own) {kf : Fin 4} {i : Nat} {x : Int64} {lv' : List (Nat × Value)} (ks : List Nat) (hdg : decode cc pc = .ok (.lstore_n kf, 1)) (hi : (kf : Nat) = i) (hn : i + 1 < nL) (hl2 : lv_pick ((i, Value.long x) :: lv.filter (fun q => !(q.1 == i) && (!(q.1 == i + 1) && !(q.1 + 1 == i && q.2.category == 2)))) ks = lv') (k : G p l e R s m args below meth cd D A cells slots Q nL ws (pc + 1) lv' (st)) : G p l e R s m args below meth cd D A cells slots Q nL ws (pc) lv (.long x :: st) := fun H locs ls hP hD hS hl => lv_lstore_n hC.1.1 hC.1.2.1 hdg hi hl hn rfl (fun ls2 hl3 => k H locs ls2 hP hD hS (lv_sub hl3 ks hl2))
theorem g_lstore (hC : gCx p s m args meth cd D cI cZ A cc nL Ts own) {i : Nat} {x : Int64} {lv' : List (Nat × Value)} (ks : List Nat) (hdg : decode cc pc = .ok (.lstore i, 2)) (hn : i + 1 < nL) (hl2 : lv_pick ((i, Value.long x) :: lv.filter (fun q => !(q.1 == i) && (!(q.1 == i + 1) && !(q.1 + 1 == i && q.2.category == 2)))) ks = lv') (k : G p l e R s m args below meth cd D A cells slots Q nL ws (pc + 2) lv' (st)) : G p l e R s m args below meth cd D A cells slots Q nL ws (pc) lv (.long x :: st) := fun H locs ls hP hD hS hl => lv_lstore hC.1.1 hC.1.2.1 hdg hl hn rfl (fun ls2 hl3 => k H locs ls2 hP hD hS (lv_sub hl3 ks hl2))
theorem g_astore_n (hC : gCx p s m args meth cd D cI cZ A cc nL Ts own) {kf : Fin 4} {i : Nat} {x : Nat} {lv' : List (Nat × Value)} (ks : List Nat) (hdg : decode cc pc = .ok (.astore_n kf, 1)) (hi : (kf : Nat) = i) (hn : i < nL) (hl2 : lv_pick ((i, Value.ref x) :: lv.filter (fun q => !(q.1 == i) && !(q.1 + 1 == i && q.2.category == 2))) ks = lv') (k : G p l e R s m args below meth cd D A cells slots Q nL ws (pc + 1) lv' (st)) : G p l e R s m args below meth cd D A cells slots Q nL ws (pc) lv (.ref x :: st) := fun H locs ls hP hD hS hl => lv_astore_n hC.1.1 hC.1.2.1 hdg hi hl hn rfl (fun ls2 hl3 => k H locs ls2 hP hD hS (lv_sub hl3 ks hl2))
theorem g_iinc (hC : gCx p s m args meth cd D cI cZ A cc nL Ts own) {i : Nat} {n : Int} {x v : Int32} {lv' : List (Nat × Value)} (j : Nat) (ks : List Nat) (hdg : decode cc pc = .ok (.iinc i n, 3)) (hk : lv[j]? = some (i, .int x)) (hv : x + Int32.ofInt n = v) (hn : i < nL) (hl2 : lv_pick ((i, Value.int v) :: lv.filter (fun q => !(q.1 == i) && !(q.1 + 1 == i && q.2.category == 2))) ks = lv') (k : G p l e R s m args below meth cd D A cells slots Q nL ws (pc + 3) lv' (st)) : G p l e R s m args below meth cd D A cells slots Q nL ws (pc) lv (st) := fun H locs ls hP hD hS hl => lv_iinc hC.1.1 hC.1.2.1 hdg hl hk hv hn rfl (fun ls2 hl3 => k H locs ls2 hP hD hS (lv_sub hl3 ks hl2))
theorem g_iadd (hC : gCx p s m args meth cd D cI cZ A cc nL Ts own) {x y : Int32} (hdg : decode cc pc = .ok (.iadd, 1)) (k : G p l e R s m args below meth cd D A cells slots Q nL ws (pc + 1) lv (.int (x + y) :: st)) : G p l e R s m args below meth cd D A cells slots Q nL ws (pc) lv (.int y :: .int x :: st) := fun H locs ls hP hD hS hl => lv_iadd hC.1.1 hC.1.2.1 hdg (k H locs ls hP hD hS hl)
theorem g_isub (hC : gCx p s m args meth cd D cI cZ A cc nL Ts own) {x y : Int32} (hdg : decode cc pc = .ok (.isub, 1)) (k : G p l e R s m args below meth cd D A cells slots Q nL ws (pc + 1) lv (.int (x - y) :: st)) : G p l e R s m args below meth cd D A cells slots Q nL ws (pc) lv (.int y :: .int x :: st) := fun H locs ls hP hD hS hl => lv_isub hC.1.1 hC.1.2.1 hdg (k H locs ls hP hD hS hl)
theorem g_imul (hC : gCx p s m args meth cd D cI cZ A cc nL Ts own) {x y : Int32} (hdg : decode cc pc = .ok (.imul, 1)) (k : G p l e R s m args below meth cd D A cells slots Q nL ws (pc + 1) lv (.int (x * y) :: st)) : G p l e R s m args below meth cd D A cells slots Q nL ws (pc) lv (.int y :: .int x :: st) := fun H locs ls hP hD hS hl => lv_imul hC.1.1 hC.1.2.1 hdg (k H locs ls hP hD hS hl)
theorem g_iand (hC : gCx p s m args meth cd D cI cZ A cc nL Ts own) {x y : Int32} (hdg : decode cc pc = .ok (.iand, 1)) (k : G p l e R s m args below meth cd D A cells slots Q nL ws (pc + 1) lv (.int (x &&& y) :: st)) : G p l e R s m args below meth cd D A cells slots Q nL ws (pc) lv (.int y :: .int x :: st) := fun H locs ls hP hD hS hl => lv_iand hC.1.1 hC.1.2.1 hdg (k H locs ls hP hD hS hl)
theorem g_ior (hC : gCx p s m args meth cd D cI cZ A cc nL Ts own) {x y : Int32} (hdg : decode cc pc = .ok (.ior, 1)) (k : G p l e R s m args below meth cd D A cells slots Q nL ws (pc + 1) lv (.int (x ||| y) :: st)) : G p l e R s m args below meth cd D A cells slots Q nL ws (pc) lv (.int y :: .int x :: st) := fun H locs ls hP hD hS hl => lv_ior hC.1.1 hC.1.2.1 hdg (k H locs ls hP hD hS hl)
theorem g_ixor (hC : gCx p s m args meth cd D cI cZ A cc nL Ts own) {x y : Int32} (hdg : decode cc pc = .ok (.ixor, 1)) (k : G p l e R s m args below meth cd D A cells slots Q nL ws (pc + 1) lv (.int (x ^^^ y) :: st)) : G p l e R s m args below meth cd D A cells slots Q nL ws (pc) lv (.int y :: .int x :: st) := fun H locs ls hP hD hS hl => lv_ixor hC.1.1 hC.1.2.1 hdg (k H locs ls hP hD hS hl)
theorem g_ladd (hC : gCx p s m args meth cd D cI cZ A cc nL Ts own) {x y : Int64} (hdg : decode cc pc = .ok (.ladd, 1)) (k : G p l e R s m args below meth cd D A cells slots Q nL ws (pc + 1) lv (.long (x + y) :: st)) : G p l e R s m args below meth cd D A cells slots Q nL ws (pc) lv (.long y :: .long x :: st) := fun H locs ls hP hD hS hl => lv_ladd hC.1.1 hC.1.2.1 hdg (k H locs ls hP hD hS hl)
theorem g_lsub (hC : gCx p s m args meth cd D cI cZ A cc nL Ts own) {x y : Int64} (hdg : decode cc pc = .ok (.lsub, 1)) (k : G p l e R s m args below meth cd D A cells slots Q nL ws (pc + 1) lv (.long (x - y) :: st)) : G p l e R s m args below meth cd D A cells slots Q nL ws (pc) lv (.long y :: .long x :: st) := fun H locs ls hP hD hS hl => lv_lsub hC.1.1 hC.1.2.1 hdg (k H locs ls hP hD hS hl)
theorem g_lmul (hC : gCx p s m args meth cd D cI cZ A cc nL Ts own) {x y : Int64} (hdg : decode cc pc = .ok (.lmul, 1)) (k : G p l e R s m args below meth cd D A cells slots Q nL ws (pc + 1) lv (.long (x * y) :: st)) : G p l e R s m args below meth cd D A cells slots Q nL ws (pc) lv (.long y :: .long x :: st) := fun H locs ls hP hD hS hl => lv_lmul hC.1.1 hC.1.2.1 hdg (k H locs ls hP hD hS hl)
theorem g_land (hC : gCx p s m args meth cd D cI cZ A cc nL Ts own) {x y : Int64} (hdg : decode cc pc = .ok (.land, 1)) (k : G p l e R s m args below meth cd D A cells slots Q nL ws (pc + 1) lv (.long (x &&& y) :: st)) : G p l e R s m args below meth cd D A cells slots Q nL ws (pc) lv (.long y :: .long x :: st) := fun H locs ls hP hD hS hl => lv_land hC.1.1 hC.1.2.1 hdg (k H locs ls hP hD hS hl)
theorem g_lor (hC : gCx p s m args meth cd D cI cZ A cc nL Ts own) {x y : Int64} (hdg : decode cc pc = .ok (.lor, 1)) (k : G p l e R s m args below meth cd D A cells slots Q nL ws (pc + 1) lv (.long (x ||| y) :: st)) : G p l e R s m args below meth cd D A cells slots Q nL ws (pc) lv (.long y :: .long x :: st) := fun H locs ls hP hD hS hl => lv_lor hC.1.1 hC.1.2.1 hdg (k H locs ls hP hD hS hl)
theorem g_ineg (hC : gCx p s m args meth cd D cI cZ A cc nL Ts own) {x : Int32} (hdg : decode cc pc = .ok (.ineg, 1)) (k : G p l e R s m args below meth cd D A cells slots Q nL ws (pc + 1) lv (.int (-x) :: st)) : G p l e R s m args below meth cd D A cells slots Q nL ws (pc) lv (.int x :: st) := fun H locs ls hP hD hS hl => lv_ineg hC.1.1 hC.1.2.1 hdg (k H locs ls hP hD hS hl)
theorem g_ishl (hC : gCx p s m args meth cd D cI cZ A cc nL Ts own) {x y : Int32} (hdg : decode cc pc = .ok (.ishl, 1)) (k : G p l e R s m args below meth cd D A cells slots Q nL ws (pc + 1) lv (.int (x <<< (y &&& 31)) :: st)) : G p l e R s m args below meth cd D A cells slots Q nL ws (pc) lv (.int y :: .int x :: st) := fun H locs ls hP hD hS hl => lv_ishl hC.1.1 hC.1.2.1 hdg (k H locs ls hP hD hS hl)
theorem g_ishr (hC : gCx p s m args meth cd D cI cZ A cc nL Ts own) {x y : Int32} (hdg : decode cc pc = .ok (.ishr, 1)) (k : G p l e R s m args below meth cd D A cells slots Q nL ws (pc + 1) lv (.int (x >>> (y &&& 31)) :: st)) : G p l e R s m args below meth cd D A cells slots Q nL ws (pc) lv (.int y :: .int x :: st) := fun H locs ls hP hD hS hl => lv_ishr hC.1.1 hC.1.2.1 hdg (k H locs ls hP hD hS hl)
theorem g_iushr (hC : gCx p s m args meth cd D cI cZ A cc nL Ts own) {x y v : Int32} (hdg : decode cc pc = .ok (.iushr, 1)) (hv : (x.toUInt32 >>> (y.toUInt32 &&& Int32.toUInt32 31)).toInt32 = v) (k : G p l e R s m args below meth cd D A cells slots Q nL ws (pc + 1) lv (.int v :: st)) : G p l e R s m args below meth cd D A cells slots Q nL ws (pc) lv (.int y :: .int x :: st) := fun H locs ls hP hD hS hl => lv_iushr hC.1.1 hC.1.2.1 hdg hv (k H locs ls hP hD hS hl)
theorem g_lushr (hC : gCx p s m args meth cd D cI cZ A cc nL Ts own) {x v : Int64} {y : Int32} (hdg : decode cc pc = .ok (.lushr, 1)) (hv : (x.toUInt64 >>> (y.toInt64.toUInt64 &&& Int64.toUInt64 63)).toInt64 = v) (k : G p l e R s m args below meth cd D A cells slots Q nL ws (pc + 1) lv (.long v :: st)) : G p l e R s m args below meth cd D A cells slots Q nL ws (pc) lv (.int y :: .long x :: st) := fun H locs ls hP hD hS hl => lv_lushr hC.1.1 hC.1.2.1 hdg hv (k H locs ls hP hD hS hl)
theorem g_lshl (hC : gCx p s m args meth cd D cI cZ A cc nL Ts own) {x v : Int64} {y : Int32} (hdg : decode cc pc = .ok (.lshl, 1)) (hv : x <<< (y.toInt64 &&& 63) = v) (k : G p l e R s m args below meth cd D A cells slots Q nL ws (pc + 1) lv (.long v :: st)) : G p l e R s m args below meth cd D A cells slots Q nL ws (pc) lv (.int y :: .long x :: st) := fun H locs ls hP hD hS hl => lv_lshl hC.1.1 hC.1.2.1 hdg hv (k H locs ls hP hD hS hl)
theorem g_idiv (hC : gCx p s m args meth cd D cI cZ A cc nL Ts own) {x y : Int32} (hdg : decode cc pc = .ok (.idiv, 1)) (hne : ¬ y = 0) (k : G p l e R s m args below meth cd D A cells slots Q nL ws (pc + 1) lv (.int (x / y) :: st)) : G p l e R s m args below meth cd D A cells slots Q nL ws (pc) lv (.int y :: .int x :: st) := fun H locs ls hP hD hS hl => lv_idiv hC.1.1 hC.1.2.1 hdg hne (k H locs ls hP hD hS hl)
theorem g_irem (hC : gCx p s m args meth cd D cI cZ A cc nL Ts own) {x y : Int32} (hdg : decode cc pc = .ok (.irem, 1)) (hne : ¬ y = 0) (k : G p l e R s m args below meth cd D A cells slots Q nL ws (pc + 1) lv (.int (x - x / y * y) :: st)) : G p l e R s m args below meth cd D A cells slots Q nL ws (pc) lv (.int y :: .int x :: st) := fun H locs ls hP hD hS hl => lv_irem hC.1.1 hC.1.2.1 hdg hne (k H locs ls hP hD hS hl)
theorem g_ldiv (hC : gCx p s m args meth cd D cI cZ A cc nL Ts own) {x y : Int64} (hdg : decode cc pc = .ok (.ldiv, 1)) (hne : ¬ y = 0) (k : G p l e R s m args below meth cd D A cells slots Q nL ws (pc + 1) lv (.long (x / y) :: st)) : G p l e R s m args below meth cd D A cells slots Q nL ws (pc) lv (.long y :: .long x :: st) := fun H locs ls hP hD hS hl => lv_ldiv hC.1.1 hC.1.2.1 hdg hne (k H locs ls hP hD hS hl)
theorem g_lrem (hC : gCx p s m args meth cd D cI cZ A cc nL Ts own) {x y : Int64} (hdg : decode cc pc = .ok (.lrem, 1)) (hne : ¬ y = 0) (k : G p l e R s m args below meth cd D A cells slots Q nL ws (pc + 1) lv (.long (x - x / y * y) :: st)) : G p l e R s m args below meth cd D A cells slots Q nL ws (pc) lv (.long y :: .long x :: st) := fun H locs ls hP hD hS hl => lv_lrem hC.1.1 hC.1.2.1 hdg hne (k H locs ls hP hD hS hl)
theorem g_i2l (hC : gCx p s m args meth cd D cI cZ A cc nL Ts own) {x : Int32} {v : Int64} (hdg : decode cc pc = .ok (.i2l, 1)) (hv : x.toInt64 = v) (k : G p l e R s m args below meth cd D A cells slots Q nL ws (pc + 1) lv (.long v :: st)) : G p l e R s m args below meth cd D A cells slots Q nL ws (pc) lv (.int x :: st) := fun H locs ls hP hD hS hl => lv_i2l hC.1.1 hC.1.2.1 hdg hv (k H locs ls hP hD hS hl)
theorem g_l2i (hC : gCx p s m args meth cd D cI cZ A cc nL Ts own) {x : Int64} {v : Int32} (hdg : decode cc pc = .ok (.l2i, 1)) (hv : x.toInt32 = v) (k : G p l e R s m args below meth cd D A cells slots Q nL ws (pc + 1) lv (.int v :: st)) : G p l e R s m args below meth cd D A cells slots Q nL ws (pc) lv (.long x :: st) := fun H locs ls hP hD hS hl => lv_l2i hC.1.1 hC.1.2.1 hdg hv (k H locs ls hP hD hS hl)
theorem g_lcmp (hC : gCx p s m args meth cd D cI cZ A cc nL Ts own) {x y : Int64} (hdg : decode cc pc = .ok (.lcmp, 1)) (k : G p l e R s m args below meth cd D A cells slots Q nL ws (pc + 1) lv (.int (lg_cmp x y) :: st)) : G p l e R s m args below meth cd D A cells slots Q nL ws (pc) lv (.long y :: .long x :: st) := fun H locs ls hP hD hS hl => W.lcmp hC.1.1 hC.1.2.1 hdg (k H locs ls hP hD hS hl)
theorem g_dup (hC : gCx p s m args meth cd D cI cZ A cc nL Ts own) {va : Value} (hdg : decode cc pc = .ok (.dup, 1)) (hva : va.category = 1) (k : G p l e R s m args below meth cd D A cells slots Q nL ws (pc + 1) lv (va :: va :: st)) : G p l e R s m args below meth cd D A cells slots Q nL ws (pc) lv (va :: st) := fun H locs ls hP hD hS hl => lv_dup hC.1.1 hC.1.2.1 hdg hva (k H locs ls hP hD hS hl)
theorem g_pop (hC : gCx p s m args meth cd D cI cZ A cc nL Ts own) {va : Value} (hdg : decode cc pc = .ok (.pop, 1)) (hva : va.category = 1) (k : G p l e R s m args below meth cd D A cells slots Q nL ws (pc + 1) lv (st)) : G p l e R s m args below meth cd D A cells slots Q nL ws (pc) lv (va :: st) := fun H locs ls hP hD hS hl => lv_pop hC.1.1 hC.1.2.1 hdg hva (k H locs ls hP hD hS hl)
theorem g_dup2 (hC : gCx p s m args meth cd D cI cZ A cc nL Ts own) {va vb : Value} (hdg : decode cc pc = .ok (.dup2, 1)) (hva : va.category = 1) (hvb : vb.category = 1) (k : G p l e R s m args below meth cd D A cells slots Q nL ws (pc + 1) lv (va :: vb :: va :: vb :: st)) : G p l e R s m args below meth cd D A cells slots Q nL ws (pc) lv (va :: vb :: st) := fun H locs ls hP hD hS hl => lv_dup2_11 hC.1.1 hC.1.2.1 hdg hva hvb (k H locs ls hP hD hS hl)
theorem g_dup_x1 (hC : gCx p s m args meth cd D cI cZ A cc nL Ts own) {va vb : Value} (hdg : decode cc pc = .ok (.dup_x1, 1)) (hva : va.category = 1) (hvb : vb.category = 1) (k : G p l e R s m args below meth cd D A cells slots Q nL ws (pc + 1) lv (va :: vb :: va :: st)) : G p l e R s m args below meth cd D A cells slots Q nL ws (pc) lv (va :: vb :: st) := fun H locs ls hP hD hS hl => lv_dup_x1 hC.1.1 hC.1.2.1 hdg hva hvb (k H locs ls hP hD hS hl)
theorem g_top  {x y : Int32} (h : x = y) (k : G p l e R s m args below meth cd D A cells slots Q nL ws (pc) lv (.int y :: st)) : G p l e R s m args below meth cd D A cells slots Q nL ws (pc) lv (.int x :: st) := by subst h; exact k
theorem g_topl  {x y : Int64} (h : x = y) (k : G p l e R s m args below meth cd D A cells slots Q nL ws (pc) lv (.long y :: st)) : G p l e R s m args below meth cd D A cells slots Q nL ws (pc) lv (.long x :: st) := by subst h; exact k
theorem g_ws {ws2 : va_W} (h : ws = ws2) (k : G p l e R s m args below meth cd D A cells slots Q nL ws2 (pc) lv (st)) : G p l e R s m args below meth cd D A cells slots Q nL ws (pc) lv (st) := by subst h; exact k
theorem g_st {st2 : List Value} (h : st = st2) (k : G p l e R s m args below meth cd D A cells slots Q nL ws (pc) lv (st2)) : G p l e R s m args below meth cd D A cells slots Q nL ws (pc) lv (st) := by subst h; exact k
theorem g_lv {lv2 : List (Nat × Value)} (ks : List Nat) (h : lv_pick lv ks = lv2) (k : G p l e R s m args below meth cd D A cells slots Q nL ws (pc) lv2 (st)) : G p l e R s m args below meth cd D A cells slots Q nL ws (pc) lv (st) := fun H locs ls hP hD hS hl => k H locs ls hP hD hS (lv_sub hl ks h)
theorem g_is {ws2 : va_W} {lv2 : List (Nat × Value)} {st2 : List Value} (h1 : ws = ws2) (h2 : lv = lv2) (h3 : st = st2) (k : G p l e R s m args below meth cd D A cells slots Q nL ws2 (pc) lv2 (st2)) : G p l e R s m args below meth cd D A cells slots Q nL ws (pc) lv (st) := by subst h1; subst h2; subst h3; exact k
theorem g_widen {k2 n2 : Nat} (h1 : cells ≤ k2) (h2 : slots ≤ n2) (k : G p l e R s m args below meth cd D A k2 n2 Q nL ws (pc) lv (st)) : G p l e R s m args below meth cd D A cells slots Q nL ws (pc) lv (st) := fun H locs ls hP hD hS hl => W.widen h1 h2 (k H locs ls hP hD hS hl)
theorem g_if_eq (hC : gCx p s m args meth cd D cI cZ A cc nL Ts own) {x : Int32} {off : Int} (tgt : Nat) (hdg : decode cc pc = .ok (.ifCond .eq off, 3)) (ht : (pc : Int) + off = (tgt : Int)) (kt : x = nI 0 → G p l e R s m args below meth cd D A cells slots Q nL ws (tgt) lv (st)) (kf : ¬ x = nI 0 → G p l e R s m args below meth cd D A cells slots Q nL ws (pc + 3) lv (st)) : G p l e R s m args below meth cd D A cells slots Q nL ws (pc) lv (.int x :: st) := fun H locs ls hP hD hS hl => lv_if_eq hC.1.1 hC.1.2.1 hdg ht (fun q => kt q H locs ls hP hD hS hl) (fun q => kf q H locs ls hP hD hS hl)
theorem g_if_ne (hC : gCx p s m args meth cd D cI cZ A cc nL Ts own) {x : Int32} {off : Int} (tgt : Nat) (hdg : decode cc pc = .ok (.ifCond .ne off, 3)) (ht : (pc : Int) + off = (tgt : Int)) (kt : ¬ x = nI 0 → G p l e R s m args below meth cd D A cells slots Q nL ws (tgt) lv (st)) (kf : x = nI 0 → G p l e R s m args below meth cd D A cells slots Q nL ws (pc + 3) lv (st)) : G p l e R s m args below meth cd D A cells slots Q nL ws (pc) lv (.int x :: st) := fun H locs ls hP hD hS hl => lv_if_ne hC.1.1 hC.1.2.1 hdg ht (fun q => kt q H locs ls hP hD hS hl) (fun q => kf q H locs ls hP hD hS hl)
theorem g_if_lt (hC : gCx p s m args meth cd D cI cZ A cc nL Ts own) {x : Int32} {off : Int} (tgt : Nat) (hdg : decode cc pc = .ok (.ifCond .lt off, 3)) (ht : (pc : Int) + off = (tgt : Int)) (kt : x < nI 0 → G p l e R s m args below meth cd D A cells slots Q nL ws (tgt) lv (st)) (kf : ¬ x < nI 0 → G p l e R s m args below meth cd D A cells slots Q nL ws (pc + 3) lv (st)) : G p l e R s m args below meth cd D A cells slots Q nL ws (pc) lv (.int x :: st) := fun H locs ls hP hD hS hl => lv_if_lt hC.1.1 hC.1.2.1 hdg ht (fun q => kt q H locs ls hP hD hS hl) (fun q => kf q H locs ls hP hD hS hl)
theorem g_if_ge (hC : gCx p s m args meth cd D cI cZ A cc nL Ts own) {x : Int32} {off : Int} (tgt : Nat) (hdg : decode cc pc = .ok (.ifCond .ge off, 3)) (ht : (pc : Int) + off = (tgt : Int)) (kt : nI 0 ≤ x → G p l e R s m args below meth cd D A cells slots Q nL ws (tgt) lv (st)) (kf : ¬ nI 0 ≤ x → G p l e R s m args below meth cd D A cells slots Q nL ws (pc + 3) lv (st)) : G p l e R s m args below meth cd D A cells slots Q nL ws (pc) lv (.int x :: st) := fun H locs ls hP hD hS hl => lv_if_ge hC.1.1 hC.1.2.1 hdg ht (fun q => kt q H locs ls hP hD hS hl) (fun q => kf q H locs ls hP hD hS hl)
theorem g_if_gt (hC : gCx p s m args meth cd D cI cZ A cc nL Ts own) {x : Int32} {off : Int} (tgt : Nat) (hdg : decode cc pc = .ok (.ifCond .gt off, 3)) (ht : (pc : Int) + off = (tgt : Int)) (kt : nI 0 < x → G p l e R s m args below meth cd D A cells slots Q nL ws (tgt) lv (st)) (kf : ¬ nI 0 < x → G p l e R s m args below meth cd D A cells slots Q nL ws (pc + 3) lv (st)) : G p l e R s m args below meth cd D A cells slots Q nL ws (pc) lv (.int x :: st) := fun H locs ls hP hD hS hl => lv_if_gt hC.1.1 hC.1.2.1 hdg ht (fun q => kt q H locs ls hP hD hS hl) (fun q => kf q H locs ls hP hD hS hl)
theorem g_if_le (hC : gCx p s m args meth cd D cI cZ A cc nL Ts own) {x : Int32} {off : Int} (tgt : Nat) (hdg : decode cc pc = .ok (.ifCond .le off, 3)) (ht : (pc : Int) + off = (tgt : Int)) (kt : x ≤ nI 0 → G p l e R s m args below meth cd D A cells slots Q nL ws (tgt) lv (st)) (kf : ¬ x ≤ nI 0 → G p l e R s m args below meth cd D A cells slots Q nL ws (pc + 3) lv (st)) : G p l e R s m args below meth cd D A cells slots Q nL ws (pc) lv (.int x :: st) := fun H locs ls hP hD hS hl => lv_if_le hC.1.1 hC.1.2.1 hdg ht (fun q => kt q H locs ls hP hD hS hl) (fun q => kf q H locs ls hP hD hS hl)
theorem g_icmp_eq (hC : gCx p s m args meth cd D cI cZ A cc nL Ts own) {x y : Int32} {off : Int} (tgt : Nat) (hdg : decode cc pc = .ok (.if_icmp .eq off, 3)) (ht : (pc : Int) + off = (tgt : Int)) (kt : x = y → G p l e R s m args below meth cd D A cells slots Q nL ws (tgt) lv (st)) (kf : ¬ x = y → G p l e R s m args below meth cd D A cells slots Q nL ws (pc + 3) lv (st)) : G p l e R s m args below meth cd D A cells slots Q nL ws (pc) lv (.int y :: .int x :: st) := fun H locs ls hP hD hS hl => lv_icmp_eq hC.1.1 hC.1.2.1 hdg ht (fun q => kt q H locs ls hP hD hS hl) (fun q => kf q H locs ls hP hD hS hl)
theorem g_icmp_ne (hC : gCx p s m args meth cd D cI cZ A cc nL Ts own) {x y : Int32} {off : Int} (tgt : Nat) (hdg : decode cc pc = .ok (.if_icmp .ne off, 3)) (ht : (pc : Int) + off = (tgt : Int)) (kt : ¬ x = y → G p l e R s m args below meth cd D A cells slots Q nL ws (tgt) lv (st)) (kf : x = y → G p l e R s m args below meth cd D A cells slots Q nL ws (pc + 3) lv (st)) : G p l e R s m args below meth cd D A cells slots Q nL ws (pc) lv (.int y :: .int x :: st) := fun H locs ls hP hD hS hl => lv_icmp_ne hC.1.1 hC.1.2.1 hdg ht (fun q => kt q H locs ls hP hD hS hl) (fun q => kf q H locs ls hP hD hS hl)
theorem g_icmp_lt (hC : gCx p s m args meth cd D cI cZ A cc nL Ts own) {x y : Int32} {off : Int} (tgt : Nat) (hdg : decode cc pc = .ok (.if_icmp .lt off, 3)) (ht : (pc : Int) + off = (tgt : Int)) (kt : x < y → G p l e R s m args below meth cd D A cells slots Q nL ws (tgt) lv (st)) (kf : ¬ x < y → G p l e R s m args below meth cd D A cells slots Q nL ws (pc + 3) lv (st)) : G p l e R s m args below meth cd D A cells slots Q nL ws (pc) lv (.int y :: .int x :: st) := fun H locs ls hP hD hS hl => lv_icmp_lt hC.1.1 hC.1.2.1 hdg ht (fun q => kt q H locs ls hP hD hS hl) (fun q => kf q H locs ls hP hD hS hl)
theorem g_icmp_ge (hC : gCx p s m args meth cd D cI cZ A cc nL Ts own) {x y : Int32} {off : Int} (tgt : Nat) (hdg : decode cc pc = .ok (.if_icmp .ge off, 3)) (ht : (pc : Int) + off = (tgt : Int)) (kt : y ≤ x → G p l e R s m args below meth cd D A cells slots Q nL ws (tgt) lv (st)) (kf : ¬ y ≤ x → G p l e R s m args below meth cd D A cells slots Q nL ws (pc + 3) lv (st)) : G p l e R s m args below meth cd D A cells slots Q nL ws (pc) lv (.int y :: .int x :: st) := fun H locs ls hP hD hS hl => lv_icmp_ge hC.1.1 hC.1.2.1 hdg ht (fun q => kt q H locs ls hP hD hS hl) (fun q => kf q H locs ls hP hD hS hl)
theorem g_icmp_gt (hC : gCx p s m args meth cd D cI cZ A cc nL Ts own) {x y : Int32} {off : Int} (tgt : Nat) (hdg : decode cc pc = .ok (.if_icmp .gt off, 3)) (ht : (pc : Int) + off = (tgt : Int)) (kt : y < x → G p l e R s m args below meth cd D A cells slots Q nL ws (tgt) lv (st)) (kf : ¬ y < x → G p l e R s m args below meth cd D A cells slots Q nL ws (pc + 3) lv (st)) : G p l e R s m args below meth cd D A cells slots Q nL ws (pc) lv (.int y :: .int x :: st) := fun H locs ls hP hD hS hl => lv_icmp_gt hC.1.1 hC.1.2.1 hdg ht (fun q => kt q H locs ls hP hD hS hl) (fun q => kf q H locs ls hP hD hS hl)
theorem g_icmp_le (hC : gCx p s m args meth cd D cI cZ A cc nL Ts own) {x y : Int32} {off : Int} (tgt : Nat) (hdg : decode cc pc = .ok (.if_icmp .le off, 3)) (ht : (pc : Int) + off = (tgt : Int)) (kt : x ≤ y → G p l e R s m args below meth cd D A cells slots Q nL ws (tgt) lv (st)) (kf : ¬ x ≤ y → G p l e R s m args below meth cd D A cells slots Q nL ws (pc + 3) lv (st)) : G p l e R s m args below meth cd D A cells slots Q nL ws (pc) lv (.int y :: .int x :: st) := fun H locs ls hP hD hS hl => lv_icmp_le hC.1.1 hC.1.2.1 hdg ht (fun q => kt q H locs ls hP hD hS hl) (fun q => kf q H locs ls hP hD hS hl)
theorem g_goto (hC : gCx p s m args meth cd D cI cZ A cc nL Ts own) {off : Int} (tgt : Nat) (hdg : decode cc pc = .ok (.goto off, 3)) (ht : (pc : Int) + off = (tgt : Int)) (k : G p l e R s m args below meth cd D A cells slots Q nL ws (tgt) lv (st)) : G p l e R s m args below meth cd D A cells slots Q nL ws (pc) lv (st) := fun H locs ls hP hD hS hl => lv_goto hC.1.1 hC.1.2.1 hdg ht (k H locs ls hP hD hS hl)
theorem g_tableOut (hC : gCx p s m args meth cd D cI cZ A cc nL Ts own) {dflt lo hi : Int} {offs : Array Int} {len : Nat} {x : Int32} (tgt : Nat) (hdg : decode cc pc = .ok (.tableswitch dflt lo hi offs, len)) (h : x.toInt < lo ∨ hi < x.toInt) (ht : (pc : Int) + dflt = (tgt : Int)) (k : G p l e R s m args below meth cd D A cells slots Q nL ws (tgt) lv (st)) : G p l e R s m args below meth cd D A cells slots Q nL ws (pc) lv (.int x :: st) := fun H locs ls hP hD hS hl => lv_tableOut hC.1.1 hC.1.2.1 hdg h ht (k H locs ls hP hD hS hl)
theorem g_tableIn (hC : gCx p s m args meth cd D cI cZ A cc nL Ts own) {dflt lo hi : Int} {offs : Array Int} {len : Nat} {x : Int32} {off : Int} (tgt : Nat) (hdg : decode cc pc = .ok (.tableswitch dflt lo hi offs, len)) (h1 : ¬ x.toInt < lo) (h2 : ¬ hi < x.toInt) (ho : offs[(x.toInt - lo).toNat]? = some off) (ht : (pc : Int) + off = (tgt : Int)) (k : G p l e R s m args below meth cd D A cells slots Q nL ws (tgt) lv (st)) : G p l e R s m args below meth cd D A cells slots Q nL ws (pc) lv (.int x :: st) := fun H locs ls hP hD hS hl => lv_tableIn hC.1.1 hC.1.2.1 hdg h1 h2 ho ht (k H locs ls hP hD hS hl)
theorem g_get (hC : gCx p s m args meth cd D cI cZ A cc nL Ts own) {ref C : String} {T : u_T} {N ci index : Nat} (hin : ∀ w ∈ u_ws C T N, w ∈ Ts) (q0 : Nat) {a : Nat} {fs : List Value} (he : ws[q0]? = some (a, .inr (ci, fs))) (hc : vwCl[ci]? = some (C, T, N)) (k : Nat) (hk : k < N) (hlink : (Cond.fieldLink own index ref (T k).2.1 (T k).2.2.1).before args s = true) (hsame : ∀ x, s.fieldFound? (T k).1 (T k).2.1 (T k).2.2.1 = some x → s.fieldFound? ref (T k).2.1 (T k).2.2.1 = some x) {v : Value} (hv : fs[k]? = some v) (hdg : decode cc pc = .ok (.getfield index, 3)) (kk : G p l e R s m args below meth cd D A cells slots Q nL ws (pc + 3) lv (v :: st)) : G p l e R s m args below meth cd D A cells slots Q nL ws (pc) lv (.ref a :: st) := fun H locs ls hP hD hS hl => va_get hC.1.1 hC.1.2.1 hC.1.2.2.2.2 hin hC.1.2.2.2.1 hC.2.1 hP q0 he hc k hk hlink hsame hv hdg (kk H locs ls hP hD hS hl)
theorem g_put (hC : gCx p s m args meth cd D cI cZ A cc nL Ts own) {ref C : String} {T : u_T} {N ci index : Nat} (hin : ∀ w ∈ u_ws C T N, w ∈ Ts) (ty0 : Nat → FieldType) (hty : ∀ k, k < N → parseFieldDescriptor (T k).2.2.1 = some (ty0 k)) (hnm : ∀ a, a < N → ∀ b, b < N → a ≠ b → (T a).2.1 ≠ (T b).2.1) (q0 : Nat) {a : Nat} {fs : List Value} (he : ws[q0]? = some (a, .inr (ci, fs))) (hc : vwCl[ci]? = some (C, T, N)) (k : Nat) (hk : k < N) (hlink : (Cond.fieldLink own index ref (T k).2.1 (T k).2.2.1).before args s = true) (hsame : ∀ x, s.fieldFound? (T k).1 (T k).2.1 (T k).2.2.1 = some x → s.fieldFound? ref (T k).2.1 (T k).2.2.1 = some x) (hfin : (T k).2.2.2 = false) {ty : FieldType} {v : Value} (hd : parseFieldDescriptor (T k).2.2.1 = some ty) (hn : narrow ty v = v) (hfit : fits ty v = true) (hl0 : k < fs.length) (ws' : va_W) (hws : ws.set q0 (a, .inr (ci, fs.set k v)) = ws') (hdg : decode cc pc = .ok (.putfield index, 3)) (kk : G p l e R s m args below meth cd D A cells slots Q nL ws' (pc + 3) lv (st)) : G p l e R s m args below meth cd D A cells slots Q nL ws (pc) lv (v :: .ref a :: st) := by
  subst hws
  exact fun H locs ls hP hD hS hl => va_put hC.1.1 hC.1.2.1 hC.1.2.2.2.2 hin ty0 hty hnm hC.1.2.2.2.1 hC.2.1 hP hD hS q0 he hc k hk hlink hsame hfin hd hn hfit hl0 hdg (fun H1 locs1 hP1 hD1 hS1 => kk H1 locs1 ls hP1 hD1 hS1 hl)
theorem g_getN (hC : gCx p s m args meth cd D cI cZ A cc nL Ts own) {ref C host : String} {T : u_T} {N ci index : Nat} (hin : ∀ w ∈ u_ws C T N, w ∈ Ts) (q0 : Nat) {a : Nat} {fs : List Value} (he : ws[q0]? = some (a, .inr (ci, fs))) (hc : vwCl[ci]? = some (C, T, N)) (k : Nat) (hk : k < N) (hlink : va_Nw (Cond.fieldLinkNest own index ref (T k).2.1 (T k).2.2.1 host) s) (hsame : ∀ x, s.fieldFound? (T k).1 (T k).2.1 (T k).2.2.1 = some x → s.fieldFound? ref (T k).2.1 (T k).2.2.1 = some x) {v : Value} (hv : fs[k]? = some v) (hdg : decode cc pc = .ok (.getfield index, 3)) (kk : G p l e R s m args below meth cd D A cells slots Q nL ws (pc + 3) lv (v :: st)) : G p l e R s m args below meth cd D A cells slots Q nL ws (pc) lv (.ref a :: st) := fun H locs ls hP hD hS hl => va_getN hC.1.1 hC.1.2.1 hC.1.2.2.2.2 hin hC.1.2.2.2.1 hC.2.1 hP q0 he hc k hk (va_Nw.use rfl hlink) hsame hv hdg (kk H locs ls hP hD hS hl)
theorem g_putN (hC : gCx p s m args meth cd D cI cZ A cc nL Ts own) {ref C host : String} {T : u_T} {N ci index : Nat} (hin : ∀ w ∈ u_ws C T N, w ∈ Ts) (ty0 : Nat → FieldType) (hty : ∀ k, k < N → parseFieldDescriptor (T k).2.2.1 = some (ty0 k)) (hnm : ∀ a, a < N → ∀ b, b < N → a ≠ b → (T a).2.1 ≠ (T b).2.1) (q0 : Nat) {a : Nat} {fs : List Value} (he : ws[q0]? = some (a, .inr (ci, fs))) (hc : vwCl[ci]? = some (C, T, N)) (k : Nat) (hk : k < N) (hlink : va_Nw (Cond.fieldLinkNest own index ref (T k).2.1 (T k).2.2.1 host) s) (hsame : ∀ x, s.fieldFound? (T k).1 (T k).2.1 (T k).2.2.1 = some x → s.fieldFound? ref (T k).2.1 (T k).2.2.1 = some x) (hfin : (T k).2.2.2 = false) {ty : FieldType} {v : Value} (hd : parseFieldDescriptor (T k).2.2.1 = some ty) (hn : narrow ty v = v) (hfit : fits ty v = true) (hl0 : k < fs.length) (ws' : va_W) (hws : ws.set q0 (a, .inr (ci, fs.set k v)) = ws') (hdg : decode cc pc = .ok (.putfield index, 3)) (kk : G p l e R s m args below meth cd D A cells slots Q nL ws' (pc + 3) lv (st)) : G p l e R s m args below meth cd D A cells slots Q nL ws (pc) lv (v :: .ref a :: st) := by
  subst hws
  exact fun H locs ls hP hD hS hl => va_putN hC.1.1 hC.1.2.1 hC.1.2.2.2.2 hin ty0 hty hnm hC.1.2.2.2.1 hC.2.1 hP hD hS q0 he hc k hk (va_Nw.use rfl hlink) hsame hfin hd hn hfit hl0 hdg (fun H1 locs1 hP1 hD1 hS1 => kk H1 locs1 ls hP1 hD1 hS1 hl)
theorem g_putF (hC : gCx p s m args meth cd D cI cZ A cc nL Ts own) {ref C : String} {T : u_T} {N ci index : Nat} (hin : ∀ w ∈ u_ws C T N, w ∈ Ts) (ty0 : Nat → FieldType) (hty : ∀ k, k < N → parseFieldDescriptor (T k).2.2.1 = some (ty0 k)) (hnm : ∀ a, a < N → ∀ b, b < N → a ≠ b → (T a).2.1 ≠ (T b).2.1) (q0 : Nat) {a : Nat} {fs : List Value} (he : ws[q0]? = some (a, .inr (ci, fs))) (hc : vwCl[ci]? = some (C, T, N)) (k : Nat) (hk : k < N) (hlink : (Cond.fieldLink own index ref (T k).2.1 (T k).2.2.1).before args s = true) (hsame : ∀ x, s.fieldFound? (T k).1 (T k).2.1 (T k).2.2.1 = some x → s.fieldFound? ref (T k).2.1 (T k).2.2.1 = some x) (hfin : (T k).2.2.2 = true) (hin2 : meth.name = "<init>") (hdecl : (T k).1 = own) {ty : FieldType} {v : Value} (hd : parseFieldDescriptor (T k).2.2.1 = some ty) (hn : narrow ty v = v) (hfit : fits ty v = true) (hl0 : k < fs.length) (ws' : va_W) (hws : ws.set q0 (a, .inr (ci, fs.set k v)) = ws') (hdg : decode cc pc = .ok (.putfield index, 3)) (kk : G p l e R s m args below meth cd D A cells slots Q nL ws' (pc + 3) lv (st)) : G p l e R s m args below meth cd D A cells slots Q nL ws (pc) lv (v :: .ref a :: st) := by
  subst hws
  exact fun H locs ls hP hD hS hl => va_putF hC.1.1 hC.1.2.1 hC.1.2.2.2.2 hin ty0 hty hnm hC.1.2.2.2.1 hC.2.1 hP hD hS q0 he hc k hk hlink hsame hfin hin2 hdecl hd hn hfit hl0 hdg (fun H1 locs1 hP1 hD1 hS1 => kk H1 locs1 ls hP1 hD1 hS1 hl)
theorem g_iald (hC : gCx p s m args meth cd D cI cZ A cc nL Ts own) (q0 : Nat) {a n : Nat} {f : Nat → Int32} (ha : ws[q0]? = some (a, .inl (cI, n, .inl f))) {i : Int32} (j : Nat) (hi : i = nI j) (hj : j < n) (hn : n < 2 ^ 31) (hdg : decode cc pc = .ok (.iaload, 1)) (kk : G p l e R s m args below meth cd D A cells slots Q nL ws (pc + 1) lv (.int (f j) :: st)) : G p l e R s m args below meth cd D A cells slots Q nL ws (pc) lv (.int i :: .ref a :: st) := by
  subst hi
  exact fun H locs ls hP hD hS hl => va_iald hC.1.1 hC.1.2.1 hC.2.1 hP q0 0 ha rfl (vp_in_nI hj hn) hdg (by rw [nI_clamp (Nat.lt_trans hj hn)]; exact kk H locs ls hP hD hS hl)
theorem g_zald (hC : gCx p s m args meth cd D cI cZ A cc nL Ts own) (q0 : Nat) {a n : Nat} {f : Nat → Int32} (ha : ws[q0]? = some (a, .inl (cZ, n, .inl f))) {i : Int32} (j : Nat) (hi : i = nI j) (hj : j < n) (hn : n < 2 ^ 31) (hdg : decode cc pc = .ok (.baload, 1)) (kk : G p l e R s m args below meth cd D A cells slots Q nL ws (pc + 1) lv (.int (f j) :: st)) : G p l e R s m args below meth cd D A cells slots Q nL ws (pc) lv (.int i :: .ref a :: st) := by
  subst hi
  exact fun H locs ls hP hD hS hl => va_zald hC.1.1 hC.1.2.1 hC.2.1 hP q0 1 ha rfl (vp_in_nI hj hn) hdg (by rw [nI_clamp (Nat.lt_trans hj hn)]; exact kk H locs ls hP hD hS hl)
theorem g_iast (hC : gCx p s m args meth cd D cI cZ A cc nL Ts own) (q0 : Nat) {a n : Nat} {f : Nat → Int32} (ha : ws[q0]? = some (a, .inl (cI, n, .inl f))) {i x : Int32} (j : Nat) (hi : i = nI j) (hj : j < n) (hn : n < 2 ^ 31) (ws' : va_W) (hws : ws.set q0 (a, .inl (cI, n, .inl (upd f j x))) = ws') (hdg : decode cc pc = .ok (.iastore, 1)) (kk : G p l e R s m args below meth cd D A cells slots Q nL ws' (pc + 1) lv (st)) : G p l e R s m args below meth cd D A cells slots Q nL ws (pc) lv (.int x :: .int i :: .ref a :: st) := by
  subst hi; subst hws
  exact fun H locs ls hP hD hS hl => va_iast hC.1.1 hC.1.2.1 hC.2.1 hP hD hS q0 0 ha rfl (vp_in_nI hj hn) hdg (by rw [nI_clamp (Nat.lt_trans hj hn)]; exact fun H1 locs1 hP1 hD1 hS1 => kk H1 locs1 ls hP1 hD1 hS1 hl)
theorem g_zast (hC : gCx p s m args meth cd D cI cZ A cc nL Ts own) (q0 : Nat) {a n : Nat} {f : Nat → Int32} (ha : ws[q0]? = some (a, .inl (cZ, n, .inl f))) {i x : Int32} (j : Nat) (hi : i = nI j) (hj : j < n) (hn : n < 2 ^ 31) (hx : vp_nar .boolean x = x) (ws' : va_W) (hws : ws.set q0 (a, .inl (cZ, n, .inl (upd f j x))) = ws') (hdg : decode cc pc = .ok (.bastore, 1)) (kk : G p l e R s m args below meth cd D A cells slots Q nL ws' (pc + 1) lv (st)) : G p l e R s m args below meth cd D A cells slots Q nL ws (pc) lv (.int x :: .int i :: .ref a :: st) := by
  subst hi; subst hws
  exact fun H locs ls hP hD hS hl => va_zast hC.1.1 hC.1.2.1 hC.2.1 hP hD hS q0 1 ha rfl (vp_in_nI hj hn) hdg (by rw [nI_clamp (Nat.lt_trans hj hn), hx]; exact fun H1 locs1 hP1 hD1 hS1 => kk H1 locs1 ls hP1 hD1 hS1 hl)
theorem g_alen (hC : gCx p s m args meth cd D cI cZ A cc nL Ts own) (q0 : Nat) {a n : Nat} {f : Nat → Int32} (ha : ws[q0]? = some (a, .inl (cI, n, .inl f))) (hdg : decode cc pc = .ok (.arraylength, 1)) (kk : G p l e R s m args below meth cd D A cells slots Q nL ws (pc + 1) lv (.int (nI n) :: st)) : G p l e R s m args below meth cd D A cells slots Q nL ws (pc) lv (.ref a :: st) := fun H locs ls hP hD hS hl => va_alen hC.1.1 hC.1.2.1 hC.2.1 hP q0 0 ha rfl rfl hdg (kk H locs ls hP hD hS hl)
theorem g_newa (hC : gCx p s m args meth cd D cI cZ A cc nL Ts own) {atype : ArrayType} {ty : FieldType} (t0 : Nat) {cA : ClassId} (hty : newarray.typeOf atype = ty) (ht : ([(cI, .int), (cZ, .boolean)] : List (ClassId × FieldType))[t0]? = some (cA, ty)) (hob : ∀ n : String, ty ≠ .object n) (harr : (Cond.arrayClass (newarray.typeOf atype)).before args s = true) {n : Int32} (N : Nat) (hn0 : n = nI N) (hN : N < 2 ^ 20) {f : Nat → Int32} (hf : ∀ cA : ClassId, vp_cell cA (N, .inl f) = arrV cA N (fun _ => defaultValue ty)) (hbytes : N * componentBytes ty ≤ 536870912) (hcells : cells + 1 ≤ R.cells) (hslots : slots + N ≤ R.slots) (hdg : decode cc pc = .ok (.newarray atype, 2)) (kk : ∀ q : Nat, G p l e R s m args below meth cd D A (cells + 1) (slots + N) Q nL (ws ++ [(q, .inl (cA, N, .inl f))]) (pc + 2) lv (.ref q :: st)) : G p l e R s m args below meth cd D A cells slots Q nL ws (pc) lv (.int n :: st) := by
  subst hn0
  intro H locs ls hP hD hS hl
  refine va_newa hC.1.1 hC.1.2.1 harr hty hC.2.1 hP hD hS hC.2.2.2.1 (a0 := (N, .inl f)) hf (nI_pos (by omega)) (nI_clamp (by omega)) hbytes hcells hslots hdg (fun q cB H1 hK1 hP1 hD1 hS1 => ?_)
  have e1 := (hK1.2 2 (cB, ty) rfl).2
  have e2 := (hC.2.1.2 t0 (cA, ty) ht).2
  have hcc : cB = cA := by
    cases ty with
    | object n => exact absurd rfl (hob n)
    | _ => exact Option.some.inj (e1.symm.trans e2)
  subst hcc
  exact kk q H1 locs ls hP1 hD1 hS1 hl
theorem g_new (hC : gCx p s m args meth cd D cI cZ A cc nL Ts own) {C : String} {T : u_T} {N ci index : Nat} (hin : ∀ w ∈ u_ws C T N, w ∈ Ts) (ty : Nat → FieldType) (hty : ∀ k, k < N → parseFieldDescriptor (T k).2.2.1 = some (ty k)) (hcl : (Cond.classLink own index C).before args s = true) (hinst : (Cond.instantiable C N).before args s = true) (hini : (Cond.initialized C).before args s = true) (hc : vwCl[ci]? = some (C, T, N)) (fs : List Value) (hfs : ∀ j, j < N → defaultValue (ty j) = vp_V fs j) (hcells : cells + 1 ≤ R.cells) (hslots : slots + N ≤ R.slots) (hdg : decode cc pc = .ok (.new index, 3)) (kk : ∀ q : Nat, G p l e R s m args below meth cd D A (cells + 1) (slots + N) Q nL (ws ++ [(q, .inr (ci, fs))]) (pc + 3) lv (.ref q :: st)) : G p l e R s m args below meth cd D A cells slots Q nL ws (pc) lv (st) := fun H locs ls hP hD hS hl => va_new hC.1.1 hC.1.2.1 hC.1.2.2.2.2 hin ty hty hC.1.2.2.2.1 hcl hinst hini hC.2.1 hP hD hS hC.2.2.2.1 hc hfs hcells hslots hdg (fun q H1 hP1 hD1 hS1 => kk q H1 locs ls hP1 hD1 hS1 hl)
theorem g_objInit (hC : gCx p s m args meth cd D cI cZ A cc nL Ts own) {idx a : Nat} (hlink : (Cond.methodLink own idx Lib.objectInit).before args s = true) (hinst : (Cond.instanceMethod Lib.objectInit).before args s = true) (hcode : (Cond.code Lib.objectInit ⟨#[0xb1]⟩ 1 none).before args s = true) (hdg : decode cc pc = .ok (.invokespecial idx, 3)) (hR : 1 ≤ R.frames ∧ (st.map fun v => v.category).sum + 12 ≤ R.locals) (k : G p l e R s m args below meth cd D A cells slots Q nL ws (pc + 3) lv (st)) : G p l e R s m args below meth cd D A cells slots Q nL ws (pc) lv (.ref a :: st) := fun H locs ls hP hD hS hl => W.objInit hC.1.1 hC.1.2.1 hC.1.2.2.2.1 hlink hinst hcode rfl (by rw [hC.1.2.2.1]; exact hl.1) rfl hdg hR.1 (by have := hR.2; show 2 * 0 + _ + 12 ≤ _; omega) (k H locs ls hP hD hS hl)
theorem g_iret {α : Type} {post : Int32 → α → Prop} {W1 : α → va_W} (hC : gCx p s m args meth cd D cI cZ A cc nL Ts own) (a : α) (hr : meth.sig.returnType = some .int) {v : Int32} (hp : post v a) (hw : W1 a = ws) (hdg : decode cc pc = .ok (.ireturn, 1)) : G p l e R s m args below meth cd D A cells slots (MQ below (va_Qi post (gpost D A W1) A) args s cells slots A) nL ws pc lv [.int v] := by
  subst hw
  exact fun H locs ls hP hD hS hl => W.iret hC.1.1 hC.1.2.1 hr (fun t ht hW => ⟨⟨v, a, rfl, hp, by rw [ht]; exact hP, hD⟩, hS.F ht⟩) hS.2.2 hdg hC.2.2.2.2
theorem g_zret {α : Type} {post : Int32 → α → Prop} {W1 : α → va_W} (hC : gCx p s m args meth cd D cI cZ A cc nL Ts own) (a : α) (hr : meth.sig.returnType = some .boolean) {v : Int32} (hz : narrow .boolean (.int v) = .int v) (hp : post v a) (hw : W1 a = ws) (hdg : decode cc pc = .ok (.ireturn, 1)) : G p l e R s m args below meth cd D A cells slots (MQ below (va_Qi post (gpost D A W1) A) args s cells slots A) nL ws pc lv [.int v] := by
  subst hw
  exact fun H locs ls hP hD hS hl => W.zret hC.1.1 hC.1.2.1 hr hz (fun t ht hW => ⟨⟨v, a, rfl, hp, by rw [ht]; exact hP, hD⟩, hS.F ht⟩) hS.2.2 hdg hC.2.2.2.2
theorem g_lret {α : Type} {post : Int64 → α → Prop} {W1 : α → va_W} (hC : gCx p s m args meth cd D cI cZ A cc nL Ts own) (a : α) (hr : meth.sig.returnType = some .long) {v : Int64} (hp : post v a) (hw : W1 a = ws) (hdg : decode cc pc = .ok (.lreturn, 1)) : G p l e R s m args below meth cd D A cells slots (MQ below (va_Ql post (gpost D A W1) A) args s cells slots A) nL ws pc lv [.long v] := by
  subst hw
  exact fun H locs ls hP hD hS hl => W.lret hC.1.1 hC.1.2.1 hr (fun t ht hW => ⟨⟨v, a, rfl, hp, by rw [ht]; exact hP, hD⟩, hS.F ht⟩) hS.2.2 hdg hC.2.2.2.2
theorem g_vret {α : Type} {post : α → Prop} {W1 : α → va_W} (hC : gCx p s m args meth cd D cI cZ A cc nL Ts own) (a : α) (hr : meth.sig.returnType = none) (hp : post a) (hw : W1 a = ws) (hdg : decode cc pc = .ok (.return_, 1)) : G p l e R s m args below meth cd D A cells slots (MQ below (va_Qv post (gpost D A W1) A) args s cells slots A) nL ws pc lv [] := by
  subst hw
  exact fun H locs ls hP hD hS hl => W.vret hC.1.1 hC.1.2.1 hr (fun t ht hW => ⟨⟨a, rfl, hp, by rw [ht]; exact hP, hD⟩, hS.F ht⟩) hS.2.2 hdg hC.2.2.2.2
theorem g_callVi {α : Type} {y : MethodName} {bytes : ByteArray} {maxL mc ms n index : Nat} {ret : Option FieldType} {wd : List Cond} {rm : Room} {wc : va_W} {W1 : α → va_W} {As rest : List Value} {C : String} {b ci : Nat} {fs : List Value} {T : u_T} {N : Nat} {post : Int32 → α → Prop}(hC : gCx p s m args meth cd D cI cZ A cc nL Ts own) (hM : CtI l y wd rm D cI cZ (.ref b :: As) wc post W1 mc ms) (cw : CallW R s args own C index y bytes maxL ret wd rm mc ms n) (hb0 : wc[0]? = some (b, .inr (ci, fs))) (hc : vwCl[ci]? = some (C, T, N)) (hn : As.length = n) (hst : st = As.reverse ++ .ref b :: rest) (hcat : (rest.map fun v => v.category).sum ≤ 8) (hdg : decode cc pc = .ok (.invokevirtual index, 3)) (hf : cells + mc ≤ R.cells ∧ slots + ms ≤ R.slots) (isC isR isN : List Nat) (nw : α → va_W) (hwc : isC.map (fun i => ws[i]?) = wc.map some) (hR : isR.all (fun i => Nat.blt i ws.length) = true) (hndb : (va_nd isC && (va_nd isR && (va_nd isN && isR.all (fun i => !(isC.any (fun j => Nat.beq i j)))))) = true) (hnw : ∀ a, isN.map (fun i => (isR.filterMap (fun i => ws[i]?) ++ W1 a)[i]?) = (nw a).map some) (kk : ∀ (r : Int32) (a : α), post r a → G p l e R s m args below meth cd D A (cells + mc) (slots + ms) Q nL (nw a) (pc + 3) lv (.int r :: rest)) : G p l e R s m args below meth cd D A cells slots Q nL ws (pc) lv (st) := by
  subst hst
  have hnd := g_nd hndb
  have hwr := g_pick hR
  intro H locs ls hP hD hS hl
  have hPc : va_P D vwCl wc H := hP.subm isC hwc
  have hDc := hD.sub isC hnd.1 hwc
  have hFc := va_free hD hS hC.2.2.2.1 isC hwc
  have hU : ∀ U : State, U.heap = H → s.WarmedH U.vm → va_Pc (.ref b :: As) (gpre D cI cZ wc H.size) (Value.ref b :: As).toArray U := fun U hU hW => ⟨rfl, by rw [hU], by rw [hU]; exact hPc, hDc.weaken (fun _ _ _ _ => trivial), va_K.moved hW.alike hC.2.1, gN.warm hW hC.2.2.1⟩
  refine va_calli (va_runV hC.1 (hM H.size) cw ⟨gpre.blind, va_recv hC.2.1 hPc hc hb0, hU⟩ rfl hn hl.1 rfl (lv_room hcat) hdg hf) hS (fun q _ h => hFc q h) hFc (fun r a t H1 locs1 ht hvm hp hB hz hk hS1 => ?_)
  obtain ⟨hP1, hD1⟩ := hB
  rw [ht] at hP1
  obtain ⟨hP2, hD2⟩ := va_join hP hD isC isR hwc hwr hnd.2.1 hnd.2.2.2 hk hFc hP1 hD1
  exact kk r a hp H1 locs1 ls (hP2.subm isN (hnw a)) (hD2.sub isN hnd.2.2.1 (hnw a)) hS1 hl
theorem g_callVip {y : MethodName} {bytes : ByteArray} {maxL n index : Nat} {ret : Option FieldType} {wd : List Cond} {rm : Room} {wc : va_W} {As rest : List Value} {C : String} {b ci : Nat} {fs : List Value} {T : u_T} {N : Nat} (hC : gCx p s m args meth cd D cI cZ A cc nL Ts own) (val : Int32) (hM : CtI l y wd rm D cI cZ (.ref b :: As) wc (fun r (_ : Unit) => r = val) (fun _ => wc) 0 0) (cw : CallW R s args own C index y bytes maxL ret wd rm 0 0 n) (hb0 : wc[0]? = some (b, .inr (ci, fs))) (hc : vwCl[ci]? = some (C, T, N)) (hn : As.length = n) (hst : st = As.reverse ++ .ref b :: rest) (hcat : (rest.map fun v => v.category).sum ≤ 8) (hdg : decode cc pc = .ok (.invokevirtual index, 3)) (hf : cells + 0 ≤ R.cells ∧ slots + 0 ≤ R.slots) (isC : List Nat) (hwc : isC.map (fun i => ws[i]?) = wc.map some) (hnd : va_nd isC = true) (kk : G p l e R s m args below meth cd D A cells slots Q nL ws (pc + 3) lv (.int val :: rest)) : G p l e R s m args below meth cd D A cells slots Q nL ws (pc) lv (st) := by
  subst hst
  intro H locs ls hP hD hS hl
  have hPc : va_P D vwCl wc H := hP.subm isC hwc
  have hDc := hD.sub isC hnd hwc
  have hFc := va_free hD hS hC.2.2.2.1 isC hwc
  have hU : ∀ U : State, U.heap = H → s.WarmedH U.vm → va_Pc (.ref b :: As) (gpre D cI cZ wc H.size) (Value.ref b :: As).toArray U := fun U hU hW => ⟨rfl, by rw [hU], by rw [hU]; exact hPc, hDc.weaken (fun _ _ _ _ => trivial), va_K.moved hW.alike hC.2.1, gN.warm hW hC.2.2.1⟩
  refine va_calli (va_runV hC.1 (hM H.size) cw ⟨gpre.blind, va_recv hC.2.1 hPc hc hb0, hU⟩ rfl hn hl.1 rfl (lv_room hcat) hdg hf) hS (fun q _ h => hFc q h) hFc (fun r a t H1 locs1 ht hvm hp hB hz hk hS1 => ?_)
  obtain ⟨hP1, hD1⟩ := hB
  rw [ht] at hP1
  try dsimp only at hp
  subst hp
  exact kk H1 locs1 ls (g_same hP hD isC hwc hk hP1) hD hS1 hl
theorem g_callVl {α : Type} {y : MethodName} {bytes : ByteArray} {maxL mc ms n index : Nat} {ret : Option FieldType} {wd : List Cond} {rm : Room} {wc : va_W} {W1 : α → va_W} {As rest : List Value} {C : String} {b ci : Nat} {fs : List Value} {T : u_T} {N : Nat} {post : Int64 → α → Prop}(hC : gCx p s m args meth cd D cI cZ A cc nL Ts own) (hM : CtL l y wd rm D cI cZ (.ref b :: As) wc post W1 mc ms) (cw : CallW R s args own C index y bytes maxL ret wd rm mc ms n) (hb0 : wc[0]? = some (b, .inr (ci, fs))) (hc : vwCl[ci]? = some (C, T, N)) (hn : As.length = n) (hst : st = As.reverse ++ .ref b :: rest) (hcat : (rest.map fun v => v.category).sum ≤ 8) (hdg : decode cc pc = .ok (.invokevirtual index, 3)) (hf : cells + mc ≤ R.cells ∧ slots + ms ≤ R.slots) (isC isR isN : List Nat) (nw : α → va_W) (hwc : isC.map (fun i => ws[i]?) = wc.map some) (hR : isR.all (fun i => Nat.blt i ws.length) = true) (hndb : (va_nd isC && (va_nd isR && (va_nd isN && isR.all (fun i => !(isC.any (fun j => Nat.beq i j)))))) = true) (hnw : ∀ a, isN.map (fun i => (isR.filterMap (fun i => ws[i]?) ++ W1 a)[i]?) = (nw a).map some) (kk : ∀ (r : Int64) (a : α), post r a → G p l e R s m args below meth cd D A (cells + mc) (slots + ms) Q nL (nw a) (pc + 3) lv (.long r :: rest)) : G p l e R s m args below meth cd D A cells slots Q nL ws (pc) lv (st) := by
  subst hst
  have hnd := g_nd hndb
  have hwr := g_pick hR
  intro H locs ls hP hD hS hl
  have hPc : va_P D vwCl wc H := hP.subm isC hwc
  have hDc := hD.sub isC hnd.1 hwc
  have hFc := va_free hD hS hC.2.2.2.1 isC hwc
  have hU : ∀ U : State, U.heap = H → s.WarmedH U.vm → va_Pc (.ref b :: As) (gpre D cI cZ wc H.size) (Value.ref b :: As).toArray U := fun U hU hW => ⟨rfl, by rw [hU], by rw [hU]; exact hPc, hDc.weaken (fun _ _ _ _ => trivial), va_K.moved hW.alike hC.2.1, gN.warm hW hC.2.2.1⟩
  refine va_calll (va_runV hC.1 (hM H.size) cw ⟨gpre.blind, va_recv hC.2.1 hPc hc hb0, hU⟩ rfl hn hl.1 rfl (lv_room hcat) hdg hf) hS (fun q _ h => hFc q h) hFc (fun r a t H1 locs1 ht hvm hp hB hz hk hS1 => ?_)
  obtain ⟨hP1, hD1⟩ := hB
  rw [ht] at hP1
  obtain ⟨hP2, hD2⟩ := va_join hP hD isC isR hwc hwr hnd.2.1 hnd.2.2.2 hk hFc hP1 hD1
  exact kk r a hp H1 locs1 ls (hP2.subm isN (hnw a)) (hD2.sub isN hnd.2.2.1 (hnw a)) hS1 hl
theorem g_callVlp {y : MethodName} {bytes : ByteArray} {maxL n index : Nat} {ret : Option FieldType} {wd : List Cond} {rm : Room} {wc : va_W} {As rest : List Value} {C : String} {b ci : Nat} {fs : List Value} {T : u_T} {N : Nat} (hC : gCx p s m args meth cd D cI cZ A cc nL Ts own) (val : Int64) (hM : CtL l y wd rm D cI cZ (.ref b :: As) wc (fun r (_ : Unit) => r = val) (fun _ => wc) 0 0) (cw : CallW R s args own C index y bytes maxL ret wd rm 0 0 n) (hb0 : wc[0]? = some (b, .inr (ci, fs))) (hc : vwCl[ci]? = some (C, T, N)) (hn : As.length = n) (hst : st = As.reverse ++ .ref b :: rest) (hcat : (rest.map fun v => v.category).sum ≤ 8) (hdg : decode cc pc = .ok (.invokevirtual index, 3)) (hf : cells + 0 ≤ R.cells ∧ slots + 0 ≤ R.slots) (isC : List Nat) (hwc : isC.map (fun i => ws[i]?) = wc.map some) (hnd : va_nd isC = true) (kk : G p l e R s m args below meth cd D A cells slots Q nL ws (pc + 3) lv (.long val :: rest)) : G p l e R s m args below meth cd D A cells slots Q nL ws (pc) lv (st) := by
  subst hst
  intro H locs ls hP hD hS hl
  have hPc : va_P D vwCl wc H := hP.subm isC hwc
  have hDc := hD.sub isC hnd hwc
  have hFc := va_free hD hS hC.2.2.2.1 isC hwc
  have hU : ∀ U : State, U.heap = H → s.WarmedH U.vm → va_Pc (.ref b :: As) (gpre D cI cZ wc H.size) (Value.ref b :: As).toArray U := fun U hU hW => ⟨rfl, by rw [hU], by rw [hU]; exact hPc, hDc.weaken (fun _ _ _ _ => trivial), va_K.moved hW.alike hC.2.1, gN.warm hW hC.2.2.1⟩
  refine va_calll (va_runV hC.1 (hM H.size) cw ⟨gpre.blind, va_recv hC.2.1 hPc hc hb0, hU⟩ rfl hn hl.1 rfl (lv_room hcat) hdg hf) hS (fun q _ h => hFc q h) hFc (fun r a t H1 locs1 ht hvm hp hB hz hk hS1 => ?_)
  obtain ⟨hP1, hD1⟩ := hB
  rw [ht] at hP1
  try dsimp only at hp
  subst hp
  exact kk H1 locs1 ls (g_same hP hD isC hwc hk hP1) hD hS1 hl
theorem g_callVv {α : Type} {y : MethodName} {bytes : ByteArray} {maxL mc ms n index : Nat} {ret : Option FieldType} {wd : List Cond} {rm : Room} {wc : va_W} {W1 : α → va_W} {As rest : List Value} {C : String} {b ci : Nat} {fs : List Value} {T : u_T} {N : Nat} {post : α → Prop}(hC : gCx p s m args meth cd D cI cZ A cc nL Ts own) (hM : CtV l y wd rm D cI cZ (.ref b :: As) wc post W1 mc ms) (cw : CallW R s args own C index y bytes maxL ret wd rm mc ms n) (hb0 : wc[0]? = some (b, .inr (ci, fs))) (hc : vwCl[ci]? = some (C, T, N)) (hn : As.length = n) (hst : st = As.reverse ++ .ref b :: rest) (hcat : (rest.map fun v => v.category).sum ≤ 8) (hdg : decode cc pc = .ok (.invokevirtual index, 3)) (hf : cells + mc ≤ R.cells ∧ slots + ms ≤ R.slots) (isC isR isN : List Nat) (nw : α → va_W) (hwc : isC.map (fun i => ws[i]?) = wc.map some) (hR : isR.all (fun i => Nat.blt i ws.length) = true) (hndb : (va_nd isC && (va_nd isR && (va_nd isN && isR.all (fun i => !(isC.any (fun j => Nat.beq i j)))))) = true) (hnw : ∀ a, isN.map (fun i => (isR.filterMap (fun i => ws[i]?) ++ W1 a)[i]?) = (nw a).map some) (kk : ∀ (a : α), post a → G p l e R s m args below meth cd D A (cells + mc) (slots + ms) Q nL (nw a) (pc + 3) lv (rest)) : G p l e R s m args below meth cd D A cells slots Q nL ws (pc) lv (st) := by
  subst hst
  have hnd := g_nd hndb
  have hwr := g_pick hR
  intro H locs ls hP hD hS hl
  have hPc : va_P D vwCl wc H := hP.subm isC hwc
  have hDc := hD.sub isC hnd.1 hwc
  have hFc := va_free hD hS hC.2.2.2.1 isC hwc
  have hU : ∀ U : State, U.heap = H → s.WarmedH U.vm → va_Pc (.ref b :: As) (gpre D cI cZ wc H.size) (Value.ref b :: As).toArray U := fun U hU hW => ⟨rfl, by rw [hU], by rw [hU]; exact hPc, hDc.weaken (fun _ _ _ _ => trivial), va_K.moved hW.alike hC.2.1, gN.warm hW hC.2.2.1⟩
  refine va_callv (va_runV hC.1 (hM H.size) cw ⟨gpre.blind, va_recv hC.2.1 hPc hc hb0, hU⟩ rfl hn hl.1 rfl (lv_room hcat) hdg hf) hS (fun q _ h => hFc q h) hFc (fun a t H1 locs1 ht hvm hp hB hz hk hS1 => ?_)
  obtain ⟨hP1, hD1⟩ := hB
  rw [ht] at hP1
  obtain ⟨hP2, hD2⟩ := va_join hP hD isC isR hwc hwr hnd.2.1 hnd.2.2.2 hk hFc hP1 hD1
  exact kk a hp H1 locs1 ls (hP2.subm isN (hnw a)) (hD2.sub isN hnd.2.2.1 (hnw a)) hS1 hl
theorem g_callSi {α : Type} {y : MethodName} {bytes : ByteArray} {maxL mc ms n index : Nat} {ret : Option FieldType} {wd : List Cond} {rm : Room} {wc : va_W} {W1 : α → va_W} {As rest : List Value} {post : Int32 → α → Prop}(hC : gCx p s m args meth cd D cI cZ A cc nL Ts own) (hM : CtI l y wd rm D cI cZ As wc post W1 mc ms) (cw : CallB R s args own index y bytes maxL ret wd rm mc ms n ∧ (Cond.static y).before args s = true) (hn : As.length = n) (hst : st = As.reverse ++ rest) (hcat : (rest.map fun v => v.category).sum ≤ 8) (hdg : decode cc pc = .ok (.invokestatic index, 3)) (hf : cells + mc ≤ R.cells ∧ slots + ms ≤ R.slots) (isC isR isN : List Nat) (nw : α → va_W) (hwc : isC.map (fun i => ws[i]?) = wc.map some) (hR : isR.all (fun i => Nat.blt i ws.length) = true) (hndb : (va_nd isC && (va_nd isR && (va_nd isN && isR.all (fun i => !(isC.any (fun j => Nat.beq i j)))))) = true) (hnw : ∀ a, isN.map (fun i => (isR.filterMap (fun i => ws[i]?) ++ W1 a)[i]?) = (nw a).map some) (kk : ∀ (r : Int32) (a : α), post r a → G p l e R s m args below meth cd D A (cells + mc) (slots + ms) Q nL (nw a) (pc + 3) lv (.int r :: rest)) : G p l e R s m args below meth cd D A cells slots Q nL ws (pc) lv (st) := by
  subst hst
  have hnd := g_nd hndb
  have hwr := g_pick hR
  intro H locs ls hP hD hS hl
  have hPc : va_P D vwCl wc H := hP.subm isC hwc
  have hDc := hD.sub isC hnd.1 hwc
  have hFc := va_free hD hS hC.2.2.2.1 isC hwc
  have hU : ∀ U : State, U.heap = H → s.WarmedH U.vm → va_Pc As (gpre D cI cZ wc H.size) (As).toArray U := fun U hU hW => ⟨rfl, by rw [hU], by rw [hU]; exact hPc, hDc.weaken (fun _ _ _ _ => trivial), va_K.moved hW.alike hC.2.1, gN.warm hW hC.2.2.1⟩
  refine va_calli (va_runS hC.1 (hM H.size) cw ⟨gpre.blind, hU⟩ rfl hn hl.1 rfl (lv_room hcat) hdg hf) hS (fun q _ h => hFc q h) hFc (fun r a t H1 locs1 ht hvm hp hB hz hk hS1 => ?_)
  obtain ⟨hP1, hD1⟩ := hB
  rw [ht] at hP1
  obtain ⟨hP2, hD2⟩ := va_join hP hD isC isR hwc hwr hnd.2.1 hnd.2.2.2 hk hFc hP1 hD1
  exact kk r a hp H1 locs1 ls (hP2.subm isN (hnw a)) (hD2.sub isN hnd.2.2.1 (hnw a)) hS1 hl
theorem g_callSip {y : MethodName} {bytes : ByteArray} {maxL n index : Nat} {ret : Option FieldType} {wd : List Cond} {rm : Room} {wc : va_W} {As rest : List Value} (hC : gCx p s m args meth cd D cI cZ A cc nL Ts own) (val : Int32) (hM : CtI l y wd rm D cI cZ As wc (fun r (_ : Unit) => r = val) (fun _ => wc) 0 0) (cw : CallB R s args own index y bytes maxL ret wd rm 0 0 n ∧ (Cond.static y).before args s = true) (hn : As.length = n) (hst : st = As.reverse ++ rest) (hcat : (rest.map fun v => v.category).sum ≤ 8) (hdg : decode cc pc = .ok (.invokestatic index, 3)) (hf : cells + 0 ≤ R.cells ∧ slots + 0 ≤ R.slots) (isC : List Nat) (hwc : isC.map (fun i => ws[i]?) = wc.map some) (hnd : va_nd isC = true) (kk : G p l e R s m args below meth cd D A cells slots Q nL ws (pc + 3) lv (.int val :: rest)) : G p l e R s m args below meth cd D A cells slots Q nL ws (pc) lv (st) := by
  subst hst
  intro H locs ls hP hD hS hl
  have hPc : va_P D vwCl wc H := hP.subm isC hwc
  have hDc := hD.sub isC hnd hwc
  have hFc := va_free hD hS hC.2.2.2.1 isC hwc
  have hU : ∀ U : State, U.heap = H → s.WarmedH U.vm → va_Pc As (gpre D cI cZ wc H.size) (As).toArray U := fun U hU hW => ⟨rfl, by rw [hU], by rw [hU]; exact hPc, hDc.weaken (fun _ _ _ _ => trivial), va_K.moved hW.alike hC.2.1, gN.warm hW hC.2.2.1⟩
  refine va_calli (va_runS hC.1 (hM H.size) cw ⟨gpre.blind, hU⟩ rfl hn hl.1 rfl (lv_room hcat) hdg hf) hS (fun q _ h => hFc q h) hFc (fun r a t H1 locs1 ht hvm hp hB hz hk hS1 => ?_)
  obtain ⟨hP1, hD1⟩ := hB
  rw [ht] at hP1
  try dsimp only at hp
  subst hp
  exact kk H1 locs1 ls (g_same hP hD isC hwc hk hP1) hD hS1 hl
theorem g_callSl {α : Type} {y : MethodName} {bytes : ByteArray} {maxL mc ms n index : Nat} {ret : Option FieldType} {wd : List Cond} {rm : Room} {wc : va_W} {W1 : α → va_W} {As rest : List Value} {post : Int64 → α → Prop}(hC : gCx p s m args meth cd D cI cZ A cc nL Ts own) (hM : CtL l y wd rm D cI cZ As wc post W1 mc ms) (cw : CallB R s args own index y bytes maxL ret wd rm mc ms n ∧ (Cond.static y).before args s = true) (hn : As.length = n) (hst : st = As.reverse ++ rest) (hcat : (rest.map fun v => v.category).sum ≤ 8) (hdg : decode cc pc = .ok (.invokestatic index, 3)) (hf : cells + mc ≤ R.cells ∧ slots + ms ≤ R.slots) (isC isR isN : List Nat) (nw : α → va_W) (hwc : isC.map (fun i => ws[i]?) = wc.map some) (hR : isR.all (fun i => Nat.blt i ws.length) = true) (hndb : (va_nd isC && (va_nd isR && (va_nd isN && isR.all (fun i => !(isC.any (fun j => Nat.beq i j)))))) = true) (hnw : ∀ a, isN.map (fun i => (isR.filterMap (fun i => ws[i]?) ++ W1 a)[i]?) = (nw a).map some) (kk : ∀ (r : Int64) (a : α), post r a → G p l e R s m args below meth cd D A (cells + mc) (slots + ms) Q nL (nw a) (pc + 3) lv (.long r :: rest)) : G p l e R s m args below meth cd D A cells slots Q nL ws (pc) lv (st) := by
  subst hst
  have hnd := g_nd hndb
  have hwr := g_pick hR
  intro H locs ls hP hD hS hl
  have hPc : va_P D vwCl wc H := hP.subm isC hwc
  have hDc := hD.sub isC hnd.1 hwc
  have hFc := va_free hD hS hC.2.2.2.1 isC hwc
  have hU : ∀ U : State, U.heap = H → s.WarmedH U.vm → va_Pc As (gpre D cI cZ wc H.size) (As).toArray U := fun U hU hW => ⟨rfl, by rw [hU], by rw [hU]; exact hPc, hDc.weaken (fun _ _ _ _ => trivial), va_K.moved hW.alike hC.2.1, gN.warm hW hC.2.2.1⟩
  refine va_calll (va_runS hC.1 (hM H.size) cw ⟨gpre.blind, hU⟩ rfl hn hl.1 rfl (lv_room hcat) hdg hf) hS (fun q _ h => hFc q h) hFc (fun r a t H1 locs1 ht hvm hp hB hz hk hS1 => ?_)
  obtain ⟨hP1, hD1⟩ := hB
  rw [ht] at hP1
  obtain ⟨hP2, hD2⟩ := va_join hP hD isC isR hwc hwr hnd.2.1 hnd.2.2.2 hk hFc hP1 hD1
  exact kk r a hp H1 locs1 ls (hP2.subm isN (hnw a)) (hD2.sub isN hnd.2.2.1 (hnw a)) hS1 hl
theorem g_callSlp {y : MethodName} {bytes : ByteArray} {maxL n index : Nat} {ret : Option FieldType} {wd : List Cond} {rm : Room} {wc : va_W} {As rest : List Value} (hC : gCx p s m args meth cd D cI cZ A cc nL Ts own) (val : Int64) (hM : CtL l y wd rm D cI cZ As wc (fun r (_ : Unit) => r = val) (fun _ => wc) 0 0) (cw : CallB R s args own index y bytes maxL ret wd rm 0 0 n ∧ (Cond.static y).before args s = true) (hn : As.length = n) (hst : st = As.reverse ++ rest) (hcat : (rest.map fun v => v.category).sum ≤ 8) (hdg : decode cc pc = .ok (.invokestatic index, 3)) (hf : cells + 0 ≤ R.cells ∧ slots + 0 ≤ R.slots) (isC : List Nat) (hwc : isC.map (fun i => ws[i]?) = wc.map some) (hnd : va_nd isC = true) (kk : G p l e R s m args below meth cd D A cells slots Q nL ws (pc + 3) lv (.long val :: rest)) : G p l e R s m args below meth cd D A cells slots Q nL ws (pc) lv (st) := by
  subst hst
  intro H locs ls hP hD hS hl
  have hPc : va_P D vwCl wc H := hP.subm isC hwc
  have hDc := hD.sub isC hnd hwc
  have hFc := va_free hD hS hC.2.2.2.1 isC hwc
  have hU : ∀ U : State, U.heap = H → s.WarmedH U.vm → va_Pc As (gpre D cI cZ wc H.size) (As).toArray U := fun U hU hW => ⟨rfl, by rw [hU], by rw [hU]; exact hPc, hDc.weaken (fun _ _ _ _ => trivial), va_K.moved hW.alike hC.2.1, gN.warm hW hC.2.2.1⟩
  refine va_calll (va_runS hC.1 (hM H.size) cw ⟨gpre.blind, hU⟩ rfl hn hl.1 rfl (lv_room hcat) hdg hf) hS (fun q _ h => hFc q h) hFc (fun r a t H1 locs1 ht hvm hp hB hz hk hS1 => ?_)
  obtain ⟨hP1, hD1⟩ := hB
  rw [ht] at hP1
  try dsimp only at hp
  subst hp
  exact kk H1 locs1 ls (g_same hP hD isC hwc hk hP1) hD hS1 hl
theorem g_callSv {α : Type} {y : MethodName} {bytes : ByteArray} {maxL mc ms n index : Nat} {ret : Option FieldType} {wd : List Cond} {rm : Room} {wc : va_W} {W1 : α → va_W} {As rest : List Value} {post : α → Prop}(hC : gCx p s m args meth cd D cI cZ A cc nL Ts own) (hM : CtV l y wd rm D cI cZ As wc post W1 mc ms) (cw : CallB R s args own index y bytes maxL ret wd rm mc ms n ∧ (Cond.static y).before args s = true) (hn : As.length = n) (hst : st = As.reverse ++ rest) (hcat : (rest.map fun v => v.category).sum ≤ 8) (hdg : decode cc pc = .ok (.invokestatic index, 3)) (hf : cells + mc ≤ R.cells ∧ slots + ms ≤ R.slots) (isC isR isN : List Nat) (nw : α → va_W) (hwc : isC.map (fun i => ws[i]?) = wc.map some) (hR : isR.all (fun i => Nat.blt i ws.length) = true) (hndb : (va_nd isC && (va_nd isR && (va_nd isN && isR.all (fun i => !(isC.any (fun j => Nat.beq i j)))))) = true) (hnw : ∀ a, isN.map (fun i => (isR.filterMap (fun i => ws[i]?) ++ W1 a)[i]?) = (nw a).map some) (kk : ∀ (a : α), post a → G p l e R s m args below meth cd D A (cells + mc) (slots + ms) Q nL (nw a) (pc + 3) lv (rest)) : G p l e R s m args below meth cd D A cells slots Q nL ws (pc) lv (st) := by
  subst hst
  have hnd := g_nd hndb
  have hwr := g_pick hR
  intro H locs ls hP hD hS hl
  have hPc : va_P D vwCl wc H := hP.subm isC hwc
  have hDc := hD.sub isC hnd.1 hwc
  have hFc := va_free hD hS hC.2.2.2.1 isC hwc
  have hU : ∀ U : State, U.heap = H → s.WarmedH U.vm → va_Pc As (gpre D cI cZ wc H.size) (As).toArray U := fun U hU hW => ⟨rfl, by rw [hU], by rw [hU]; exact hPc, hDc.weaken (fun _ _ _ _ => trivial), va_K.moved hW.alike hC.2.1, gN.warm hW hC.2.2.1⟩
  refine va_callv (va_runS hC.1 (hM H.size) cw ⟨gpre.blind, hU⟩ rfl hn hl.1 rfl (lv_room hcat) hdg hf) hS (fun q _ h => hFc q h) hFc (fun a t H1 locs1 ht hvm hp hB hz hk hS1 => ?_)
  obtain ⟨hP1, hD1⟩ := hB
  rw [ht] at hP1
  obtain ⟨hP2, hD2⟩ := va_join hP hD isC isR hwc hwr hnd.2.1 hnd.2.2.2 hk hFc hP1 hD1
  exact kk a hp H1 locs1 ls (hP2.subm isN (hnw a)) (hD2.sub isN hnd.2.2.1 (hnw a)) hS1 hl
theorem g_callSNi {α : Type} {y : MethodName} {bytes : ByteArray} {maxL mc ms n index : Nat} {ret : Option FieldType} {wd : List Cond} {rm : Room} {wc : va_W} {W1 : α → va_W} {As rest : List Value} {host : String} {post : Int32 → α → Prop}(hC : gCx p s m args meth cd D cI cZ A cc nL Ts own) (hM : CtI l y wd rm D cI cZ As wc post W1 mc ms) (cw : va_CN R s args own index y host bytes maxL ret wd rm mc ms n ∧ (Cond.static y).before args s = true ∧ True) (hn : As.length = n) (hst : st = As.reverse ++ rest) (hcat : (rest.map fun v => v.category).sum ≤ 8) (hdg : decode cc pc = .ok (.invokestatic index, 3)) (hf : cells + mc ≤ R.cells ∧ slots + ms ≤ R.slots) (isC isR isN : List Nat) (nw : α → va_W) (hwc : isC.map (fun i => ws[i]?) = wc.map some) (hR : isR.all (fun i => Nat.blt i ws.length) = true) (hndb : (va_nd isC && (va_nd isR && (va_nd isN && isR.all (fun i => !(isC.any (fun j => Nat.beq i j)))))) = true) (hnw : ∀ a, isN.map (fun i => (isR.filterMap (fun i => ws[i]?) ++ W1 a)[i]?) = (nw a).map some) (kk : ∀ (r : Int32) (a : α), post r a → G p l e R s m args below meth cd D A (cells + mc) (slots + ms) Q nL (nw a) (pc + 3) lv (.int r :: rest)) : G p l e R s m args below meth cd D A cells slots Q nL ws (pc) lv (st) := by
  subst hst
  have hnd := g_nd hndb
  have hwr := g_pick hR
  intro H locs ls hP hD hS hl
  have hPc : va_P D vwCl wc H := hP.subm isC hwc
  have hDc := hD.sub isC hnd.1 hwc
  have hFc := va_free hD hS hC.2.2.2.1 isC hwc
  have hU : ∀ U : State, U.heap = H → s.WarmedH U.vm → va_Pc As (gpre D cI cZ wc H.size) (As).toArray U := fun U hU hW => ⟨rfl, by rw [hU], by rw [hU]; exact hPc, hDc.weaken (fun _ _ _ _ => trivial), va_K.moved hW.alike hC.2.1, gN.warm hW hC.2.2.1⟩
  refine va_calli (va_runSN hC.1 (hM H.size) cw ⟨gpre.blind, hU⟩ rfl hn hl.1 rfl (lv_room hcat) hdg hf) hS (fun q _ h => hFc q h) hFc (fun r a t H1 locs1 ht hvm hp hB hz hk hS1 => ?_)
  obtain ⟨hP1, hD1⟩ := hB
  rw [ht] at hP1
  obtain ⟨hP2, hD2⟩ := va_join hP hD isC isR hwc hwr hnd.2.1 hnd.2.2.2 hk hFc hP1 hD1
  exact kk r a hp H1 locs1 ls (hP2.subm isN (hnw a)) (hD2.sub isN hnd.2.2.1 (hnw a)) hS1 hl
theorem g_callSNip {y : MethodName} {bytes : ByteArray} {maxL n index : Nat} {ret : Option FieldType} {wd : List Cond} {rm : Room} {wc : va_W} {As rest : List Value} {host : String} (hC : gCx p s m args meth cd D cI cZ A cc nL Ts own) (val : Int32) (hM : CtI l y wd rm D cI cZ As wc (fun r (_ : Unit) => r = val) (fun _ => wc) 0 0) (cw : va_CN R s args own index y host bytes maxL ret wd rm 0 0 n ∧ (Cond.static y).before args s = true ∧ True) (hn : As.length = n) (hst : st = As.reverse ++ rest) (hcat : (rest.map fun v => v.category).sum ≤ 8) (hdg : decode cc pc = .ok (.invokestatic index, 3)) (hf : cells + 0 ≤ R.cells ∧ slots + 0 ≤ R.slots) (isC : List Nat) (hwc : isC.map (fun i => ws[i]?) = wc.map some) (hnd : va_nd isC = true) (kk : G p l e R s m args below meth cd D A cells slots Q nL ws (pc + 3) lv (.int val :: rest)) : G p l e R s m args below meth cd D A cells slots Q nL ws (pc) lv (st) := by
  subst hst
  intro H locs ls hP hD hS hl
  have hPc : va_P D vwCl wc H := hP.subm isC hwc
  have hDc := hD.sub isC hnd hwc
  have hFc := va_free hD hS hC.2.2.2.1 isC hwc
  have hU : ∀ U : State, U.heap = H → s.WarmedH U.vm → va_Pc As (gpre D cI cZ wc H.size) (As).toArray U := fun U hU hW => ⟨rfl, by rw [hU], by rw [hU]; exact hPc, hDc.weaken (fun _ _ _ _ => trivial), va_K.moved hW.alike hC.2.1, gN.warm hW hC.2.2.1⟩
  refine va_calli (va_runSN hC.1 (hM H.size) cw ⟨gpre.blind, hU⟩ rfl hn hl.1 rfl (lv_room hcat) hdg hf) hS (fun q _ h => hFc q h) hFc (fun r a t H1 locs1 ht hvm hp hB hz hk hS1 => ?_)
  obtain ⟨hP1, hD1⟩ := hB
  rw [ht] at hP1
  try dsimp only at hp
  subst hp
  exact kk H1 locs1 ls (g_same hP hD isC hwc hk hP1) hD hS1 hl
theorem g_callSNv {α : Type} {y : MethodName} {bytes : ByteArray} {maxL mc ms n index : Nat} {ret : Option FieldType} {wd : List Cond} {rm : Room} {wc : va_W} {W1 : α → va_W} {As rest : List Value} {host : String} {post : α → Prop}(hC : gCx p s m args meth cd D cI cZ A cc nL Ts own) (hM : CtV l y wd rm D cI cZ As wc post W1 mc ms) (cw : va_CN R s args own index y host bytes maxL ret wd rm mc ms n ∧ (Cond.static y).before args s = true ∧ True) (hn : As.length = n) (hst : st = As.reverse ++ rest) (hcat : (rest.map fun v => v.category).sum ≤ 8) (hdg : decode cc pc = .ok (.invokestatic index, 3)) (hf : cells + mc ≤ R.cells ∧ slots + ms ≤ R.slots) (isC isR isN : List Nat) (nw : α → va_W) (hwc : isC.map (fun i => ws[i]?) = wc.map some) (hR : isR.all (fun i => Nat.blt i ws.length) = true) (hndb : (va_nd isC && (va_nd isR && (va_nd isN && isR.all (fun i => !(isC.any (fun j => Nat.beq i j)))))) = true) (hnw : ∀ a, isN.map (fun i => (isR.filterMap (fun i => ws[i]?) ++ W1 a)[i]?) = (nw a).map some) (kk : ∀ (a : α), post a → G p l e R s m args below meth cd D A (cells + mc) (slots + ms) Q nL (nw a) (pc + 3) lv (rest)) : G p l e R s m args below meth cd D A cells slots Q nL ws (pc) lv (st) := by
  subst hst
  have hnd := g_nd hndb
  have hwr := g_pick hR
  intro H locs ls hP hD hS hl
  have hPc : va_P D vwCl wc H := hP.subm isC hwc
  have hDc := hD.sub isC hnd.1 hwc
  have hFc := va_free hD hS hC.2.2.2.1 isC hwc
  have hU : ∀ U : State, U.heap = H → s.WarmedH U.vm → va_Pc As (gpre D cI cZ wc H.size) (As).toArray U := fun U hU hW => ⟨rfl, by rw [hU], by rw [hU]; exact hPc, hDc.weaken (fun _ _ _ _ => trivial), va_K.moved hW.alike hC.2.1, gN.warm hW hC.2.2.1⟩
  refine va_callv (va_runSN hC.1 (hM H.size) cw ⟨gpre.blind, hU⟩ rfl hn hl.1 rfl (lv_room hcat) hdg hf) hS (fun q _ h => hFc q h) hFc (fun a t H1 locs1 ht hvm hp hB hz hk hS1 => ?_)
  obtain ⟨hP1, hD1⟩ := hB
  rw [ht] at hP1
  obtain ⟨hP2, hD2⟩ := va_join hP hD isC isR hwc hwr hnd.2.1 hnd.2.2.2 hk hFc hP1 hD1
  exact kk a hp H1 locs1 ls (hP2.subm isN (hnw a)) (hD2.sub isN hnd.2.2.1 (hnw a)) hS1 hl
theorem g_callIv {α : Type} {y : MethodName} {bytes : ByteArray} {maxL mc ms n index : Nat} {ret : Option FieldType} {wd : List Cond} {rm : Room} {wc : va_W} {W1 : α → va_W} {As rest : List Value} {b ci : Nat} {fs : List Value} {T : u_T} {N : Nat} {post : α → Prop}(hC : gCx p s m args meth cd D cI cZ A cc nL Ts own) (hM : CtV l y wd rm D cI cZ (.ref b :: As) wc post W1 mc ms) (cw : CallB R s args own index y bytes maxL none wd rm mc ms n ∧ y.name = "<init>" ∧ (Cond.instanceMethod y).before args s = true) (hn : As.length = n) (hst : st = As.reverse ++ .ref b :: rest) (hcat : (rest.map fun v => v.category).sum ≤ 8) (hdg : decode cc pc = .ok (.invokespecial index, 3)) (hf : cells + mc ≤ R.cells ∧ slots + ms ≤ R.slots) (isC isR isN : List Nat) (nw : α → va_W) (hwc : isC.map (fun i => ws[i]?) = wc.map some) (hR : isR.all (fun i => Nat.blt i ws.length) = true) (hndb : (va_nd isC && (va_nd isR && (va_nd isN && isR.all (fun i => !(isC.any (fun j => Nat.beq i j)))))) = true) (hnw : ∀ a, isN.map (fun i => (isR.filterMap (fun i => ws[i]?) ++ W1 a)[i]?) = (nw a).map some) (kk : ∀ (a : α), post a → G p l e R s m args below meth cd D A (cells + mc) (slots + ms) Q nL (nw a) (pc + 3) lv (rest)) : G p l e R s m args below meth cd D A cells slots Q nL ws (pc) lv (st) := by
  subst hst
  have hnd := g_nd hndb
  have hwr := g_pick hR
  intro H locs ls hP hD hS hl
  have hPc : va_P D vwCl wc H := hP.subm isC hwc
  have hDc := hD.sub isC hnd.1 hwc
  have hFc := va_free hD hS hC.2.2.2.1 isC hwc
  have hU : ∀ U : State, U.heap = H → s.WarmedH U.vm → va_Pc (.ref b :: As) (gpre D cI cZ wc H.size) (Value.ref b :: As).toArray U := fun U hU hW => ⟨rfl, by rw [hU], by rw [hU]; exact hPc, hDc.weaken (fun _ _ _ _ => trivial), va_K.moved hW.alike hC.2.1, gN.warm hW hC.2.2.1⟩
  refine va_callv (va_runI hC.1 (hM H.size) cw ⟨gpre.blind, hU⟩ rfl hn hl.1 rfl (lv_room hcat) hdg hf) hS (fun q _ h => hFc q h) hFc (fun a t H1 locs1 ht hvm hp hB hz hk hS1 => ?_)
  obtain ⟨hP1, hD1⟩ := hB
  rw [ht] at hP1
  obtain ⟨hP2, hD2⟩ := va_join hP hD isC isR hwc hwr hnd.2.1 hnd.2.2.2 hk hFc hP1 hD1
  exact kk a hp H1 locs1 ls (hP2.subm isN (hnw a)) (hD2.sub isN hnd.2.2.1 (hnw a)) hS1 hl
theorem g_callINv {α : Type} {y : MethodName} {bytes : ByteArray} {maxL mc ms n index : Nat} {ret : Option FieldType} {wd : List Cond} {rm : Room} {wc : va_W} {W1 : α → va_W} {As rest : List Value} {host : String} {b ci : Nat} {fs : List Value} {T : u_T} {N : Nat} {post : α → Prop}(hC : gCx p s m args meth cd D cI cZ A cc nL Ts own) (hM : CtV l y wd rm D cI cZ (.ref b :: As) wc post W1 mc ms) (cw : va_CN R s args own index y host bytes maxL none wd rm mc ms n ∧ y.name = "<init>" ∧ (Cond.instanceMethod y).before args s = true) (hn : As.length = n) (hst : st = As.reverse ++ .ref b :: rest) (hcat : (rest.map fun v => v.category).sum ≤ 8) (hdg : decode cc pc = .ok (.invokespecial index, 3)) (hf : cells + mc ≤ R.cells ∧ slots + ms ≤ R.slots) (isC isR isN : List Nat) (nw : α → va_W) (hwc : isC.map (fun i => ws[i]?) = wc.map some) (hR : isR.all (fun i => Nat.blt i ws.length) = true) (hndb : (va_nd isC && (va_nd isR && (va_nd isN && isR.all (fun i => !(isC.any (fun j => Nat.beq i j)))))) = true) (hnw : ∀ a, isN.map (fun i => (isR.filterMap (fun i => ws[i]?) ++ W1 a)[i]?) = (nw a).map some) (kk : ∀ (a : α), post a → G p l e R s m args below meth cd D A (cells + mc) (slots + ms) Q nL (nw a) (pc + 3) lv (rest)) : G p l e R s m args below meth cd D A cells slots Q nL ws (pc) lv (st) := by
  subst hst
  have hnd := g_nd hndb
  have hwr := g_pick hR
  intro H locs ls hP hD hS hl
  have hPc : va_P D vwCl wc H := hP.subm isC hwc
  have hDc := hD.sub isC hnd.1 hwc
  have hFc := va_free hD hS hC.2.2.2.1 isC hwc
  have hU : ∀ U : State, U.heap = H → s.WarmedH U.vm → va_Pc (.ref b :: As) (gpre D cI cZ wc H.size) (Value.ref b :: As).toArray U := fun U hU hW => ⟨rfl, by rw [hU], by rw [hU]; exact hPc, hDc.weaken (fun _ _ _ _ => trivial), va_K.moved hW.alike hC.2.1, gN.warm hW hC.2.2.1⟩
  refine va_callv (va_runIN hC.1 (hM H.size) cw ⟨gpre.blind, hU⟩ rfl hn hl.1 rfl (lv_room hcat) hdg hf) hS (fun q _ h => hFc q h) hFc (fun a t H1 locs1 ht hvm hp hB hz hk hS1 => ?_)
  obtain ⟨hP1, hD1⟩ := hB
  rw [ht] at hP1
  obtain ⟨hP2, hD2⟩ := va_join hP hD isC isR hwc hwr hnd.2.1 hnd.2.2.2 hk hFc hP1 hD1
  exact kk a hp H1 locs1 ls (hP2.subm isN (hnw a)) (hD2.sub isN hnd.2.2.1 (hnw a)) hS1 hl
end GL
/-- a method's body, from its entry -/
theorem g_start {l : Launch} {y : MethodName} {wd wd' : List Cond} {rm : Room} {D : va_G} {cI cZ : ClassId} {As : List Value} {W0 : va_W} {Qc : Nat → Array Value → State → Outcome → State → Prop} {mc ms sz : Nat} {cc : ByteArray} {nL : Nat} {ret : Option FieldType} {own : String} (lv0 : List (Nat × Value)) (hy : plainName y.cls = true) (ho : y.cls = own) (hw : wd = Cond.code y cc nL ret :: wd') (hlen : (lg_sl As).length ≤ nL) (hlv : lv_args 0 As = lv0)
    (body : ∀ (p : Program) (e : Env) (s : State) (m : MethodId) (below : List Frame) (meth : Method) (cd : Code), (y.name = "<init>" → meth.name = "<init>") → meth.sig.returnType = ret → gCx p s m As.toArray meth cd D cI cZ (va_A W0 s.heap.size) cc nL wd own → G p l e rm s m As.toArray below meth cd D (va_A W0 s.heap.size) 0 0 (MQ below (Qc s.heap.size) As.toArray s mc ms (va_A W0 s.heap.size)) nL W0 0 lv0 []) :
    Met l y wd rm (va_Pc As (gpre D cI cZ W0 sz)) (Qc sz) mc ms (va_A W0 sz) := by
  refine Met.ofW (cc := cc) (maxL := nL) (ret := ret) hy hw ?_
  intro p e s m args below meth c s₁ B hml hv
  obtain ⟨rfl, hsz, hP, hD0, hK, hN⟩ := hv
  subst hsz
  have hown : s.vm.findClass own = some m.cls := ho ▸ findClass_of_methodNamed B.named
  have hts := atoms_spec (ws := wd) B.pre
  have hl := lv_entry As (n := nL) hlen
  rw [lg_entry_eq]
  rw [hlv] at hl
  exact body p e s m below meth c (fun h => (name_of_methodNamed B.named B.method).1.trans h) B.returns ⟨⟨B.exec, B.bytes, hml, hown, hts⟩, hK, hN, fun q h => Or.inr h, B.notSynchronized⟩ s.heap [] _ hP hD0.self va_S.rf hl
theorem g_startI {l : Launch} {y : MethodName} {wd wd2 : List Cond} {rm : Room} {D : va_G} {cI cZ : ClassId} {As : List Value} {W0 : va_W} {α : Type} {W1 : α → va_W} {mc ms : Nat} {cc : ByteArray} {nL : Nat} {ret : Option FieldType} {own : String} {post : Int32 → α → Prop} (lv0 : List (Nat × Value)) (hy : plainName y.cls = true) (ho : y.cls = own) (hw : wd = Cond.code y cc nL ret :: wd2) (hlen : (lg_sl As).length ≤ nL) (hlv : lv_args 0 As = lv0)
    (body : ∀ (p : Program) (e : Env) (s : State) (m : MethodId) (args : Array Value) (below : List Frame) (meth : Method) (cd : Code) (A : Nat → Prop) (Q : State → Prop), (y.name = "<init>" → meth.name = "<init>") → meth.sig.returnType = ret → Q = MQ below (va_Qi post (gpost D A W1) A) args s mc ms A → gCx p s m args meth cd D cI cZ A cc nL wd own → G p l e rm s m args below meth cd D A 0 0 Q nL W0 0 lv0 []) :
    CtI l y wd rm D cI cZ As W0 post W1 mc ms := fun sz => g_start (Qc := fun z => va_Qi post (gpost D (va_A W0 z) W1) (va_A W0 z)) lv0 hy ho hw hlen hlv (fun p e s m below meth cd h1 h2 h3 => body p e s m _ below meth cd _ _ h1 h2 rfl h3)
theorem g_startL {l : Launch} {y : MethodName} {wd wd2 : List Cond} {rm : Room} {D : va_G} {cI cZ : ClassId} {As : List Value} {W0 : va_W} {α : Type} {W1 : α → va_W} {mc ms : Nat} {cc : ByteArray} {nL : Nat} {ret : Option FieldType} {own : String} {post : Int64 → α → Prop} (lv0 : List (Nat × Value)) (hy : plainName y.cls = true) (ho : y.cls = own) (hw : wd = Cond.code y cc nL ret :: wd2) (hlen : (lg_sl As).length ≤ nL) (hlv : lv_args 0 As = lv0)
    (body : ∀ (p : Program) (e : Env) (s : State) (m : MethodId) (args : Array Value) (below : List Frame) (meth : Method) (cd : Code) (A : Nat → Prop) (Q : State → Prop), (y.name = "<init>" → meth.name = "<init>") → meth.sig.returnType = ret → Q = MQ below (va_Ql post (gpost D A W1) A) args s mc ms A → gCx p s m args meth cd D cI cZ A cc nL wd own → G p l e rm s m args below meth cd D A 0 0 Q nL W0 0 lv0 []) :
    CtL l y wd rm D cI cZ As W0 post W1 mc ms := fun sz => g_start (Qc := fun z => va_Ql post (gpost D (va_A W0 z) W1) (va_A W0 z)) lv0 hy ho hw hlen hlv (fun p e s m below meth cd h1 h2 h3 => body p e s m _ below meth cd _ _ h1 h2 rfl h3)
theorem g_startV {l : Launch} {y : MethodName} {wd wd2 : List Cond} {rm : Room} {D : va_G} {cI cZ : ClassId} {As : List Value} {W0 : va_W} {α : Type} {W1 : α → va_W} {mc ms : Nat} {cc : ByteArray} {nL : Nat} {ret : Option FieldType} {own : String} {post : α → Prop} (lv0 : List (Nat × Value)) (hy : plainName y.cls = true) (ho : y.cls = own) (hw : wd = Cond.code y cc nL ret :: wd2) (hlen : (lg_sl As).length ≤ nL) (hlv : lv_args 0 As = lv0)
    (body : ∀ (p : Program) (e : Env) (s : State) (m : MethodId) (args : Array Value) (below : List Frame) (meth : Method) (cd : Code) (A : Nat → Prop) (Q : State → Prop), (y.name = "<init>" → meth.name = "<init>") → meth.sig.returnType = ret → Q = MQ below (va_Qv post (gpost D A W1) A) args s mc ms A → gCx p s m args meth cd D cI cZ A cc nL wd own → G p l e rm s m args below meth cd D A 0 0 Q nL W0 0 lv0 []) :
    CtV l y wd rm D cI cZ As W0 post W1 mc ms := fun sz => g_start (Qc := fun z => va_Qv post (gpost D (va_A W0 z) W1) (va_A W0 z)) lv0 hy ho hw hlen hlv (fun p e s m below meth cd h1 h2 h3 => body p e s m _ below meth cd _ _ h1 h2 rfl h3)
end
section
/-! numbers: a truth as an int; rows over numbers that are naturals -/
def bI (P : Prop) [Decidable P] : Int32 := if P then 1 else 0
theorem bI_t {P : Prop} [Decidable P] (h : P) : bI P = nI 1 := by simp [bI, h]; rfl
theorem bI_f {P : Prop} [Decidable P] (h : ¬ P) : bI P = nI 0 := by simp [bI, h]; rfl
theorem bI_0 {P : Prop} [Decidable P] (h : bI P = 0) : ¬ P := fun q => by simp [bI, q] at h
theorem bI_n0 {P : Prop} [Decidable P] (h : ¬ bI P = 0) : P := by
  by_cases q : P
  · exact q
  · simp [bI, q] at h
theorem bI_nar {P : Prop} [Decidable P] : narrow .boolean (.int (bI P)) = .int (bI P) := by
  by_cases q : P
  · rw [bI_t q]; decide +kernel
  · rw [bI_f q]; decide +kernel
theorem bI_vnar {P : Prop} [Decidable P] : vp_nar .boolean (bI P) = bI P := by
  by_cases q : P
  · rw [bI_t q]; decide +kernel
  · rw [bI_f q]; decide +kernel
theorem bI_iff {P R : Prop} [Decidable P] [Decidable R] (h : P ↔ R) : bI P = bI R := by
  by_cases q : P
  · rw [bI_t q, bI_t (h.mp q)]
  · rw [bI_f q, bI_f (fun r => q (h.mpr r))]
theorem nI_and (a b : Nat) : nI a &&& nI b = nI (a &&& b) := by
  apply Int32.toBitVec_inj.mp
  show (BitVec.ofNat 32 a) &&& (BitVec.ofNat 32 b) = BitVec.ofNat 32 (a &&& b)
  exact (BitVec.ofNat_and).symm
theorem nI_or (a b : Nat) : nI a ||| nI b = nI (a ||| b) := by
  apply Int32.toBitVec_inj.mp
  show (BitVec.ofNat 32 a) ||| (BitVec.ofNat 32 b) = BitVec.ofNat 32 (a ||| b)
  exact (BitVec.ofNat_or).symm
theorem nI_xor (a b : Nat) : nI a ^^^ nI b = nI (a ^^^ b) := by
  apply Int32.toBitVec_inj.mp
  show (BitVec.ofNat 32 a) ^^^ (BitVec.ofNat 32 b) = BitVec.ofNat 32 (a ^^^ b)
  exact (BitVec.ofNat_xor).symm
theorem nI_31 : ∀ q, q < 31 → ((nI q &&& (31 : Int32)).toBitVec.smod 32).toNat = q := by decide +kernel
theorem nI_shl1 {q : Nat} (h : q < 31) : nI 1 <<< (nI q &&& (31 : Int32)) = nI (2 ^ q) := by
  have h1 : 2 ^ q < 2 ^ 31 := Nat.pow_lt_pow_right (by decide) h
  rw [pk_shlN _ q (nI_31 q h) (by omega), Nat.one_mul]
theorem nI_shr {a q : Nat} (ha : a < 2 ^ 31) (h : q < 31) : nI a >>> (nI q &&& (31 : Int32)) = nI (a / 2 ^ q) := pk_shrN ha _ q (nI_31 q h)
/-- a place of a row of n -/
abbrev inR (a : Int32) (n : Nat) : Prop := 0 ≤ a ∧ a < nI n
theorem inR_dec (a : Int32) (n : Nat) : (0 ≤ a ∧ a < nI n) ↔ inR a n := Iff.rfl
theorem inR_n {a : Int32} {n : Nat} (hn : n < 2 ^ 31) (h : inR a n) : ∃ k : Nat, k < n ∧ a = nI k := by
  rcases pk_ix a hn with q | q | q
  · exact absurd h.1 (by rw [Int32.le_iff_toInt_le]; rw [Int32.lt_iff_toInt_lt] at q; omega)
  · have := h.2; rw [Int32.lt_iff_toInt_lt] at this; rw [Int32.le_iff_toInt_le] at q; omega
  · exact q
theorem inR_k {k n : Nat} (hn : n < 2 ^ 31) (h : k < n) : inR (nI k) n := ⟨nI_pos' (by omega), nI_lt h hn⟩
theorem inR_kn {k n : Nat} (hk : k < 2 ^ 31) (hn : n < 2 ^ 31) : inR (nI k) n ↔ k < n := ⟨fun h => (nI_ltI hk hn).mp h.2, inR_k hn⟩
section GN
variable {p : Program} {l : Launch} {e : Env} {R : Room} {s : State} {m : MethodId} {args : Array Value} {below : List Frame} {meth : Method} {cd : Code} {D : va_G} {cI cZ : ClassId} {A : Nat → Prop} {cells slots : Nat} {Q : State → Prop} {cc : ByteArray} {nL : Nat} {Ts : List Cond} {own : String} {ws : va_W} {pc : Nat} {lv : List (Nat × Value)} {st : List Value}
theorem g_iadd_n (hC : gCx p s m args meth cd D cI cZ A cc nL Ts own) {a b : Nat} (hdg : decode cc pc = .ok (.iadd, 1)) (k : G p l e R s m args below meth cd D A cells slots Q nL ws (pc + 1) lv (.int (nI (a + b)) :: st)) : G p l e R s m args below meth cd D A cells slots Q nL ws (pc) lv (.int (nI b) :: .int (nI a) :: st) := g_iadd hC hdg (by rw [nI_add]; exact k)
theorem g_imul_n (hC : gCx p s m args meth cd D cI cZ A cc nL Ts own) {a b : Nat} (hdg : decode cc pc = .ok (.imul, 1)) (k : G p l e R s m args below meth cd D A cells slots Q nL ws (pc + 1) lv (.int (nI (a * b)) :: st)) : G p l e R s m args below meth cd D A cells slots Q nL ws (pc) lv (.int (nI b) :: .int (nI a) :: st) := g_imul hC hdg (by rw [pk_mul]; exact k)
theorem g_isub_n (hC : gCx p s m args meth cd D cI cZ A cc nL Ts own) {a b : Nat} (h : b ≤ a) (hdg : decode cc pc = .ok (.isub, 1)) (k : G p l e R s m args below meth cd D A cells slots Q nL ws (pc + 1) lv (.int (nI (a - b)) :: st)) : G p l e R s m args below meth cd D A cells slots Q nL ws (pc) lv (.int (nI b) :: .int (nI a) :: st) := g_isub hC hdg (by rw [pk_sub h]; exact k)
theorem g_irem_n (hC : gCx p s m args meth cd D cI cZ A cc nL Ts own) {a b : Nat} (ha : a < 2 ^ 31) (h0 : 0 < b) (hb : b < 2 ^ 31) (hdg : decode cc pc = .ok (.irem, 1)) (k : G p l e R s m args below meth cd D A cells slots Q nL ws (pc + 1) lv (.int (nI (a % b)) :: st)) : G p l e R s m args below meth cd D A cells slots Q nL ws (pc) lv (.int (nI b) :: .int (nI a) :: st) := g_irem hC hdg (nI_ne0 h0 hb) (by rw [pk_rem ha h0 hb]; exact k)
theorem g_idiv_n (hC : gCx p s m args meth cd D cI cZ A cc nL Ts own) {a b : Nat} (ha : a < 2 ^ 31) (h0 : 0 < b) (hb : b < 2 ^ 31) (hdg : decode cc pc = .ok (.idiv, 1)) (k : G p l e R s m args below meth cd D A cells slots Q nL ws (pc + 1) lv (.int (nI (a / b)) :: st)) : G p l e R s m args below meth cd D A cells slots Q nL ws (pc) lv (.int (nI b) :: .int (nI a) :: st) := g_idiv hC hdg (nI_ne0 h0 hb) (by rw [pk_div ha h0 hb]; exact k)
theorem g_iand_n (hC : gCx p s m args meth cd D cI cZ A cc nL Ts own) {a b : Nat} (hdg : decode cc pc = .ok (.iand, 1)) (k : G p l e R s m args below meth cd D A cells slots Q nL ws (pc + 1) lv (.int (nI (a &&& b)) :: st)) : G p l e R s m args below meth cd D A cells slots Q nL ws (pc) lv (.int (nI b) :: .int (nI a) :: st) := g_iand hC hdg (by rw [nI_and]; exact k)
theorem g_ior_n (hC : gCx p s m args meth cd D cI cZ A cc nL Ts own) {a b : Nat} (hdg : decode cc pc = .ok (.ior, 1)) (k : G p l e R s m args below meth cd D A cells slots Q nL ws (pc + 1) lv (.int (nI (a ||| b)) :: st)) : G p l e R s m args below meth cd D A cells slots Q nL ws (pc) lv (.int (nI b) :: .int (nI a) :: st) := g_ior hC hdg (by rw [nI_or]; exact k)
theorem g_ixor_n (hC : gCx p s m args meth cd D cI cZ A cc nL Ts own) {a b : Nat} (hdg : decode cc pc = .ok (.ixor, 1)) (k : G p l e R s m args below meth cd D A cells slots Q nL ws (pc + 1) lv (.int (nI (a ^^^ b)) :: st)) : G p l e R s m args below meth cd D A cells slots Q nL ws (pc) lv (.int (nI b) :: .int (nI a) :: st) := g_ixor hC hdg (by rw [nI_xor]; exact k)
theorem g_ishr_n (hC : gCx p s m args meth cd D cI cZ A cc nL Ts own) {a b : Nat} (ha : a < 2 ^ 31) (h : b < 31) (hdg : decode cc pc = .ok (.ishr, 1)) (k : G p l e R s m args below meth cd D A cells slots Q nL ws (pc + 1) lv (.int (nI (a / 2 ^ b)) :: st)) : G p l e R s m args below meth cd D A cells slots Q nL ws (pc) lv (.int (nI b) :: .int (nI a) :: st) := g_ishr hC hdg (by rw [nI_shr ha h]; exact k)
theorem g_shl1_n (hC : gCx p s m args meth cd D cI cZ A cc nL Ts own) {b : Nat} (h : b < 31) (hdg : decode cc pc = .ok (.ishl, 1)) (k : G p l e R s m args below meth cd D A cells slots Q nL ws (pc + 1) lv (.int (nI (2 ^ b)) :: st)) : G p l e R s m args below meth cd D A cells slots Q nL ws (pc) lv (.int (nI b) :: .int (nI 1) :: st) := g_ishl hC hdg (by rw [nI_shl1 h]; exact k)
theorem g_icmp_eq_n (hC : gCx p s m args meth cd D cI cZ A cc nL Ts own) {a b : Nat} {off : Int} (ha : a < 2 ^ 31) (hb : b < 2 ^ 31) (tgt : Nat) (hdg : decode cc pc = .ok (.if_icmp .eq off, 3)) (ht : (pc : Int) + off = (tgt : Int)) (kt : a = b → G p l e R s m args below meth cd D A cells slots Q nL ws (tgt) lv (st)) (kf : a ≠ b → G p l e R s m args below meth cd D A cells slots Q nL ws (pc + 3) lv (st)) : G p l e R s m args below meth cd D A cells slots Q nL ws (pc) lv (.int (nI b) :: .int (nI a) :: st) := g_icmp_eq hC tgt hdg ht (fun q => kt ((nI_eq ha hb).mp q)) (fun q => kf (fun w => q ((nI_eq ha hb).mpr w)))
theorem g_icmp_ne_n (hC : gCx p s m args meth cd D cI cZ A cc nL Ts own) {a b : Nat} {off : Int} (ha : a < 2 ^ 31) (hb : b < 2 ^ 31) (tgt : Nat) (hdg : decode cc pc = .ok (.if_icmp .ne off, 3)) (ht : (pc : Int) + off = (tgt : Int)) (kt : a ≠ b → G p l e R s m args below meth cd D A cells slots Q nL ws (tgt) lv (st)) (kf : a = b → G p l e R s m args below meth cd D A cells slots Q nL ws (pc + 3) lv (st)) : G p l e R s m args below meth cd D A cells slots Q nL ws (pc) lv (.int (nI b) :: .int (nI a) :: st) := g_icmp_ne hC tgt hdg ht (fun q => kt (fun w => q ((nI_eq ha hb).mpr w))) (fun q => kf ((nI_eq ha hb).mp q))
theorem g_icmp_lt_n (hC : gCx p s m args meth cd D cI cZ A cc nL Ts own) {a b : Nat} {off : Int} (ha : a < 2 ^ 31) (hb : b < 2 ^ 31) (tgt : Nat) (hdg : decode cc pc = .ok (.if_icmp .lt off, 3)) (ht : (pc : Int) + off = (tgt : Int)) (kt : a < b → G p l e R s m args below meth cd D A cells slots Q nL ws (tgt) lv (st)) (kf : b ≤ a → G p l e R s m args below meth cd D A cells slots Q nL ws (pc + 3) lv (st)) : G p l e R s m args below meth cd D A cells slots Q nL ws (pc) lv (.int (nI b) :: .int (nI a) :: st) := g_icmp_lt hC tgt hdg ht (fun q => kt ((nI_ltI ha hb).mp q)) (fun q => kf (Nat.not_lt.mp (fun w => q ((nI_ltI ha hb).mpr w))))
theorem g_icmp_ge_n (hC : gCx p s m args meth cd D cI cZ A cc nL Ts own) {a b : Nat} {off : Int} (ha : a < 2 ^ 31) (hb : b < 2 ^ 31) (tgt : Nat) (hdg : decode cc pc = .ok (.if_icmp .ge off, 3)) (ht : (pc : Int) + off = (tgt : Int)) (kt : b ≤ a → G p l e R s m args below meth cd D A cells slots Q nL ws (tgt) lv (st)) (kf : a < b → G p l e R s m args below meth cd D A cells slots Q nL ws (pc + 3) lv (st)) : G p l e R s m args below meth cd D A cells slots Q nL ws (pc) lv (.int (nI b) :: .int (nI a) :: st) := g_icmp_ge hC tgt hdg ht (fun q => kt ((nI_leI hb ha).mp q)) (fun q => kf (Nat.not_le.mp (fun w => q ((nI_leI hb ha).mpr w))))
theorem g_icmp_gt_n (hC : gCx p s m args meth cd D cI cZ A cc nL Ts own) {a b : Nat} {off : Int} (ha : a < 2 ^ 31) (hb : b < 2 ^ 31) (tgt : Nat) (hdg : decode cc pc = .ok (.if_icmp .gt off, 3)) (ht : (pc : Int) + off = (tgt : Int)) (kt : b < a → G p l e R s m args below meth cd D A cells slots Q nL ws (tgt) lv (st)) (kf : a ≤ b → G p l e R s m args below meth cd D A cells slots Q nL ws (pc + 3) lv (st)) : G p l e R s m args below meth cd D A cells slots Q nL ws (pc) lv (.int (nI b) :: .int (nI a) :: st) := g_icmp_gt hC tgt hdg ht (fun q => kt ((nI_ltI hb ha).mp q)) (fun q => kf (Nat.not_lt.mp (fun w => q ((nI_ltI hb ha).mpr w))))
theorem g_icmp_le_n (hC : gCx p s m args meth cd D cI cZ A cc nL Ts own) {a b : Nat} {off : Int} (ha : a < 2 ^ 31) (hb : b < 2 ^ 31) (tgt : Nat) (hdg : decode cc pc = .ok (.if_icmp .le off, 3)) (ht : (pc : Int) + off = (tgt : Int)) (kt : a ≤ b → G p l e R s m args below meth cd D A cells slots Q nL ws (tgt) lv (st)) (kf : b < a → G p l e R s m args below meth cd D A cells slots Q nL ws (pc + 3) lv (st)) : G p l e R s m args below meth cd D A cells slots Q nL ws (pc) lv (.int (nI b) :: .int (nI a) :: st) := g_icmp_le hC tgt hdg ht (fun q => kt ((nI_leI ha hb).mp q)) (fun q => kf (Nat.not_le.mp (fun w => q ((nI_leI ha hb).mpr w))))
theorem g_if_eq_n (hC : gCx p s m args meth cd D cI cZ A cc nL Ts own) {a : Nat} {off : Int} (ha : a < 2 ^ 31) (tgt : Nat) (hdg : decode cc pc = .ok (.ifCond .eq off, 3)) (ht : (pc : Int) + off = (tgt : Int)) (kt : a = 0 → G p l e R s m args below meth cd D A cells slots Q nL ws (tgt) lv (st)) (kf : a ≠ 0 → G p l e R s m args below meth cd D A cells slots Q nL ws (pc + 3) lv (st)) : G p l e R s m args below meth cd D A cells slots Q nL ws (pc) lv (.int (nI a) :: st) := g_if_eq hC tgt hdg ht (fun q => kt ((nI_eq ha (by decide)).mp q)) (fun q => kf (fun w => q (by rw [w])))
theorem g_if_ne_n (hC : gCx p s m args meth cd D cI cZ A cc nL Ts own) {a : Nat} {off : Int} (ha : a < 2 ^ 31) (tgt : Nat) (hdg : decode cc pc = .ok (.ifCond .ne off, 3)) (ht : (pc : Int) + off = (tgt : Int)) (kt : a ≠ 0 → G p l e R s m args below meth cd D A cells slots Q nL ws (tgt) lv (st)) (kf : a = 0 → G p l e R s m args below meth cd D A cells slots Q nL ws (pc + 3) lv (st)) : G p l e R s m args below meth cd D A cells slots Q nL ws (pc) lv (.int (nI a) :: st) := g_if_ne hC tgt hdg ht (fun q => kt (fun w => q (by rw [w]))) (fun q => kf ((nI_eq ha (by decide)).mp q))
theorem g_if_gt_n (hC : gCx p s m args meth cd D cI cZ A cc nL Ts own) {a : Nat} {off : Int} (ha : a < 2 ^ 31) (tgt : Nat) (hdg : decode cc pc = .ok (.ifCond .gt off, 3)) (ht : (pc : Int) + off = (tgt : Int)) (kt : 0 < a → G p l e R s m args below meth cd D A cells slots Q nL ws (tgt) lv (st)) (kf : a = 0 → G p l e R s m args below meth cd D A cells slots Q nL ws (pc + 3) lv (st)) : G p l e R s m args below meth cd D A cells slots Q nL ws (pc) lv (.int (nI a) :: st) := g_if_gt hC tgt hdg ht (fun q => kt ((nI_ltI (by decide) ha).mp q)) (fun q => kf (Nat.eq_zero_of_not_pos (fun w => q ((nI_ltI (by decide) ha).mpr w))))
theorem g_if_le_n (hC : gCx p s m args meth cd D cI cZ A cc nL Ts own) {a : Nat} {off : Int} (ha : a < 2 ^ 31) (tgt : Nat) (hdg : decode cc pc = .ok (.ifCond .le off, 3)) (ht : (pc : Int) + off = (tgt : Int)) (kt : a = 0 → G p l e R s m args below meth cd D A cells slots Q nL ws (tgt) lv (st)) (kf : 0 < a → G p l e R s m args below meth cd D A cells slots Q nL ws (pc + 3) lv (st)) : G p l e R s m args below meth cd D A cells slots Q nL ws (pc) lv (.int (nI a) :: st) := g_if_le hC tgt hdg ht (fun q => kt (Nat.le_zero.mp ((nI_leI ha (by decide)).mp q))) (fun q => kf (Nat.pos_of_ne_zero (fun w => q ((nI_leI ha (by decide)).mpr (Nat.le_zero.mpr w)))))
theorem g_if_lt_n (hC : gCx p s m args meth cd D cI cZ A cc nL Ts own) {a : Nat} {off : Int} (ha : a < 2 ^ 31) (tgt : Nat) (hdg : decode cc pc = .ok (.ifCond .lt off, 3)) (ht : (pc : Int) + off = (tgt : Int)) (kt : False → G p l e R s m args below meth cd D A cells slots Q nL ws (tgt) lv (st)) (kf : True → G p l e R s m args below meth cd D A cells slots Q nL ws (pc + 3) lv (st)) : G p l e R s m args below meth cd D A cells slots Q nL ws (pc) lv (.int (nI a) :: st) := g_if_lt hC tgt hdg ht (fun q => kt ((nI_pos ha q).elim)) (fun q => kf (trivial))
theorem g_if_ge_n (hC : gCx p s m args meth cd D cI cZ A cc nL Ts own) {a : Nat} {off : Int} (ha : a < 2 ^ 31) (tgt : Nat) (hdg : decode cc pc = .ok (.ifCond .ge off, 3)) (ht : (pc : Int) + off = (tgt : Int)) (kt : True → G p l e R s m args below meth cd D A cells slots Q nL ws (tgt) lv (st)) (kf : False → G p l e R s m args below meth cd D A cells slots Q nL ws (pc + 3) lv (st)) : G p l e R s m args below meth cd D A cells slots Q nL ws (pc) lv (.int (nI a) :: st) := g_if_ge hC tgt hdg ht (fun q => kt (trivial)) (fun q => kf ((q (nI_pos' ha)).elim))
theorem g_if_eq_b (hC : gCx p s m args meth cd D cI cZ A cc nL Ts own) {P : Prop} [Decidable P] {off : Int} (tgt : Nat) (hdg : decode cc pc = .ok (.ifCond .eq off, 3)) (ht : (pc : Int) + off = (tgt : Int)) (kt : ¬ P → G p l e R s m args below meth cd D A cells slots Q nL ws (tgt) lv (st)) (kf : P → G p l e R s m args below meth cd D A cells slots Q nL ws (pc + 3) lv (st)) : G p l e R s m args below meth cd D A cells slots Q nL ws (pc) lv (.int (bI P) :: st) := g_if_eq hC tgt hdg ht (fun q => kt (bI_0 q)) (fun q => kf (bI_n0 q))
theorem g_if_ne_b (hC : gCx p s m args meth cd D cI cZ A cc nL Ts own) {P : Prop} [Decidable P] {off : Int} (tgt : Nat) (hdg : decode cc pc = .ok (.ifCond .ne off, 3)) (ht : (pc : Int) + off = (tgt : Int)) (kt : P → G p l e R s m args below meth cd D A cells slots Q nL ws (tgt) lv (st)) (kf : ¬ P → G p l e R s m args below meth cd D A cells slots Q nL ws (pc + 3) lv (st)) : G p l e R s m args below meth cd D A cells slots Q nL ws (pc) lv (.int (bI P) :: st) := g_if_ne hC tgt hdg ht (fun q => kt (bI_n0 q)) (fun q => kf (bI_0 q))
end GN
theorem l_ge {x y : Int32} : (0 ≤ lg_cmp x.toInt64 y.toInt64) ↔ y ≤ x := by
  rw [lg_cmp_ge, Int64.le_iff_toInt_le, Int32.toInt_toInt64, Int32.toInt_toInt64, Int32.le_iff_toInt_le]
theorem l_le {x y : Int32} : (lg_cmp x.toInt64 y.toInt64 ≤ 0) ↔ x ≤ y := by
  rw [lg_cmp_le, Int64.le_iff_toInt_le, Int32.toInt_toInt64, Int32.toInt_toInt64, Int32.le_iff_toInt_le]
end
section
/-! the mathematical shop: plan rows P (0 owner, 1 worth, 2 kind, 3 wanted, 4 day, 5 reward), a state's 20 cells c
(0 till, 1 day, 2+p purse, 5+q standing, 10+q since, 15+d outcome) -/
def bts : Nat → (Nat → Bool) → Nat
  | 0, _ => 0
  | n + 1, p => bts n p + (if p n then 2 ^ n else 0)
theorem bts_lt (p : Nat → Bool) : ∀ n, bts n p < 2 ^ n
  | 0 => by simp [bts]
  | n + 1 => by
    have := bts_lt p n
    simp only [bts, Nat.pow_succ]
    split <;> omega
theorem bts_congr {p q : Nat → Bool} : ∀ n, (∀ k, k < n → p k = q k) → bts n p = bts n q
  | 0, _ => rfl
  | n + 1, h => by
    simp only [bts]
    rw [bts_congr n (fun k hk => h k (by omega)), h n (by omega)]
theorem or_pow : ∀ {a n : Nat}, a < 2 ^ n → a ||| 2 ^ n = a + 2 ^ n := by
  intro a n h
  have q := Nat.two_pow_add_eq_or_of_lt h 1
  rw [Nat.mul_one] at q
  rw [Nat.or_comm, ← q, Nat.add_comm]
theorem bts_t {p : Nat → Bool} {n : Nat} (h : p n = true) : bts n p ||| 2 ^ n = bts (n + 1) p := by
  rw [or_pow (bts_lt p n)]; simp [bts, h]
theorem bts_f {p : Nat → Bool} {n : Nat} (h : p n = false) : bts n p ||| 0 = bts (n + 1) p := by
  simp [bts, h]
theorem bts_le {p : Nat → Bool} {n : Nat} (h : n ≤ 5) : bts n p < 32 := Nat.lt_of_lt_of_le (bts_lt p n) (Nat.pow_le_pow_right (by decide) h)
/-- what is due -/
def dueF (k w d o : Int32) : Int32 := if k = nI 1 then w + nI 2 * d else if k = nI 2 then (if o - o / nI 7 * nI 7 = nI 6 then w else w + d) else if k = nI 3 then w else w + d
def owed (P : Nat → Nat → Nat) (c : Nat → Int32) (q : Nat) : Int32 := if c (5 + q) = nI 1 then dueF (nI (P 2 q)) (nI (P 1 q)) (c 1 - c (10 + q)) (c 1) else nI 0
def thatAre (nq : Nat) (c : Nat → Int32) (s : Int32) : Nat := bts nq (fun q => decide (c (5 + q) = s))
def deedsThat (nd : Nat) (c : Nat → Int32) (s : Int32) : Nat := bts nd (fun d => decide (c (15 + d) = s))
def ownB (nq : Nat) (P : Nat → Nat → Nat) (a : Int32) : Nat := bts nq (fun q => decide (nI (P 0 q) = a))
def deedsB (nd : Nat) (P : Nat → Nat → Nat) (a : Int32) : Nat := bts nd (fun d => decide (nI (P 0 (P 3 d)) = a))
abbrev canP (P : Nat → Nat → Nat) (c : Nat → Int32) (q : Nat) : Prop := c (5 + q) = nI 0 ∧ nI (P 1 q) ≤ c 0
abbrev canR (P : Nat → Nat → Nat) (c : Nat → Int32) (q : Nat) : Prop := c (5 + q) = nI 1 ∧ owed P c q ≤ c (2 + P 0 q)
def payF (c : Nat → Int32) (p : Nat) (v : Int32) : Nat → Int32 := upd c (2 + p) (c (2 + p) + v)
def pledgeF (P : Nat → Nat → Nat) (c : Nat → Int32) (q : Nat) : Nat → Int32 := upd (upd (upd (payF c (P 0 q) (nI (P 1 q))) 0 (c 0 - nI (P 1 q))) (5 + q) (nI 1)) (10 + q) (c 1)
def redeemF (P : Nat → Nat → Nat) (c : Nat → Int32) (q : Nat) : Nat → Int32 := upd (upd (payF c (P 0 q) (-(owed P c q))) 0 (c 0 + owed P c q)) (5 + q) (nI 0)
def tryP (P : Nat → Nat → Nat) (c : Nat → Int32) (q : Nat) : Nat → Int32 := if canP P c q then pledgeF P c q else c
def tryR (P : Nat → Nat → Nat) (c : Nat → Int32) (q : Nat) : Nat → Int32 := if canR P c q then redeemF P c q else c
def deedF (P : Nat → Nat → Nat) (c : Nat → Int32) (d : Nat) : Nat → Int32 := if c (5 + P 3 d) = nI 0 then payF (upd c (15 + d) (nI 1)) (P 0 (P 3 d)) (nI (P 5 d)) else upd c (15 + d) (nI 2)
def dayD (P : Nat → Nat → Nat) (c : Nat → Int32) : Nat → Nat → Int32
  | 0 => c
  | d + 1 => if nI (P 4 d) = c 1 then deedF P (dayD P c d) d else dayD P c d
def cntD (P : Nat → Nat → Nat) (c : Nat → Int32) : Nat → Nat
  | 0 => 0
  | d + 1 => cntD P c d + (if nI (P 4 d) = c 1 ∧ dayD P c d (5 + P 3 d) = nI 0 then 1 else 0)
def sellD (P : Nat → Nat → Nat) (c : Nat → Int32) : Nat → Nat → Int32
  | 0 => c
  | q + 1 => if sellD P c q (5 + q) = nI 1 ∧ nI 9 ≤ c 1 - c (10 + q) ∧ P 2 q ≠ 3 then upd (sellD P c q) (5 + q) (nI 2) else sellD P c q
def passF (P : Nat → Nat → Nat) (nq nd : Nat) (c : Nat → Int32) : Nat → Int32 := sellD P (upd (dayD P c nd) 1 (c 1 + nI 1)) nq
def passN (P : Nat → Nat → Nat) (nq nd : Nat) (c : Nat → Int32) : Nat → Nat → Int32
  | 0 => c
  | n + 1 => passF P nq nd (passN P nq nd c n)
/-- a plan as a text tells it -/
def WFP (np nq nd : Nat) (P : Nat → Nat → Nat) : Prop := (np ≤ 3 ∧ nq ≤ 5 ∧ nd ≤ 5) ∧ (∀ q, q < nq → P 0 q < np ∧ 1 ≤ P 1 q ∧ P 1 q ≤ 9 ∧ P 2 q ≤ 3) ∧ (∀ d, d < nd → P 3 d < nq ∧ P 4 d ≤ 9 ∧ P 5 d ≤ 9)
theorem upd_self (f : Nat → Int32) (k : Nat) (v : Int32) : upd f k v k = v := by simp [upd]
theorem upd_ne (f : Nat → Int32) {k j : Nat} (v : Int32) (h : j ≠ k) : upd f k v j = f j := by simp [upd, h]
theorem upd_id (f : Nat → Int32) (k : Nat) : upd f k (f k) = f := by funext j; by_cases h : j = k <;> simp [upd, h]
theorem upd_comm (f : Nat → Int32) {i j : Nat} (v w : Int32) (h : i ≠ j) : upd (upd f i v) j w = upd (upd f j w) i v := by
  funext k
  by_cases h1 : k = i <;> by_cases h2 : k = j <;> simp [upd, h1, h2] <;> omega
theorem payF_ne (c : Nat → Int32) {p j : Nat} (v : Int32) (h : j ≠ 2 + p) : payF c p v j = c j := upd_ne _ _ h
theorem deedF_day {np nq nd : Nat} {P : Nat → Nat → Nat} (hP : WFP np nq nd P) (c : Nat → Int32) {d j : Nat} (hd : d < nd) (hj : j = 0 ∨ j = 1 ∨ (5 ≤ j ∧ j < 15)) : deedF P c d j = c j := by
  obtain ⟨⟨h1, h2, h3⟩, h4, h5⟩ := hP
  have ha := (h5 d hd).1
  have hb := (h4 _ ha).1
  unfold deedF
  split
  · rw [payF_ne _ _ (by omega), upd_ne _ _ (by omega)]
  · rw [upd_ne _ _ (by omega)]
theorem dayD_day {np nq nd : Nat} {P : Nat → Nat → Nat} (hP : WFP np nq nd P) (c : Nat → Int32) {j : Nat} (hj : j = 0 ∨ j = 1 ∨ (5 ≤ j ∧ j < 15)) : ∀ d, d ≤ nd → dayD P c d j = c j
  | 0, _ => rfl
  | d + 1, h => by
    unfold dayD
    split
    · rw [deedF_day hP _ (by omega) hj]; exact dayD_day hP c hj d (by omega)
    · exact dayD_day hP c hj d (by omega)
theorem sellD_ne (P : Nat → Nat → Nat) (c : Nat → Int32) {j : Nat} : ∀ q, (j < 5 ∨ 5 + q ≤ j) → sellD P c q j = c j
  | 0, _ => rfl
  | q + 1, h => by
    unfold sellD
    split
    · rw [upd_ne _ _ (by omega)]; exact sellD_ne P c q (by omega)
    · exact sellD_ne P c q (by omega)
def sumP (c : Nat → Int32) : Nat → Int32
  | 0 => nI 0
  | p + 1 => sumP c p + c (2 + p)
abbrev okG (v : Int32) : Prop := nI 1 ≤ v ∧ v ≤ nI 9
def tryG (c : Nat → Int32) (k : Nat) (v : Int32) : Nat → Int32 := if okG v then payF c k v else c
def sellB (a : Int32) (c : Nat → Int32) : Nat → Nat → Int32
  | 0 => c
  | q + 1 => if nI q = a then sellB a c q else upd (sellB a c q) (5 + q) (nI 2)
abbrev hasB (z q : Nat) : Prop := z / 2 ^ q &&& 1 = 1
def settleF (z : Nat) (c : Nat → Int32) : Nat → Nat → Int32
  | 0 => c
  | q + 1 => if settleF z c q (5 + q) = nI 1 then upd (settleF z c q) (5 + q) (if hasB z q then nI 2 else nI 0) else settleF z c q
theorem and1_lt (x : Nat) : x &&& 1 < 2 ^ 31 := Nat.lt_of_le_of_lt Nat.and_le_right (by decide)
end
section
abbrev o2 (r : Nat → Nat) (ti : Int32) (np nq nd : Nat) : va_E := .inr (2, [.ref (r 0), .ref (r 1), .ref (r 2), .ref (r 3), .ref (r 4), .ref (r 5), .ref (r 6), .int ti, .int (nI np), .int (nI nq), .int (nI nd)])
abbrev o5 (ht hp hd hn ha hac has hk : Nat) (ks : Int32) (ch : Int64) : va_E := .inr (5, [.ref ht, .ref hp, .ref hd, .ref hn, .ref ha, .ref hac, .ref has, .ref hk, .int ks, .long ch])
abbrev o6 (rm : Nat → Nat) (ts pl np nq nd rt rp rq rd ac ask : Int32) (sd : Int64) (rw rx tm tf sm sf : Int32) : va_E := .inr (6, [.int (nI 0), .ref (rm 0), .int ts, .int pl, .int np, .int nq, .ref (rm 1), .ref (rm 2), .ref (rm 3), .int nd, .ref (rm 4), .ref (rm 5), .ref (rm 6), .int rt, .int rp, .ref (rm 7), .int rq, .ref (rm 8), .int rd, .ref (rm 9), .ref (rm 10), .ref (rm 11), .ref (rm 12), .int ac, .ref (rm 13), .ref (rm 14), .int ask, .ref (rm 15), .ref (rm 16), .long sd, .int rw, .int rx, .int tm, .int tf, .int sm, .int sf, .ref (rm 17), .ref (rm 18)])
theorem dS_J6_bitCount_0f7a4 : yJ6_bitCount_0f7a4.cls ≠ "java/lang/invoke/MethodHandle" ∧ yJ6_bitCount_0f7a4.cls ≠ "java/lang/invoke/VarHandle" ∧ (parseMethodDescriptor yJ6_bitCount_0f7a4.desc).map (fun d => d.parameters.length) = some 1 := by decide +kernel
theorem dS_L_law : yL_law.cls ≠ "java/lang/invoke/MethodHandle" ∧ yL_law.cls ≠ "java/lang/invoke/VarHandle" ∧ (parseMethodDescriptor yL_law.desc).map (fun d => d.parameters.length) = some 1 := by decide +kernel
theorem dV_X0_forget : yX0_forget.cls = RX0 ∧ yX0_forget.cls ≠ "java/lang/invoke/MethodHandle" ∧ yX0_forget.cls ≠ "java/lang/invoke/VarHandle" ∧ (parseMethodDescriptor yX0_forget.desc).map (fun d => d.parameters.length) = some 0 := by decide +kernel
theorem dS_X0_forget : yX0_forget.cls ≠ "java/lang/invoke/MethodHandle" ∧ yX0_forget.cls ≠ "java/lang/invoke/VarHandle" ∧ (parseMethodDescriptor yX0_forget.desc).map (fun d => d.parameters.length) = some 0 := by decide +kernel
theorem dV_X0_init : yX0_init.cls = RX0 ∧ yX0_init.cls ≠ "java/lang/invoke/MethodHandle" ∧ yX0_init.cls ≠ "java/lang/invoke/VarHandle" ∧ (parseMethodDescriptor yX0_init.desc).map (fun d => d.parameters.length) = some 0 := by decide +kernel
theorem dS_X0_init : yX0_init.cls ≠ "java/lang/invoke/MethodHandle" ∧ yX0_init.cls ≠ "java/lang/invoke/VarHandle" ∧ (parseMethodDescriptor yX0_init.desc).map (fun d => d.parameters.length) = some 0 := by decide +kernel
theorem dV_X0_remember : yX0_remember.cls = RX0 ∧ yX0_remember.cls ≠ "java/lang/invoke/MethodHandle" ∧ yX0_remember.cls ≠ "java/lang/invoke/VarHandle" ∧ (parseMethodDescriptor yX0_remember.desc).map (fun d => d.parameters.length) = some 1 := by decide +kernel
theorem dS_X0_remember : yX0_remember.cls ≠ "java/lang/invoke/MethodHandle" ∧ yX0_remember.cls ≠ "java/lang/invoke/VarHandle" ∧ (parseMethodDescriptor yX0_remember.desc).map (fun d => d.parameters.length) = some 1 := by decide +kernel
theorem dV_X0_takeBack : yX0_takeBack.cls = RX0 ∧ yX0_takeBack.cls ≠ "java/lang/invoke/MethodHandle" ∧ yX0_takeBack.cls ≠ "java/lang/invoke/VarHandle" ∧ (parseMethodDescriptor yX0_takeBack.desc).map (fun d => d.parameters.length) = some 1 := by decide +kernel
theorem dS_X0_takeBack : yX0_takeBack.cls ≠ "java/lang/invoke/MethodHandle" ∧ yX0_takeBack.cls ≠ "java/lang/invoke/VarHandle" ∧ (parseMethodDescriptor yX0_takeBack.desc).map (fun d => d.parameters.length) = some 1 := by decide +kernel
theorem dV_X1_add : yX1_add.cls = RX1 ∧ yX1_add.cls ≠ "java/lang/invoke/MethodHandle" ∧ yX1_add.cls ≠ "java/lang/invoke/VarHandle" ∧ (parseMethodDescriptor yX1_add.desc).map (fun d => d.parameters.length) = some 2 := by decide +kernel
theorem dS_X1_add : yX1_add.cls ≠ "java/lang/invoke/MethodHandle" ∧ yX1_add.cls ≠ "java/lang/invoke/VarHandle" ∧ (parseMethodDescriptor yX1_add.desc).map (fun d => d.parameters.length) = some 2 := by decide +kernel
theorem dV_X1_fits : yX1_fits.cls = RX1 ∧ yX1_fits.cls ≠ "java/lang/invoke/MethodHandle" ∧ yX1_fits.cls ≠ "java/lang/invoke/VarHandle" ∧ (parseMethodDescriptor yX1_fits.desc).map (fun d => d.parameters.length) = some 2 := by decide +kernel
theorem dS_X1_fits : yX1_fits.cls ≠ "java/lang/invoke/MethodHandle" ∧ yX1_fits.cls ≠ "java/lang/invoke/VarHandle" ∧ (parseMethodDescriptor yX1_fits.desc).map (fun d => d.parameters.length) = some 2 := by decide +kernel
theorem dV_X1_init : yX1_init.cls = RX1 ∧ yX1_init.cls ≠ "java/lang/invoke/MethodHandle" ∧ yX1_init.cls ≠ "java/lang/invoke/VarHandle" ∧ (parseMethodDescriptor yX1_init.desc).map (fun d => d.parameters.length) = some 0 := by decide +kernel
theorem dS_X1_init : yX1_init.cls ≠ "java/lang/invoke/MethodHandle" ∧ yX1_init.cls ≠ "java/lang/invoke/VarHandle" ∧ (parseMethodDescriptor yX1_init.desc).map (fun d => d.parameters.length) = some 0 := by decide +kernel
theorem dV_X2_addDeed : yX2_addDeed.cls = RX2 ∧ yX2_addDeed.cls ≠ "java/lang/invoke/MethodHandle" ∧ yX2_addDeed.cls ≠ "java/lang/invoke/VarHandle" ∧ (parseMethodDescriptor yX2_addDeed.desc).map (fun d => d.parameters.length) = some 3 := by decide +kernel
theorem dS_X2_addDeed : yX2_addDeed.cls ≠ "java/lang/invoke/MethodHandle" ∧ yX2_addDeed.cls ≠ "java/lang/invoke/VarHandle" ∧ (parseMethodDescriptor yX2_addDeed.desc).map (fun d => d.parameters.length) = some 3 := by decide +kernel
theorem dV_X2_addPerson : yX2_addPerson.cls = RX2 ∧ yX2_addPerson.cls ≠ "java/lang/invoke/MethodHandle" ∧ yX2_addPerson.cls ≠ "java/lang/invoke/VarHandle" ∧ (parseMethodDescriptor yX2_addPerson.desc).map (fun d => d.parameters.length) = some 1 := by decide +kernel
theorem dS_X2_addPerson : yX2_addPerson.cls ≠ "java/lang/invoke/MethodHandle" ∧ yX2_addPerson.cls ≠ "java/lang/invoke/VarHandle" ∧ (parseMethodDescriptor yX2_addPerson.desc).map (fun d => d.parameters.length) = some 1 := by decide +kernel
theorem dV_X2_addQuality : yX2_addQuality.cls = RX2 ∧ yX2_addQuality.cls ≠ "java/lang/invoke/MethodHandle" ∧ yX2_addQuality.cls ≠ "java/lang/invoke/VarHandle" ∧ (parseMethodDescriptor yX2_addQuality.desc).map (fun d => d.parameters.length) = some 3 := by decide +kernel
theorem dS_X2_addQuality : yX2_addQuality.cls ≠ "java/lang/invoke/MethodHandle" ∧ yX2_addQuality.cls ≠ "java/lang/invoke/VarHandle" ∧ (parseMethodDescriptor yX2_addQuality.desc).map (fun d => d.parameters.length) = some 3 := by decide +kernel
theorem dV_X2_clear : yX2_clear.cls = RX2 ∧ yX2_clear.cls ≠ "java/lang/invoke/MethodHandle" ∧ yX2_clear.cls ≠ "java/lang/invoke/VarHandle" ∧ (parseMethodDescriptor yX2_clear.desc).map (fun d => d.parameters.length) = some 0 := by decide +kernel
theorem dS_X2_clear : yX2_clear.cls ≠ "java/lang/invoke/MethodHandle" ∧ yX2_clear.cls ≠ "java/lang/invoke/VarHandle" ∧ (parseMethodDescriptor yX2_clear.desc).map (fun d => d.parameters.length) = some 0 := by decide +kernel
theorem dV_X2_dayOf : yX2_dayOf.cls = RX2 ∧ yX2_dayOf.cls ≠ "java/lang/invoke/MethodHandle" ∧ yX2_dayOf.cls ≠ "java/lang/invoke/VarHandle" ∧ (parseMethodDescriptor yX2_dayOf.desc).map (fun d => d.parameters.length) = some 1 := by decide +kernel
theorem dS_X2_dayOf : yX2_dayOf.cls ≠ "java/lang/invoke/MethodHandle" ∧ yX2_dayOf.cls ≠ "java/lang/invoke/VarHandle" ∧ (parseMethodDescriptor yX2_dayOf.desc).map (fun d => d.parameters.length) = some 1 := by decide +kernel
theorem dV_X2_deedsOf : yX2_deedsOf.cls = RX2 ∧ yX2_deedsOf.cls ≠ "java/lang/invoke/MethodHandle" ∧ yX2_deedsOf.cls ≠ "java/lang/invoke/VarHandle" ∧ (parseMethodDescriptor yX2_deedsOf.desc).map (fun d => d.parameters.length) = some 1 := by decide +kernel
theorem dS_X2_deedsOf : yX2_deedsOf.cls ≠ "java/lang/invoke/MethodHandle" ∧ yX2_deedsOf.cls ≠ "java/lang/invoke/VarHandle" ∧ (parseMethodDescriptor yX2_deedsOf.desc).map (fun d => d.parameters.length) = some 1 := by decide +kernel
theorem dV_X2_firstPurseOf : yX2_firstPurseOf.cls = RX2 ∧ yX2_firstPurseOf.cls ≠ "java/lang/invoke/MethodHandle" ∧ yX2_firstPurseOf.cls ≠ "java/lang/invoke/VarHandle" ∧ (parseMethodDescriptor yX2_firstPurseOf.desc).map (fun d => d.parameters.length) = some 1 := by decide +kernel
theorem dS_X2_firstPurseOf : yX2_firstPurseOf.cls ≠ "java/lang/invoke/MethodHandle" ∧ yX2_firstPurseOf.cls ≠ "java/lang/invoke/VarHandle" ∧ (parseMethodDescriptor yX2_firstPurseOf.desc).map (fun d => d.parameters.length) = some 1 := by decide +kernel
theorem dV_X2_hasDeed : yX2_hasDeed.cls = RX2 ∧ yX2_hasDeed.cls ≠ "java/lang/invoke/MethodHandle" ∧ yX2_hasDeed.cls ≠ "java/lang/invoke/VarHandle" ∧ (parseMethodDescriptor yX2_hasDeed.desc).map (fun d => d.parameters.length) = some 1 := by decide +kernel
theorem dS_X2_hasDeed : yX2_hasDeed.cls ≠ "java/lang/invoke/MethodHandle" ∧ yX2_hasDeed.cls ≠ "java/lang/invoke/VarHandle" ∧ (parseMethodDescriptor yX2_hasDeed.desc).map (fun d => d.parameters.length) = some 1 := by decide +kernel
theorem dV_X2_hasPerson : yX2_hasPerson.cls = RX2 ∧ yX2_hasPerson.cls ≠ "java/lang/invoke/MethodHandle" ∧ yX2_hasPerson.cls ≠ "java/lang/invoke/VarHandle" ∧ (parseMethodDescriptor yX2_hasPerson.desc).map (fun d => d.parameters.length) = some 1 := by decide +kernel
theorem dS_X2_hasPerson : yX2_hasPerson.cls ≠ "java/lang/invoke/MethodHandle" ∧ yX2_hasPerson.cls ≠ "java/lang/invoke/VarHandle" ∧ (parseMethodDescriptor yX2_hasPerson.desc).map (fun d => d.parameters.length) = some 1 := by decide +kernel
theorem dV_X2_hasQuality : yX2_hasQuality.cls = RX2 ∧ yX2_hasQuality.cls ≠ "java/lang/invoke/MethodHandle" ∧ yX2_hasQuality.cls ≠ "java/lang/invoke/VarHandle" ∧ (parseMethodDescriptor yX2_hasQuality.desc).map (fun d => d.parameters.length) = some 1 := by decide +kernel
theorem dS_X2_hasQuality : yX2_hasQuality.cls ≠ "java/lang/invoke/MethodHandle" ∧ yX2_hasQuality.cls ≠ "java/lang/invoke/VarHandle" ∧ (parseMethodDescriptor yX2_hasQuality.desc).map (fun d => d.parameters.length) = some 1 := by decide +kernel
theorem dV_X2_init : yX2_init.cls = RX2 ∧ yX2_init.cls ≠ "java/lang/invoke/MethodHandle" ∧ yX2_init.cls ≠ "java/lang/invoke/VarHandle" ∧ (parseMethodDescriptor yX2_init.desc).map (fun d => d.parameters.length) = some 0 := by decide +kernel
theorem dS_X2_init : yX2_init.cls ≠ "java/lang/invoke/MethodHandle" ∧ yX2_init.cls ≠ "java/lang/invoke/VarHandle" ∧ (parseMethodDescriptor yX2_init.desc).map (fun d => d.parameters.length) = some 0 := by decide +kernel
theorem dV_X2_kindOf : yX2_kindOf.cls = RX2 ∧ yX2_kindOf.cls ≠ "java/lang/invoke/MethodHandle" ∧ yX2_kindOf.cls ≠ "java/lang/invoke/VarHandle" ∧ (parseMethodDescriptor yX2_kindOf.desc).map (fun d => d.parameters.length) = some 1 := by decide +kernel
theorem dS_X2_kindOf : yX2_kindOf.cls ≠ "java/lang/invoke/MethodHandle" ∧ yX2_kindOf.cls ≠ "java/lang/invoke/VarHandle" ∧ (parseMethodDescriptor yX2_kindOf.desc).map (fun d => d.parameters.length) = some 1 := by decide +kernel
theorem dV_X2_ownerOf : yX2_ownerOf.cls = RX2 ∧ yX2_ownerOf.cls ≠ "java/lang/invoke/MethodHandle" ∧ yX2_ownerOf.cls ≠ "java/lang/invoke/VarHandle" ∧ (parseMethodDescriptor yX2_ownerOf.desc).map (fun d => d.parameters.length) = some 1 := by decide +kernel
theorem dS_X2_ownerOf : yX2_ownerOf.cls ≠ "java/lang/invoke/MethodHandle" ∧ yX2_ownerOf.cls ≠ "java/lang/invoke/VarHandle" ∧ (parseMethodDescriptor yX2_ownerOf.desc).map (fun d => d.parameters.length) = some 1 := by decide +kernel
theorem dV_X2_qualitiesOf : yX2_qualitiesOf.cls = RX2 ∧ yX2_qualitiesOf.cls ≠ "java/lang/invoke/MethodHandle" ∧ yX2_qualitiesOf.cls ≠ "java/lang/invoke/VarHandle" ∧ (parseMethodDescriptor yX2_qualitiesOf.desc).map (fun d => d.parameters.length) = some 1 := by decide +kernel
theorem dS_X2_qualitiesOf : yX2_qualitiesOf.cls ≠ "java/lang/invoke/MethodHandle" ∧ yX2_qualitiesOf.cls ≠ "java/lang/invoke/VarHandle" ∧ (parseMethodDescriptor yX2_qualitiesOf.desc).map (fun d => d.parameters.length) = some 1 := by decide +kernel
theorem dV_X2_rewardOf : yX2_rewardOf.cls = RX2 ∧ yX2_rewardOf.cls ≠ "java/lang/invoke/MethodHandle" ∧ yX2_rewardOf.cls ≠ "java/lang/invoke/VarHandle" ∧ (parseMethodDescriptor yX2_rewardOf.desc).map (fun d => d.parameters.length) = some 1 := by decide +kernel
theorem dS_X2_rewardOf : yX2_rewardOf.cls ≠ "java/lang/invoke/MethodHandle" ∧ yX2_rewardOf.cls ≠ "java/lang/invoke/VarHandle" ∧ (parseMethodDescriptor yX2_rewardOf.desc).map (fun d => d.parameters.length) = some 1 := by decide +kernel
theorem dV_X2_wantedBy : yX2_wantedBy.cls = RX2 ∧ yX2_wantedBy.cls ≠ "java/lang/invoke/MethodHandle" ∧ yX2_wantedBy.cls ≠ "java/lang/invoke/VarHandle" ∧ (parseMethodDescriptor yX2_wantedBy.desc).map (fun d => d.parameters.length) = some 1 := by decide +kernel
theorem dS_X2_wantedBy : yX2_wantedBy.cls ≠ "java/lang/invoke/MethodHandle" ∧ yX2_wantedBy.cls ≠ "java/lang/invoke/VarHandle" ∧ (parseMethodDescriptor yX2_wantedBy.desc).map (fun d => d.parameters.length) = some 1 := by decide +kernel
theorem dV_X2_worthOf : yX2_worthOf.cls = RX2 ∧ yX2_worthOf.cls ≠ "java/lang/invoke/MethodHandle" ∧ yX2_worthOf.cls ≠ "java/lang/invoke/VarHandle" ∧ (parseMethodDescriptor yX2_worthOf.desc).map (fun d => d.parameters.length) = some 1 := by decide +kernel
theorem dS_X2_worthOf : yX2_worthOf.cls ≠ "java/lang/invoke/MethodHandle" ∧ yX2_worthOf.cls ≠ "java/lang/invoke/VarHandle" ∧ (parseMethodDescriptor yX2_worthOf.desc).map (fun d => d.parameters.length) = some 1 := by decide +kernel
theorem dV_X3_begin : yX3_begin.cls = RX3 ∧ yX3_begin.cls ≠ "java/lang/invoke/MethodHandle" ∧ yX3_begin.cls ≠ "java/lang/invoke/VarHandle" ∧ (parseMethodDescriptor yX3_begin.desc).map (fun d => d.parameters.length) = some 0 := by decide +kernel
theorem dS_X3_begin : yX3_begin.cls ≠ "java/lang/invoke/MethodHandle" ∧ yX3_begin.cls ≠ "java/lang/invoke/VarHandle" ∧ (parseMethodDescriptor yX3_begin.desc).map (fun d => d.parameters.length) = some 0 := by decide +kernel
theorem dV_X3_canPledge : yX3_canPledge.cls = RX3 ∧ yX3_canPledge.cls ≠ "java/lang/invoke/MethodHandle" ∧ yX3_canPledge.cls ≠ "java/lang/invoke/VarHandle" ∧ (parseMethodDescriptor yX3_canPledge.desc).map (fun d => d.parameters.length) = some 1 := by decide +kernel
theorem dS_X3_canPledge : yX3_canPledge.cls ≠ "java/lang/invoke/MethodHandle" ∧ yX3_canPledge.cls ≠ "java/lang/invoke/VarHandle" ∧ (parseMethodDescriptor yX3_canPledge.desc).map (fun d => d.parameters.length) = some 1 := by decide +kernel
theorem dV_X3_canRedeem : yX3_canRedeem.cls = RX3 ∧ yX3_canRedeem.cls ≠ "java/lang/invoke/MethodHandle" ∧ yX3_canRedeem.cls ≠ "java/lang/invoke/VarHandle" ∧ (parseMethodDescriptor yX3_canRedeem.desc).map (fun d => d.parameters.length) = some 1 := by decide +kernel
theorem dS_X3_canRedeem : yX3_canRedeem.cls ≠ "java/lang/invoke/MethodHandle" ∧ yX3_canRedeem.cls ≠ "java/lang/invoke/VarHandle" ∧ (parseMethodDescriptor yX3_canRedeem.desc).map (fun d => d.parameters.length) = some 1 := by decide +kernel
theorem dV_X3_chances : yX3_chances.cls = RX3 ∧ yX3_chances.cls ≠ "java/lang/invoke/MethodHandle" ∧ yX3_chances.cls ≠ "java/lang/invoke/VarHandle" ∧ (parseMethodDescriptor yX3_chances.desc).map (fun d => d.parameters.length) = some 1 := by decide +kernel
theorem dS_X3_chances : yX3_chances.cls ≠ "java/lang/invoke/MethodHandle" ∧ yX3_chances.cls ≠ "java/lang/invoke/VarHandle" ∧ (parseMethodDescriptor yX3_chances.desc).map (fun d => d.parameters.length) = some 1 := by decide +kernel
theorem dV_X3_copy : yX3_copy.cls = RX3 ∧ yX3_copy.cls ≠ "java/lang/invoke/MethodHandle" ∧ yX3_copy.cls ≠ "java/lang/invoke/VarHandle" ∧ (parseMethodDescriptor yX3_copy.desc).map (fun d => d.parameters.length) = some 1 := by decide +kernel
theorem dS_X3_copy : yX3_copy.cls ≠ "java/lang/invoke/MethodHandle" ∧ yX3_copy.cls ≠ "java/lang/invoke/VarHandle" ∧ (parseMethodDescriptor yX3_copy.desc).map (fun d => d.parameters.length) = some 1 := by decide +kernel
theorem dV_X3_dearestOf : yX3_dearestOf.cls = RX3 ∧ yX3_dearestOf.cls ≠ "java/lang/invoke/MethodHandle" ∧ yX3_dearestOf.cls ≠ "java/lang/invoke/VarHandle" ∧ (parseMethodDescriptor yX3_dearestOf.desc).map (fun d => d.parameters.length) = some 1 := by decide +kernel
theorem dS_X3_dearestOf : yX3_dearestOf.cls ≠ "java/lang/invoke/MethodHandle" ∧ yX3_dearestOf.cls ≠ "java/lang/invoke/VarHandle" ∧ (parseMethodDescriptor yX3_dearestOf.desc).map (fun d => d.parameters.length) = some 1 := by decide +kernel
theorem dV_X3_deedsInTheEnd : yX3_deedsInTheEnd.cls = RX3 ∧ yX3_deedsInTheEnd.cls ≠ "java/lang/invoke/MethodHandle" ∧ yX3_deedsInTheEnd.cls ≠ "java/lang/invoke/VarHandle" ∧ (parseMethodDescriptor yX3_deedsInTheEnd.desc).map (fun d => d.parameters.length) = some 0 := by decide +kernel
theorem dS_X3_deedsInTheEnd : yX3_deedsInTheEnd.cls ≠ "java/lang/invoke/MethodHandle" ∧ yX3_deedsInTheEnd.cls ≠ "java/lang/invoke/VarHandle" ∧ (parseMethodDescriptor yX3_deedsInTheEnd.desc).map (fun d => d.parameters.length) = some 0 := by decide +kernel
theorem dV_X3_deedsThatAre : yX3_deedsThatAre.cls = RX3 ∧ yX3_deedsThatAre.cls ≠ "java/lang/invoke/MethodHandle" ∧ yX3_deedsThatAre.cls ≠ "java/lang/invoke/VarHandle" ∧ (parseMethodDescriptor yX3_deedsThatAre.desc).map (fun d => d.parameters.length) = some 1 := by decide +kernel
theorem dS_X3_deedsThatAre : yX3_deedsThatAre.cls ≠ "java/lang/invoke/MethodHandle" ∧ yX3_deedsThatAre.cls ≠ "java/lang/invoke/VarHandle" ∧ (parseMethodDescriptor yX3_deedsThatAre.desc).map (fun d => d.parameters.length) = some 1 := by decide +kernel
theorem dV_X3_goesThrough : yX3_goesThrough.cls = RX3 ∧ yX3_goesThrough.cls ≠ "java/lang/invoke/MethodHandle" ∧ yX3_goesThrough.cls ≠ "java/lang/invoke/VarHandle" ∧ (parseMethodDescriptor yX3_goesThrough.desc).map (fun d => d.parameters.length) = some 3 := by decide +kernel
theorem dS_X3_goesThrough : yX3_goesThrough.cls ≠ "java/lang/invoke/MethodHandle" ∧ yX3_goesThrough.cls ≠ "java/lang/invoke/VarHandle" ∧ (parseMethodDescriptor yX3_goesThrough.desc).map (fun d => d.parameters.length) = some 3 := by decide +kernel
theorem dV_X3_inAllPurses : yX3_inAllPurses.cls = RX3 ∧ yX3_inAllPurses.cls ≠ "java/lang/invoke/MethodHandle" ∧ yX3_inAllPurses.cls ≠ "java/lang/invoke/VarHandle" ∧ (parseMethodDescriptor yX3_inAllPurses.desc).map (fun d => d.parameters.length) = some 0 := by decide +kernel
theorem dS_X3_inAllPurses : yX3_inAllPurses.cls ≠ "java/lang/invoke/MethodHandle" ∧ yX3_inAllPurses.cls ≠ "java/lang/invoke/VarHandle" ∧ (parseMethodDescriptor yX3_inAllPurses.desc).map (fun d => d.parameters.length) = some 0 := by decide +kernel
theorem dV_X3_inTill : yX3_inTill.cls = RX3 ∧ yX3_inTill.cls ≠ "java/lang/invoke/MethodHandle" ∧ yX3_inTill.cls ≠ "java/lang/invoke/VarHandle" ∧ (parseMethodDescriptor yX3_inTill.desc).map (fun d => d.parameters.length) = some 0 := by decide +kernel
theorem dS_X3_inTill : yX3_inTill.cls ≠ "java/lang/invoke/MethodHandle" ∧ yX3_inTill.cls ≠ "java/lang/invoke/VarHandle" ∧ (parseMethodDescriptor yX3_inTill.desc).map (fun d => d.parameters.length) = some 0 := by decide +kernel
theorem dV_X3_init : yX3_init.cls = RX3 ∧ yX3_init.cls ≠ "java/lang/invoke/MethodHandle" ∧ yX3_init.cls ≠ "java/lang/invoke/VarHandle" ∧ (parseMethodDescriptor yX3_init.desc).map (fun d => d.parameters.length) = some 1 := by decide +kernel
theorem dS_X3_init : yX3_init.cls ≠ "java/lang/invoke/MethodHandle" ∧ yX3_init.cls ≠ "java/lang/invoke/VarHandle" ∧ (parseMethodDescriptor yX3_init.desc).map (fun d => d.parameters.length) = some 1 := by decide +kernel
theorem dV_X3_loadFrom : yX3_loadFrom.cls = RX3 ∧ yX3_loadFrom.cls ≠ "java/lang/invoke/MethodHandle" ∧ yX3_loadFrom.cls ≠ "java/lang/invoke/VarHandle" ∧ (parseMethodDescriptor yX3_loadFrom.desc).map (fun d => d.parameters.length) = some 2 := by decide +kernel
theorem dS_X3_loadFrom : yX3_loadFrom.cls ≠ "java/lang/invoke/MethodHandle" ∧ yX3_loadFrom.cls ≠ "java/lang/invoke/VarHandle" ∧ (parseMethodDescriptor yX3_loadFrom.desc).map (fun d => d.parameters.length) = some 2 := by decide +kernel
theorem dV_X3_outcomeOf : yX3_outcomeOf.cls = RX3 ∧ yX3_outcomeOf.cls ≠ "java/lang/invoke/MethodHandle" ∧ yX3_outcomeOf.cls ≠ "java/lang/invoke/VarHandle" ∧ (parseMethodDescriptor yX3_outcomeOf.desc).map (fun d => d.parameters.length) = some 1 := by decide +kernel
theorem dS_X3_outcomeOf : yX3_outcomeOf.cls ≠ "java/lang/invoke/MethodHandle" ∧ yX3_outcomeOf.cls ≠ "java/lang/invoke/VarHandle" ∧ (parseMethodDescriptor yX3_outcomeOf.desc).map (fun d => d.parameters.length) = some 1 := by decide +kernel
theorem dV_X3_owedFor : yX3_owedFor.cls = RX3 ∧ yX3_owedFor.cls ≠ "java/lang/invoke/MethodHandle" ∧ yX3_owedFor.cls ≠ "java/lang/invoke/VarHandle" ∧ (parseMethodDescriptor yX3_owedFor.desc).map (fun d => d.parameters.length) = some 1 := by decide +kernel
theorem dS_X3_owedFor : yX3_owedFor.cls ≠ "java/lang/invoke/MethodHandle" ∧ yX3_owedFor.cls ≠ "java/lang/invoke/VarHandle" ∧ (parseMethodDescriptor yX3_owedFor.desc).map (fun d => d.parameters.length) = some 1 := by decide +kernel
theorem dV_X3_passDay : yX3_passDay.cls = RX3 ∧ yX3_passDay.cls ≠ "java/lang/invoke/MethodHandle" ∧ yX3_passDay.cls ≠ "java/lang/invoke/VarHandle" ∧ (parseMethodDescriptor yX3_passDay.desc).map (fun d => d.parameters.length) = some 0 := by decide +kernel
theorem dS_X3_passDay : yX3_passDay.cls ≠ "java/lang/invoke/MethodHandle" ∧ yX3_passDay.cls ≠ "java/lang/invoke/VarHandle" ∧ (parseMethodDescriptor yX3_passDay.desc).map (fun d => d.parameters.length) = some 0 := by decide +kernel
theorem dV_X3_pay : yX3_pay.cls = RX3 ∧ yX3_pay.cls ≠ "java/lang/invoke/MethodHandle" ∧ yX3_pay.cls ≠ "java/lang/invoke/VarHandle" ∧ (parseMethodDescriptor yX3_pay.desc).map (fun d => d.parameters.length) = some 2 := by decide +kernel
theorem dS_X3_pay : yX3_pay.cls ≠ "java/lang/invoke/MethodHandle" ∧ yX3_pay.cls ≠ "java/lang/invoke/VarHandle" ∧ (parseMethodDescriptor yX3_pay.desc).map (fun d => d.parameters.length) = some 2 := by decide +kernel
theorem dV_X3_pledgedOn : yX3_pledgedOn.cls = RX3 ∧ yX3_pledgedOn.cls ≠ "java/lang/invoke/MethodHandle" ∧ yX3_pledgedOn.cls ≠ "java/lang/invoke/VarHandle" ∧ (parseMethodDescriptor yX3_pledgedOn.desc).map (fun d => d.parameters.length) = some 1 := by decide +kernel
theorem dS_X3_pledgedOn : yX3_pledgedOn.cls ≠ "java/lang/invoke/MethodHandle" ∧ yX3_pledgedOn.cls ≠ "java/lang/invoke/VarHandle" ∧ (parseMethodDescriptor yX3_pledgedOn.desc).map (fun d => d.parameters.length) = some 1 := by decide +kernel
theorem dV_X3_purseOf : yX3_purseOf.cls = RX3 ∧ yX3_purseOf.cls ≠ "java/lang/invoke/MethodHandle" ∧ yX3_purseOf.cls ≠ "java/lang/invoke/VarHandle" ∧ (parseMethodDescriptor yX3_purseOf.desc).map (fun d => d.parameters.length) = some 1 := by decide +kernel
theorem dS_X3_purseOf : yX3_purseOf.cls ≠ "java/lang/invoke/MethodHandle" ∧ yX3_purseOf.cls ≠ "java/lang/invoke/VarHandle" ∧ (parseMethodDescriptor yX3_purseOf.desc).map (fun d => d.parameters.length) = some 1 := by decide +kernel
theorem dV_X3_qualitiesThatAre : yX3_qualitiesThatAre.cls = RX3 ∧ yX3_qualitiesThatAre.cls ≠ "java/lang/invoke/MethodHandle" ∧ yX3_qualitiesThatAre.cls ≠ "java/lang/invoke/VarHandle" ∧ (parseMethodDescriptor yX3_qualitiesThatAre.desc).map (fun d => d.parameters.length) = some 1 := by decide +kernel
theorem dS_X3_qualitiesThatAre : yX3_qualitiesThatAre.cls ≠ "java/lang/invoke/MethodHandle" ∧ yX3_qualitiesThatAre.cls ≠ "java/lang/invoke/VarHandle" ∧ (parseMethodDescriptor yX3_qualitiesThatAre.desc).map (fun d => d.parameters.length) = some 1 := by decide +kernel
theorem dV_X3_saveTo : yX3_saveTo.cls = RX3 ∧ yX3_saveTo.cls ≠ "java/lang/invoke/MethodHandle" ∧ yX3_saveTo.cls ≠ "java/lang/invoke/VarHandle" ∧ (parseMethodDescriptor yX3_saveTo.desc).map (fun d => d.parameters.length) = some 2 := by decide +kernel
theorem dS_X3_saveTo : yX3_saveTo.cls ≠ "java/lang/invoke/MethodHandle" ∧ yX3_saveTo.cls ≠ "java/lang/invoke/VarHandle" ∧ (parseMethodDescriptor yX3_saveTo.desc).map (fun d => d.parameters.length) = some 2 := by decide +kernel
theorem dV_X3_sellAllBut : yX3_sellAllBut.cls = RX3 ∧ yX3_sellAllBut.cls ≠ "java/lang/invoke/MethodHandle" ∧ yX3_sellAllBut.cls ≠ "java/lang/invoke/VarHandle" ∧ (parseMethodDescriptor yX3_sellAllBut.desc).map (fun d => d.parameters.length) = some 1 := by decide +kernel
theorem dS_X3_sellAllBut : yX3_sellAllBut.cls ≠ "java/lang/invoke/MethodHandle" ∧ yX3_sellAllBut.cls ≠ "java/lang/invoke/VarHandle" ∧ (parseMethodDescriptor yX3_sellAllBut.desc).map (fun d => d.parameters.length) = some 1 := by decide +kernel
theorem dV_X3_sellOverdue : yX3_sellOverdue.cls = RX3 ∧ yX3_sellOverdue.cls ≠ "java/lang/invoke/MethodHandle" ∧ yX3_sellOverdue.cls ≠ "java/lang/invoke/VarHandle" ∧ (parseMethodDescriptor yX3_sellOverdue.desc).map (fun d => d.parameters.length) = some 0 := by decide +kernel
theorem dS_X3_sellOverdue : yX3_sellOverdue.cls ≠ "java/lang/invoke/MethodHandle" ∧ yX3_sellOverdue.cls ≠ "java/lang/invoke/VarHandle" ∧ (parseMethodDescriptor yX3_sellOverdue.desc).map (fun d => d.parameters.length) = some 0 := by decide +kernel
theorem dV_X3_settle : yX3_settle.cls = RX3 ∧ yX3_settle.cls ≠ "java/lang/invoke/MethodHandle" ∧ yX3_settle.cls ≠ "java/lang/invoke/VarHandle" ∧ (parseMethodDescriptor yX3_settle.desc).map (fun d => d.parameters.length) = some 1 := by decide +kernel
theorem dS_X3_settle : yX3_settle.cls ≠ "java/lang/invoke/MethodHandle" ∧ yX3_settle.cls ≠ "java/lang/invoke/VarHandle" ∧ (parseMethodDescriptor yX3_settle.desc).map (fun d => d.parameters.length) = some 1 := by decide +kernel
theorem dV_X3_standingOf : yX3_standingOf.cls = RX3 ∧ yX3_standingOf.cls ≠ "java/lang/invoke/MethodHandle" ∧ yX3_standingOf.cls ≠ "java/lang/invoke/VarHandle" ∧ (parseMethodDescriptor yX3_standingOf.desc).map (fun d => d.parameters.length) = some 1 := by decide +kernel
theorem dS_X3_standingOf : yX3_standingOf.cls ≠ "java/lang/invoke/MethodHandle" ∧ yX3_standingOf.cls ≠ "java/lang/invoke/VarHandle" ∧ (parseMethodDescriptor yX3_standingOf.desc).map (fun d => d.parameters.length) = some 1 := by decide +kernel
theorem dV_X3_today : yX3_today.cls = RX3 ∧ yX3_today.cls ≠ "java/lang/invoke/MethodHandle" ∧ yX3_today.cls ≠ "java/lang/invoke/VarHandle" ∧ (parseMethodDescriptor yX3_today.desc).map (fun d => d.parameters.length) = some 0 := by decide +kernel
theorem dS_X3_today : yX3_today.cls ≠ "java/lang/invoke/MethodHandle" ∧ yX3_today.cls ≠ "java/lang/invoke/VarHandle" ∧ (parseMethodDescriptor yX3_today.desc).map (fun d => d.parameters.length) = some 0 := by decide +kernel
theorem dV_X3_tryDeed : yX3_tryDeed.cls = RX3 ∧ yX3_tryDeed.cls ≠ "java/lang/invoke/MethodHandle" ∧ yX3_tryDeed.cls ≠ "java/lang/invoke/VarHandle" ∧ (parseMethodDescriptor yX3_tryDeed.desc).map (fun d => d.parameters.length) = some 1 := by decide +kernel
theorem dS_X3_tryDeed : yX3_tryDeed.cls ≠ "java/lang/invoke/MethodHandle" ∧ yX3_tryDeed.cls ≠ "java/lang/invoke/VarHandle" ∧ (parseMethodDescriptor yX3_tryDeed.desc).map (fun d => d.parameters.length) = some 1 := by decide +kernel
theorem dV_X3_tryGive : yX3_tryGive.cls = RX3 ∧ yX3_tryGive.cls ≠ "java/lang/invoke/MethodHandle" ∧ yX3_tryGive.cls ≠ "java/lang/invoke/VarHandle" ∧ (parseMethodDescriptor yX3_tryGive.desc).map (fun d => d.parameters.length) = some 2 := by decide +kernel
theorem dS_X3_tryGive : yX3_tryGive.cls ≠ "java/lang/invoke/MethodHandle" ∧ yX3_tryGive.cls ≠ "java/lang/invoke/VarHandle" ∧ (parseMethodDescriptor yX3_tryGive.desc).map (fun d => d.parameters.length) = some 2 := by decide +kernel
theorem dV_X3_tryPledge : yX3_tryPledge.cls = RX3 ∧ yX3_tryPledge.cls ≠ "java/lang/invoke/MethodHandle" ∧ yX3_tryPledge.cls ≠ "java/lang/invoke/VarHandle" ∧ (parseMethodDescriptor yX3_tryPledge.desc).map (fun d => d.parameters.length) = some 1 := by decide +kernel
theorem dS_X3_tryPledge : yX3_tryPledge.cls ≠ "java/lang/invoke/MethodHandle" ∧ yX3_tryPledge.cls ≠ "java/lang/invoke/VarHandle" ∧ (parseMethodDescriptor yX3_tryPledge.desc).map (fun d => d.parameters.length) = some 1 := by decide +kernel
theorem dV_X3_tryRedeem : yX3_tryRedeem.cls = RX3 ∧ yX3_tryRedeem.cls ≠ "java/lang/invoke/MethodHandle" ∧ yX3_tryRedeem.cls ≠ "java/lang/invoke/VarHandle" ∧ (parseMethodDescriptor yX3_tryRedeem.desc).map (fun d => d.parameters.length) = some 1 := by decide +kernel
theorem dS_X3_tryRedeem : yX3_tryRedeem.cls ≠ "java/lang/invoke/MethodHandle" ∧ yX3_tryRedeem.cls ≠ "java/lang/invoke/VarHandle" ∧ (parseMethodDescriptor yX3_tryRedeem.desc).map (fun d => d.parameters.length) = some 1 := by decide +kernel
theorem dV_X4_append : yX4_append.cls = RX4 ∧ yX4_append.cls ≠ "java/lang/invoke/MethodHandle" ∧ yX4_append.cls ≠ "java/lang/invoke/VarHandle" ∧ (parseMethodDescriptor yX4_append.desc).map (fun d => d.parameters.length) = some 1 := by decide +kernel
theorem dS_X4_append : yX4_append.cls ≠ "java/lang/invoke/MethodHandle" ∧ yX4_append.cls ≠ "java/lang/invoke/VarHandle" ∧ (parseMethodDescriptor yX4_append.desc).map (fun d => d.parameters.length) = some 1 := by decide +kernel
theorem dV_X4_figure : yX4_figure.cls = RX4 ∧ yX4_figure.cls ≠ "java/lang/invoke/MethodHandle" ∧ yX4_figure.cls ≠ "java/lang/invoke/VarHandle" ∧ (parseMethodDescriptor yX4_figure.desc).map (fun d => d.parameters.length) = some 2 := by decide +kernel
theorem dS_X4_figure : yX4_figure.cls ≠ "java/lang/invoke/MethodHandle" ∧ yX4_figure.cls ≠ "java/lang/invoke/VarHandle" ∧ (parseMethodDescriptor yX4_figure.desc).map (fun d => d.parameters.length) = some 2 := by decide +kernel
theorem dV_X4_init : yX4_init.cls = RX4 ∧ yX4_init.cls ≠ "java/lang/invoke/MethodHandle" ∧ yX4_init.cls ≠ "java/lang/invoke/VarHandle" ∧ (parseMethodDescriptor yX4_init.desc).map (fun d => d.parameters.length) = some 0 := by decide +kernel
theorem dS_X4_init : yX4_init.cls ≠ "java/lang/invoke/MethodHandle" ∧ yX4_init.cls ≠ "java/lang/invoke/VarHandle" ∧ (parseMethodDescriptor yX4_init.desc).map (fun d => d.parameters.length) = some 0 := by decide +kernel
theorem dV_X4_readDeed : yX4_readDeed.cls = RX4 ∧ yX4_readDeed.cls ≠ "java/lang/invoke/MethodHandle" ∧ yX4_readDeed.cls ≠ "java/lang/invoke/VarHandle" ∧ (parseMethodDescriptor yX4_readDeed.desc).map (fun d => d.parameters.length) = some 1 := by decide +kernel
theorem dS_X4_readDeed : yX4_readDeed.cls ≠ "java/lang/invoke/MethodHandle" ∧ yX4_readDeed.cls ≠ "java/lang/invoke/VarHandle" ∧ (parseMethodDescriptor yX4_readDeed.desc).map (fun d => d.parameters.length) = some 1 := by decide +kernel
theorem dV_X4_readInto : yX4_readInto.cls = RX4 ∧ yX4_readInto.cls ≠ "java/lang/invoke/MethodHandle" ∧ yX4_readInto.cls ≠ "java/lang/invoke/VarHandle" ∧ (parseMethodDescriptor yX4_readInto.desc).map (fun d => d.parameters.length) = some 1 := by decide +kernel
theorem dS_X4_readInto : yX4_readInto.cls ≠ "java/lang/invoke/MethodHandle" ∧ yX4_readInto.cls ≠ "java/lang/invoke/VarHandle" ∧ (parseMethodDescriptor yX4_readInto.desc).map (fun d => d.parameters.length) = some 1 := by decide +kernel
theorem dV_X4_readPerson : yX4_readPerson.cls = RX4 ∧ yX4_readPerson.cls ≠ "java/lang/invoke/MethodHandle" ∧ yX4_readPerson.cls ≠ "java/lang/invoke/VarHandle" ∧ (parseMethodDescriptor yX4_readPerson.desc).map (fun d => d.parameters.length) = some 1 := by decide +kernel
theorem dS_X4_readPerson : yX4_readPerson.cls ≠ "java/lang/invoke/MethodHandle" ∧ yX4_readPerson.cls ≠ "java/lang/invoke/VarHandle" ∧ (parseMethodDescriptor yX4_readPerson.desc).map (fun d => d.parameters.length) = some 1 := by decide +kernel
theorem dV_X4_readQuality : yX4_readQuality.cls = RX4 ∧ yX4_readQuality.cls ≠ "java/lang/invoke/MethodHandle" ∧ yX4_readQuality.cls ≠ "java/lang/invoke/VarHandle" ∧ (parseMethodDescriptor yX4_readQuality.desc).map (fun d => d.parameters.length) = some 1 := by decide +kernel
theorem dS_X4_readQuality : yX4_readQuality.cls ≠ "java/lang/invoke/MethodHandle" ∧ yX4_readQuality.cls ≠ "java/lang/invoke/VarHandle" ∧ (parseMethodDescriptor yX4_readQuality.desc).map (fun d => d.parameters.length) = some 1 := by decide +kernel
theorem dV_X4_readThing : yX4_readThing.cls = RX4 ∧ yX4_readThing.cls ≠ "java/lang/invoke/MethodHandle" ∧ yX4_readThing.cls ≠ "java/lang/invoke/VarHandle" ∧ (parseMethodDescriptor yX4_readThing.desc).map (fun d => d.parameters.length) = some 1 := by decide +kernel
theorem dS_X4_readThing : yX4_readThing.cls ≠ "java/lang/invoke/MethodHandle" ∧ yX4_readThing.cls ≠ "java/lang/invoke/VarHandle" ∧ (parseMethodDescriptor yX4_readThing.desc).map (fun d => d.parameters.length) = some 1 := by decide +kernel
theorem dV_X4_upcoming : yX4_upcoming.cls = RX4 ∧ yX4_upcoming.cls ≠ "java/lang/invoke/MethodHandle" ∧ yX4_upcoming.cls ≠ "java/lang/invoke/VarHandle" ∧ (parseMethodDescriptor yX4_upcoming.desc).map (fun d => d.parameters.length) = some 0 := by decide +kernel
theorem dS_X4_upcoming : yX4_upcoming.cls ≠ "java/lang/invoke/MethodHandle" ∧ yX4_upcoming.cls ≠ "java/lang/invoke/VarHandle" ∧ (parseMethodDescriptor yX4_upcoming.desc).map (fun d => d.parameters.length) = some 0 := by decide +kernel
theorem dV_X5_about : yX5_about.cls = RX5 ∧ yX5_about.cls ≠ "java/lang/invoke/MethodHandle" ∧ yX5_about.cls ≠ "java/lang/invoke/VarHandle" ∧ (parseMethodDescriptor yX5_about.desc).map (fun d => d.parameters.length) = some 1 := by decide +kernel
theorem dS_X5_about : yX5_about.cls ≠ "java/lang/invoke/MethodHandle" ∧ yX5_about.cls ≠ "java/lang/invoke/VarHandle" ∧ (parseMethodDescriptor yX5_about.desc).map (fun d => d.parameters.length) = some 1 := by decide +kernel
theorem dV_X5_again : yX5_again.cls = RX5 ∧ yX5_again.cls ≠ "java/lang/invoke/MethodHandle" ∧ yX5_again.cls ≠ "java/lang/invoke/VarHandle" ∧ (parseMethodDescriptor yX5_again.desc).map (fun d => d.parameters.length) = some 1 := by decide +kernel
theorem dS_X5_again : yX5_again.cls ≠ "java/lang/invoke/MethodHandle" ∧ yX5_again.cls ≠ "java/lang/invoke/VarHandle" ∧ (parseMethodDescriptor yX5_again.desc).map (fun d => d.parameters.length) = some 1 := by decide +kernel
theorem dV_X5_ask : yX5_ask.cls = RX5 ∧ yX5_ask.cls ≠ "java/lang/invoke/MethodHandle" ∧ yX5_ask.cls ≠ "java/lang/invoke/VarHandle" ∧ (parseMethodDescriptor yX5_ask.desc).map (fun d => d.parameters.length) = some 2 := by decide +kernel
theorem dS_X5_ask : yX5_ask.cls ≠ "java/lang/invoke/MethodHandle" ∧ yX5_ask.cls ≠ "java/lang/invoke/VarHandle" ∧ (parseMethodDescriptor yX5_ask.desc).map (fun d => d.parameters.length) = some 2 := by decide +kernel
theorem dV_X5_back : yX5_back.cls = RX5 ∧ yX5_back.cls ≠ "java/lang/invoke/MethodHandle" ∧ yX5_back.cls ≠ "java/lang/invoke/VarHandle" ∧ (parseMethodDescriptor yX5_back.desc).map (fun d => d.parameters.length) = some 1 := by decide +kernel
theorem dS_X5_back : yX5_back.cls ≠ "java/lang/invoke/MethodHandle" ∧ yX5_back.cls ≠ "java/lang/invoke/VarHandle" ∧ (parseMethodDescriptor yX5_back.desc).map (fun d => d.parameters.length) = some 1 := by decide +kernel
theorem dV_X5_cell : yX5_cell.cls = RX5 ∧ yX5_cell.cls ≠ "java/lang/invoke/MethodHandle" ∧ yX5_cell.cls ≠ "java/lang/invoke/VarHandle" ∧ (parseMethodDescriptor yX5_cell.desc).map (fun d => d.parameters.length) = some 2 := by decide +kernel
theorem dS_X5_cell : yX5_cell.cls ≠ "java/lang/invoke/MethodHandle" ∧ yX5_cell.cls ≠ "java/lang/invoke/VarHandle" ∧ (parseMethodDescriptor yX5_cell.desc).map (fun d => d.parameters.length) = some 2 := by decide +kernel
theorem dV_X5_coins : yX5_coins.cls = RX5 ∧ yX5_coins.cls ≠ "java/lang/invoke/MethodHandle" ∧ yX5_coins.cls ≠ "java/lang/invoke/VarHandle" ∧ (parseMethodDescriptor yX5_coins.desc).map (fun d => d.parameters.length) = some 2 := by decide +kernel
theorem dS_X5_coins : yX5_coins.cls ≠ "java/lang/invoke/MethodHandle" ∧ yX5_coins.cls ≠ "java/lang/invoke/VarHandle" ∧ (parseMethodDescriptor yX5_coins.desc).map (fun d => d.parameters.length) = some 2 := by decide +kernel
theorem dV_X5_day : yX5_day.cls = RX5 ∧ yX5_day.cls ≠ "java/lang/invoke/MethodHandle" ∧ yX5_day.cls ≠ "java/lang/invoke/VarHandle" ∧ (parseMethodDescriptor yX5_day.desc).map (fun d => d.parameters.length) = some 0 := by decide +kernel
theorem dS_X5_day : yX5_day.cls ≠ "java/lang/invoke/MethodHandle" ∧ yX5_day.cls ≠ "java/lang/invoke/VarHandle" ∧ (parseMethodDescriptor yX5_day.desc).map (fun d => d.parameters.length) = some 0 := by decide +kernel
theorem dV_X5_deed : yX5_deed.cls = RX5 ∧ yX5_deed.cls ≠ "java/lang/invoke/MethodHandle" ∧ yX5_deed.cls ≠ "java/lang/invoke/VarHandle" ∧ (parseMethodDescriptor yX5_deed.desc).map (fun d => d.parameters.length) = some 2 := by decide +kernel
theorem dS_X5_deed : yX5_deed.cls ≠ "java/lang/invoke/MethodHandle" ∧ yX5_deed.cls ≠ "java/lang/invoke/VarHandle" ∧ (parseMethodDescriptor yX5_deed.desc).map (fun d => d.parameters.length) = some 2 := by decide +kernel
theorem dV_X5_deedsIfPledged : yX5_deedsIfPledged.cls = RX5 ∧ yX5_deedsIfPledged.cls ≠ "java/lang/invoke/MethodHandle" ∧ yX5_deedsIfPledged.cls ≠ "java/lang/invoke/VarHandle" ∧ (parseMethodDescriptor yX5_deedsIfPledged.desc).map (fun d => d.parameters.length) = some 3 := by decide +kernel
theorem dS_X5_deedsIfPledged : yX5_deedsIfPledged.cls ≠ "java/lang/invoke/MethodHandle" ∧ yX5_deedsIfPledged.cls ≠ "java/lang/invoke/VarHandle" ∧ (parseMethodDescriptor yX5_deedsIfPledged.desc).map (fun d => d.parameters.length) = some 3 := by decide +kernel
theorem dV_X5_deedsIfSold : yX5_deedsIfSold.cls = RX5 ∧ yX5_deedsIfSold.cls ≠ "java/lang/invoke/MethodHandle" ∧ yX5_deedsIfSold.cls ≠ "java/lang/invoke/VarHandle" ∧ (parseMethodDescriptor yX5_deedsIfSold.desc).map (fun d => d.parameters.length) = some 1 := by decide +kernel
theorem dS_X5_deedsIfSold : yX5_deedsIfSold.cls ≠ "java/lang/invoke/MethodHandle" ∧ yX5_deedsIfSold.cls ≠ "java/lang/invoke/VarHandle" ∧ (parseMethodDescriptor yX5_deedsIfSold.desc).map (fun d => d.parameters.length) = some 1 := by decide +kernel
theorem dV_X5_done : yX5_done.cls = RX5 ∧ yX5_done.cls ≠ "java/lang/invoke/MethodHandle" ∧ yX5_done.cls ≠ "java/lang/invoke/VarHandle" ∧ (parseMethodDescriptor yX5_done.desc).map (fun d => d.parameters.length) = some 1 := by decide +kernel
theorem dS_X5_done : yX5_done.cls ≠ "java/lang/invoke/MethodHandle" ∧ yX5_done.cls ≠ "java/lang/invoke/VarHandle" ∧ (parseMethodDescriptor yX5_done.desc).map (fun d => d.parameters.length) = some 1 := by decide +kernel
theorem dV_X5_due : yX5_due.cls = RX5 ∧ yX5_due.cls ≠ "java/lang/invoke/MethodHandle" ∧ yX5_due.cls ≠ "java/lang/invoke/VarHandle" ∧ (parseMethodDescriptor yX5_due.desc).map (fun d => d.parameters.length) = some 2 := by decide +kernel
theorem dS_X5_due : yX5_due.cls ≠ "java/lang/invoke/MethodHandle" ∧ yX5_due.cls ≠ "java/lang/invoke/VarHandle" ∧ (parseMethodDescriptor yX5_due.desc).map (fun d => d.parameters.length) = some 2 := by decide +kernel
theorem dV_X5_dueFor : yX5_dueFor.cls = RX5 ∧ yX5_dueFor.cls ≠ "java/lang/invoke/MethodHandle" ∧ yX5_dueFor.cls ≠ "java/lang/invoke/VarHandle" ∧ (parseMethodDescriptor yX5_dueFor.desc).map (fun d => d.parameters.length) = some 4 := by decide +kernel
theorem dS_X5_dueFor : yX5_dueFor.cls ≠ "java/lang/invoke/MethodHandle" ∧ yX5_dueFor.cls ≠ "java/lang/invoke/VarHandle" ∧ (parseMethodDescriptor yX5_dueFor.desc).map (fun d => d.parameters.length) = some 4 := by decide +kernel
theorem dV_X5_fault : yX5_fault.cls = RX5 ∧ yX5_fault.cls ≠ "java/lang/invoke/MethodHandle" ∧ yX5_fault.cls ≠ "java/lang/invoke/VarHandle" ∧ (parseMethodDescriptor yX5_fault.desc).map (fun d => d.parameters.length) = some 0 := by decide +kernel
theorem dS_X5_fault : yX5_fault.cls ≠ "java/lang/invoke/MethodHandle" ∧ yX5_fault.cls ≠ "java/lang/invoke/VarHandle" ∧ (parseMethodDescriptor yX5_fault.desc).map (fun d => d.parameters.length) = some 0 := by decide +kernel
theorem dV_X5_gain : yX5_gain.cls = RX5 ∧ yX5_gain.cls ≠ "java/lang/invoke/MethodHandle" ∧ yX5_gain.cls ≠ "java/lang/invoke/VarHandle" ∧ (parseMethodDescriptor yX5_gain.desc).map (fun d => d.parameters.length) = some 4 := by decide +kernel
theorem dS_X5_gain : yX5_gain.cls ≠ "java/lang/invoke/MethodHandle" ∧ yX5_gain.cls ≠ "java/lang/invoke/VarHandle" ∧ (parseMethodDescriptor yX5_gain.desc).map (fun d => d.parameters.length) = some 4 := by decide +kernel
theorem dV_X5_give : yX5_give.cls = RX5 ∧ yX5_give.cls ≠ "java/lang/invoke/MethodHandle" ∧ yX5_give.cls ≠ "java/lang/invoke/VarHandle" ∧ (parseMethodDescriptor yX5_give.desc).map (fun d => d.parameters.length) = some 2 := by decide +kernel
theorem dS_X5_give : yX5_give.cls ≠ "java/lang/invoke/MethodHandle" ∧ yX5_give.cls ≠ "java/lang/invoke/VarHandle" ∧ (parseMethodDescriptor yX5_give.desc).map (fun d => d.parameters.length) = some 2 := by decide +kernel
theorem dV_X5_init : yX5_init.cls = RX5 ∧ yX5_init.cls ≠ "java/lang/invoke/MethodHandle" ∧ yX5_init.cls ≠ "java/lang/invoke/VarHandle" ∧ (parseMethodDescriptor yX5_init.desc).map (fun d => d.parameters.length) = some 0 := by decide +kernel
theorem dS_X5_init : yX5_init.cls ≠ "java/lang/invoke/MethodHandle" ∧ yX5_init.cls ≠ "java/lang/invoke/VarHandle" ∧ (parseMethodDescriptor yX5_init.desc).map (fun d => d.parameters.length) = some 0 := by decide +kernel
theorem dV_X5_isNoChoice : yX5_isNoChoice.cls = RX5 ∧ yX5_isNoChoice.cls ≠ "java/lang/invoke/MethodHandle" ∧ yX5_isNoChoice.cls ≠ "java/lang/invoke/VarHandle" ∧ (parseMethodDescriptor yX5_isNoChoice.desc).map (fun d => d.parameters.length) = some 1 := by decide +kernel
theorem dS_X5_isNoChoice : yX5_isNoChoice.cls ≠ "java/lang/invoke/MethodHandle" ∧ yX5_isNoChoice.cls ≠ "java/lang/invoke/VarHandle" ∧ (parseMethodDescriptor yX5_isNoChoice.desc).map (fun d => d.parameters.length) = some 1 := by decide +kernel
theorem dV_X5_isNoDaysAhead : yX5_isNoDaysAhead.cls = RX5 ∧ yX5_isNoDaysAhead.cls ≠ "java/lang/invoke/MethodHandle" ∧ yX5_isNoDaysAhead.cls ≠ "java/lang/invoke/VarHandle" ∧ (parseMethodDescriptor yX5_isNoDaysAhead.desc).map (fun d => d.parameters.length) = some 1 := by decide +kernel
theorem dS_X5_isNoDaysAhead : yX5_isNoDaysAhead.cls ≠ "java/lang/invoke/MethodHandle" ∧ yX5_isNoDaysAhead.cls ≠ "java/lang/invoke/VarHandle" ∧ (parseMethodDescriptor yX5_isNoDaysAhead.desc).map (fun d => d.parameters.length) = some 1 := by decide +kernel
theorem dV_X5_judge : yX5_judge.cls = RX5 ∧ yX5_judge.cls ≠ "java/lang/invoke/MethodHandle" ∧ yX5_judge.cls ≠ "java/lang/invoke/VarHandle" ∧ (parseMethodDescriptor yX5_judge.desc).map (fun d => d.parameters.length) = some 2 := by decide +kernel
theorem dS_X5_judge : yX5_judge.cls ≠ "java/lang/invoke/MethodHandle" ∧ yX5_judge.cls ≠ "java/lang/invoke/VarHandle" ∧ (parseMethodDescriptor yX5_judge.desc).map (fun d => d.parameters.length) = some 2 := by decide +kernel
theorem dV_X5_keep : yX5_keep.cls = RX5 ∧ yX5_keep.cls ≠ "java/lang/invoke/MethodHandle" ∧ yX5_keep.cls ≠ "java/lang/invoke/VarHandle" ∧ (parseMethodDescriptor yX5_keep.desc).map (fun d => d.parameters.length) = some 1 := by decide +kernel
theorem dS_X5_keep : yX5_keep.cls ≠ "java/lang/invoke/MethodHandle" ∧ yX5_keep.cls ≠ "java/lang/invoke/VarHandle" ∧ (parseMethodDescriptor yX5_keep.desc).map (fun d => d.parameters.length) = some 1 := by decide +kernel
theorem dV_X5_lookAhead : yX5_lookAhead.cls = RX5 ∧ yX5_lookAhead.cls ≠ "java/lang/invoke/MethodHandle" ∧ yX5_lookAhead.cls ≠ "java/lang/invoke/VarHandle" ∧ (parseMethodDescriptor yX5_lookAhead.desc).map (fun d => d.parameters.length) = some 1 := by decide +kernel
theorem dS_X5_lookAhead : yX5_lookAhead.cls ≠ "java/lang/invoke/MethodHandle" ∧ yX5_lookAhead.cls ≠ "java/lang/invoke/VarHandle" ∧ (parseMethodDescriptor yX5_lookAhead.desc).map (fun d => d.parameters.length) = some 1 := by decide +kernel
theorem dV_X5_partOfFraction : yX5_partOfFraction.cls = RX5 ∧ yX5_partOfFraction.cls ≠ "java/lang/invoke/MethodHandle" ∧ yX5_partOfFraction.cls ≠ "java/lang/invoke/VarHandle" ∧ (parseMethodDescriptor yX5_partOfFraction.desc).map (fun d => d.parameters.length) = some 3 := by decide +kernel
theorem dS_X5_partOfFraction : yX5_partOfFraction.cls ≠ "java/lang/invoke/MethodHandle" ∧ yX5_partOfFraction.cls ≠ "java/lang/invoke/VarHandle" ∧ (parseMethodDescriptor yX5_partOfFraction.desc).map (fun d => d.parameters.length) = some 3 := by decide +kernel
theorem dV_X5_person : yX5_person.cls = RX5 ∧ yX5_person.cls ≠ "java/lang/invoke/MethodHandle" ∧ yX5_person.cls ≠ "java/lang/invoke/VarHandle" ∧ (parseMethodDescriptor yX5_person.desc).map (fun d => d.parameters.length) = some 2 := by decide +kernel
theorem dS_X5_person : yX5_person.cls ≠ "java/lang/invoke/MethodHandle" ∧ yX5_person.cls ≠ "java/lang/invoke/VarHandle" ∧ (parseMethodDescriptor yX5_person.desc).map (fun d => d.parameters.length) = some 2 := by decide +kernel
theorem dV_X5_pledge : yX5_pledge.cls = RX5 ∧ yX5_pledge.cls ≠ "java/lang/invoke/MethodHandle" ∧ yX5_pledge.cls ≠ "java/lang/invoke/VarHandle" ∧ (parseMethodDescriptor yX5_pledge.desc).map (fun d => d.parameters.length) = some 1 := by decide +kernel
theorem dS_X5_pledge : yX5_pledge.cls ≠ "java/lang/invoke/MethodHandle" ∧ yX5_pledge.cls ≠ "java/lang/invoke/VarHandle" ∧ (parseMethodDescriptor yX5_pledge.desc).map (fun d => d.parameters.length) = some 1 := by decide +kernel
theorem dV_X5_put : yX5_put.cls = RX5 ∧ yX5_put.cls ≠ "java/lang/invoke/MethodHandle" ∧ yX5_put.cls ≠ "java/lang/invoke/VarHandle" ∧ (parseMethodDescriptor yX5_put.desc).map (fun d => d.parameters.length) = some 3 := by decide +kernel
theorem dS_X5_put : yX5_put.cls ≠ "java/lang/invoke/MethodHandle" ∧ yX5_put.cls ≠ "java/lang/invoke/VarHandle" ∧ (parseMethodDescriptor yX5_put.desc).map (fun d => d.parameters.length) = some 3 := by decide +kernel
theorem dV_X5_quality : yX5_quality.cls = RX5 ∧ yX5_quality.cls ≠ "java/lang/invoke/MethodHandle" ∧ yX5_quality.cls ≠ "java/lang/invoke/VarHandle" ∧ (parseMethodDescriptor yX5_quality.desc).map (fun d => d.parameters.length) = some 2 := by decide +kernel
theorem dS_X5_quality : yX5_quality.cls ≠ "java/lang/invoke/MethodHandle" ∧ yX5_quality.cls ≠ "java/lang/invoke/VarHandle" ∧ (parseMethodDescriptor yX5_quality.desc).map (fun d => d.parameters.length) = some 2 := by decide +kernel
theorem dV_X5_raise : yX5_raise.cls = RX5 ∧ yX5_raise.cls ≠ "java/lang/invoke/MethodHandle" ∧ yX5_raise.cls ≠ "java/lang/invoke/VarHandle" ∧ (parseMethodDescriptor yX5_raise.desc).map (fun d => d.parameters.length) = some 3 := by decide +kernel
theorem dS_X5_raise : yX5_raise.cls ≠ "java/lang/invoke/MethodHandle" ∧ yX5_raise.cls ≠ "java/lang/invoke/VarHandle" ∧ (parseMethodDescriptor yX5_raise.desc).map (fun d => d.parameters.length) = some 3 := by decide +kernel
theorem dV_X5_redeem : yX5_redeem.cls = RX5 ∧ yX5_redeem.cls ≠ "java/lang/invoke/MethodHandle" ∧ yX5_redeem.cls ≠ "java/lang/invoke/VarHandle" ∧ (parseMethodDescriptor yX5_redeem.desc).map (fun d => d.parameters.length) = some 1 := by decide +kernel
theorem dS_X5_redeem : yX5_redeem.cls ≠ "java/lang/invoke/MethodHandle" ∧ yX5_redeem.cls ≠ "java/lang/invoke/VarHandle" ∧ (parseMethodDescriptor yX5_redeem.desc).map (fun d => d.parameters.length) = some 1 := by decide +kernel
theorem dV_X5_rests : yX5_rests.cls = RX5 ∧ yX5_rests.cls ≠ "java/lang/invoke/MethodHandle" ∧ yX5_rests.cls ≠ "java/lang/invoke/VarHandle" ∧ (parseMethodDescriptor yX5_rests.desc).map (fun d => d.parameters.length) = some 3 := by decide +kernel
theorem dS_X5_rests : yX5_rests.cls ≠ "java/lang/invoke/MethodHandle" ∧ yX5_rests.cls ≠ "java/lang/invoke/VarHandle" ∧ (parseMethodDescriptor yX5_rests.desc).map (fun d => d.parameters.length) = some 3 := by decide +kernel
theorem dV_X5_sales : yX5_sales.cls = RX5 ∧ yX5_sales.cls ≠ "java/lang/invoke/MethodHandle" ∧ yX5_sales.cls ≠ "java/lang/invoke/VarHandle" ∧ (parseMethodDescriptor yX5_sales.desc).map (fun d => d.parameters.length) = some 3 := by decide +kernel
theorem dS_X5_sales : yX5_sales.cls ≠ "java/lang/invoke/MethodHandle" ∧ yX5_sales.cls ≠ "java/lang/invoke/VarHandle" ∧ (parseMethodDescriptor yX5_sales.desc).map (fun d => d.parameters.length) = some 3 := by decide +kernel
theorem dV_X5_seed : yX5_seed.cls = RX5 ∧ yX5_seed.cls ≠ "java/lang/invoke/MethodHandle" ∧ yX5_seed.cls ≠ "java/lang/invoke/VarHandle" ∧ (parseMethodDescriptor yX5_seed.desc).map (fun d => d.parameters.length) = some 1 := by decide +kernel
theorem dS_X5_seed : yX5_seed.cls ≠ "java/lang/invoke/MethodHandle" ∧ yX5_seed.cls ≠ "java/lang/invoke/VarHandle" ∧ (parseMethodDescriptor yX5_seed.desc).map (fun d => d.parameters.length) = some 1 := by decide +kernel
theorem dV_X5_share : yX5_share.cls = RX5 ∧ yX5_share.cls ≠ "java/lang/invoke/MethodHandle" ∧ yX5_share.cls ≠ "java/lang/invoke/VarHandle" ∧ (parseMethodDescriptor yX5_share.desc).map (fun d => d.parameters.length) = some 2 := by decide +kernel
theorem dS_X5_share : yX5_share.cls ≠ "java/lang/invoke/MethodHandle" ∧ yX5_share.cls ≠ "java/lang/invoke/VarHandle" ∧ (parseMethodDescriptor yX5_share.desc).map (fun d => d.parameters.length) = some 2 := by decide +kernel
theorem dV_X5_shop : yX5_shop.cls = RX5 ∧ yX5_shop.cls ≠ "java/lang/invoke/MethodHandle" ∧ yX5_shop.cls ≠ "java/lang/invoke/VarHandle" ∧ (parseMethodDescriptor yX5_shop.desc).map (fun d => d.parameters.length) = some 0 := by decide +kernel
theorem dS_X5_shop : yX5_shop.cls ≠ "java/lang/invoke/MethodHandle" ∧ yX5_shop.cls ≠ "java/lang/invoke/VarHandle" ∧ (parseMethodDescriptor yX5_shop.desc).map (fun d => d.parameters.length) = some 0 := by decide +kernel
theorem dV_X5_tickets : yX5_tickets.cls = RX5 ∧ yX5_tickets.cls ≠ "java/lang/invoke/MethodHandle" ∧ yX5_tickets.cls ≠ "java/lang/invoke/VarHandle" ∧ (parseMethodDescriptor yX5_tickets.desc).map (fun d => d.parameters.length) = some 1 := by decide +kernel
theorem dS_X5_tickets : yX5_tickets.cls ≠ "java/lang/invoke/MethodHandle" ∧ yX5_tickets.cls ≠ "java/lang/invoke/VarHandle" ∧ (parseMethodDescriptor yX5_tickets.desc).map (fun d => d.parameters.length) = some 1 := by decide +kernel
theorem dV_X5_unask : yX5_unask.cls = RX5 ∧ yX5_unask.cls ≠ "java/lang/invoke/MethodHandle" ∧ yX5_unask.cls ≠ "java/lang/invoke/VarHandle" ∧ (parseMethodDescriptor yX5_unask.desc).map (fun d => d.parameters.length) = some 0 := by decide +kernel
theorem dS_X5_unask : yX5_unask.cls ≠ "java/lang/invoke/MethodHandle" ∧ yX5_unask.cls ≠ "java/lang/invoke/VarHandle" ∧ (parseMethodDescriptor yX5_unask.desc).map (fun d => d.parameters.length) = some 0 := by decide +kernel
theorem dV_X5_undo : yX5_undo.cls = RX5 ∧ yX5_undo.cls ≠ "java/lang/invoke/MethodHandle" ∧ yX5_undo.cls ≠ "java/lang/invoke/VarHandle" ∧ (parseMethodDescriptor yX5_undo.desc).map (fun d => d.parameters.length) = some 0 := by decide +kernel
theorem dS_X5_undo : yX5_undo.cls ≠ "java/lang/invoke/MethodHandle" ∧ yX5_undo.cls ≠ "java/lang/invoke/VarHandle" ∧ (parseMethodDescriptor yX5_undo.desc).map (fun d => d.parameters.length) = some 0 := by decide +kernel
theorem dV_X5_weightOfSale : yX5_weightOfSale.cls = RX5 ∧ yX5_weightOfSale.cls ≠ "java/lang/invoke/MethodHandle" ∧ yX5_weightOfSale.cls ≠ "java/lang/invoke/VarHandle" ∧ (parseMethodDescriptor yX5_weightOfSale.desc).map (fun d => d.parameters.length) = some 3 := by decide +kernel
theorem dS_X5_weightOfSale : yX5_weightOfSale.cls ≠ "java/lang/invoke/MethodHandle" ∧ yX5_weightOfSale.cls ≠ "java/lang/invoke/VarHandle" ∧ (parseMethodDescriptor yX5_weightOfSale.desc).map (fun d => d.parameters.length) = some 3 := by decide +kernel
theorem dV_X5_wipe : yX5_wipe.cls = RX5 ∧ yX5_wipe.cls ≠ "java/lang/invoke/MethodHandle" ∧ yX5_wipe.cls ≠ "java/lang/invoke/VarHandle" ∧ (parseMethodDescriptor yX5_wipe.desc).map (fun d => d.parameters.length) = some 0 := by decide +kernel
theorem dS_X5_wipe : yX5_wipe.cls ≠ "java/lang/invoke/MethodHandle" ∧ yX5_wipe.cls ≠ "java/lang/invoke/VarHandle" ∧ (parseMethodDescriptor yX5_wipe.desc).map (fun d => d.parameters.length) = some 0 := by decide +kernel
theorem dV_X5_write : yX5_write.cls = RX5 ∧ yX5_write.cls ≠ "java/lang/invoke/MethodHandle" ∧ yX5_write.cls ≠ "java/lang/invoke/VarHandle" ∧ (parseMethodDescriptor yX5_write.desc).map (fun d => d.parameters.length) = some 1 := by decide +kernel
theorem dS_X5_write : yX5_write.cls ≠ "java/lang/invoke/MethodHandle" ∧ yX5_write.cls ≠ "java/lang/invoke/VarHandle" ∧ (parseMethodDescriptor yX5_write.desc).map (fun d => d.parameters.length) = some 1 := by decide +kernel
theorem dV_X5_years : yX5_years.cls = RX5 ∧ yX5_years.cls ≠ "java/lang/invoke/MethodHandle" ∧ yX5_years.cls ≠ "java/lang/invoke/VarHandle" ∧ (parseMethodDescriptor yX5_years.desc).map (fun d => d.parameters.length) = some 1 := by decide +kernel
theorem dS_X5_years : yX5_years.cls ≠ "java/lang/invoke/MethodHandle" ∧ yX5_years.cls ≠ "java/lang/invoke/VarHandle" ∧ (parseMethodDescriptor yX5_years.desc).map (fun d => d.parameters.length) = some 1 := by decide +kernel
theorem dV_X6_about : yX6_about.cls = RX6 ∧ yX6_about.cls ≠ "java/lang/invoke/MethodHandle" ∧ yX6_about.cls ≠ "java/lang/invoke/VarHandle" ∧ (parseMethodDescriptor yX6_about.desc).map (fun d => d.parameters.length) = some 1 := by decide +kernel
theorem dS_X6_about : yX6_about.cls ≠ "java/lang/invoke/MethodHandle" ∧ yX6_about.cls ≠ "java/lang/invoke/VarHandle" ∧ (parseMethodDescriptor yX6_about.desc).map (fun d => d.parameters.length) = some 1 := by decide +kernel
theorem dV_X6_again : yX6_again.cls = RX6 ∧ yX6_again.cls ≠ "java/lang/invoke/MethodHandle" ∧ yX6_again.cls ≠ "java/lang/invoke/VarHandle" ∧ (parseMethodDescriptor yX6_again.desc).map (fun d => d.parameters.length) = some 1 := by decide +kernel
theorem dS_X6_again : yX6_again.cls ≠ "java/lang/invoke/MethodHandle" ∧ yX6_again.cls ≠ "java/lang/invoke/VarHandle" ∧ (parseMethodDescriptor yX6_again.desc).map (fun d => d.parameters.length) = some 1 := by decide +kernel
theorem dV_X6_ask : yX6_ask.cls = RX6 ∧ yX6_ask.cls ≠ "java/lang/invoke/MethodHandle" ∧ yX6_ask.cls ≠ "java/lang/invoke/VarHandle" ∧ (parseMethodDescriptor yX6_ask.desc).map (fun d => d.parameters.length) = some 2 := by decide +kernel
theorem dS_X6_ask : yX6_ask.cls ≠ "java/lang/invoke/MethodHandle" ∧ yX6_ask.cls ≠ "java/lang/invoke/VarHandle" ∧ (parseMethodDescriptor yX6_ask.desc).map (fun d => d.parameters.length) = some 2 := by decide +kernel
theorem dV_X6_back : yX6_back.cls = RX6 ∧ yX6_back.cls ≠ "java/lang/invoke/MethodHandle" ∧ yX6_back.cls ≠ "java/lang/invoke/VarHandle" ∧ (parseMethodDescriptor yX6_back.desc).map (fun d => d.parameters.length) = some 1 := by decide +kernel
theorem dS_X6_back : yX6_back.cls ≠ "java/lang/invoke/MethodHandle" ∧ yX6_back.cls ≠ "java/lang/invoke/VarHandle" ∧ (parseMethodDescriptor yX6_back.desc).map (fun d => d.parameters.length) = some 1 := by decide +kernel
theorem dV_X6_begin : yX6_begin.cls = RX6 ∧ yX6_begin.cls ≠ "java/lang/invoke/MethodHandle" ∧ yX6_begin.cls ≠ "java/lang/invoke/VarHandle" ∧ (parseMethodDescriptor yX6_begin.desc).map (fun d => d.parameters.length) = some 0 := by decide +kernel
theorem dS_X6_begin : yX6_begin.cls ≠ "java/lang/invoke/MethodHandle" ∧ yX6_begin.cls ≠ "java/lang/invoke/VarHandle" ∧ (parseMethodDescriptor yX6_begin.desc).map (fun d => d.parameters.length) = some 0 := by decide +kernel
theorem dV_X6_canPledge : yX6_canPledge.cls = RX6 ∧ yX6_canPledge.cls ≠ "java/lang/invoke/MethodHandle" ∧ yX6_canPledge.cls ≠ "java/lang/invoke/VarHandle" ∧ (parseMethodDescriptor yX6_canPledge.desc).map (fun d => d.parameters.length) = some 2 := by decide +kernel
theorem dS_X6_canPledge : yX6_canPledge.cls ≠ "java/lang/invoke/MethodHandle" ∧ yX6_canPledge.cls ≠ "java/lang/invoke/VarHandle" ∧ (parseMethodDescriptor yX6_canPledge.desc).map (fun d => d.parameters.length) = some 2 := by decide +kernel
theorem dV_X6_canRedeem : yX6_canRedeem.cls = RX6 ∧ yX6_canRedeem.cls ≠ "java/lang/invoke/MethodHandle" ∧ yX6_canRedeem.cls ≠ "java/lang/invoke/VarHandle" ∧ (parseMethodDescriptor yX6_canRedeem.desc).map (fun d => d.parameters.length) = some 2 := by decide +kernel
theorem dS_X6_canRedeem : yX6_canRedeem.cls ≠ "java/lang/invoke/MethodHandle" ∧ yX6_canRedeem.cls ≠ "java/lang/invoke/VarHandle" ∧ (parseMethodDescriptor yX6_canRedeem.desc).map (fun d => d.parameters.length) = some 2 := by decide +kernel
theorem dV_X6_coins : yX6_coins.cls = RX6 ∧ yX6_coins.cls ≠ "java/lang/invoke/MethodHandle" ∧ yX6_coins.cls ≠ "java/lang/invoke/VarHandle" ∧ (parseMethodDescriptor yX6_coins.desc).map (fun d => d.parameters.length) = some 2 := by decide +kernel
theorem dS_X6_coins : yX6_coins.cls ≠ "java/lang/invoke/MethodHandle" ∧ yX6_coins.cls ≠ "java/lang/invoke/VarHandle" ∧ (parseMethodDescriptor yX6_coins.desc).map (fun d => d.parameters.length) = some 2 := by decide +kernel
theorem dV_X6_day : yX6_day.cls = RX6 ∧ yX6_day.cls ≠ "java/lang/invoke/MethodHandle" ∧ yX6_day.cls ≠ "java/lang/invoke/VarHandle" ∧ (parseMethodDescriptor yX6_day.desc).map (fun d => d.parameters.length) = some 0 := by decide +kernel
theorem dS_X6_day : yX6_day.cls ≠ "java/lang/invoke/MethodHandle" ∧ yX6_day.cls ≠ "java/lang/invoke/VarHandle" ∧ (parseMethodDescriptor yX6_day.desc).map (fun d => d.parameters.length) = some 0 := by decide +kernel
theorem dV_X6_deed : yX6_deed.cls = RX6 ∧ yX6_deed.cls ≠ "java/lang/invoke/MethodHandle" ∧ yX6_deed.cls ≠ "java/lang/invoke/VarHandle" ∧ (parseMethodDescriptor yX6_deed.desc).map (fun d => d.parameters.length) = some 2 := by decide +kernel
theorem dS_X6_deed : yX6_deed.cls ≠ "java/lang/invoke/MethodHandle" ∧ yX6_deed.cls ≠ "java/lang/invoke/VarHandle" ∧ (parseMethodDescriptor yX6_deed.desc).map (fun d => d.parameters.length) = some 2 := by decide +kernel
theorem dV_X6_deedsOf : yX6_deedsOf.cls = RX6 ∧ yX6_deedsOf.cls ≠ "java/lang/invoke/MethodHandle" ∧ yX6_deedsOf.cls ≠ "java/lang/invoke/VarHandle" ∧ (parseMethodDescriptor yX6_deedsOf.desc).map (fun d => d.parameters.length) = some 1 := by decide +kernel
theorem dS_X6_deedsOf : yX6_deedsOf.cls ≠ "java/lang/invoke/MethodHandle" ∧ yX6_deedsOf.cls ≠ "java/lang/invoke/VarHandle" ∧ (parseMethodDescriptor yX6_deedsOf.desc).map (fun d => d.parameters.length) = some 1 := by decide +kernel
theorem dV_X6_deedsThat : yX6_deedsThat.cls = RX6 ∧ yX6_deedsThat.cls ≠ "java/lang/invoke/MethodHandle" ∧ yX6_deedsThat.cls ≠ "java/lang/invoke/VarHandle" ∧ (parseMethodDescriptor yX6_deedsThat.desc).map (fun d => d.parameters.length) = some 2 := by decide +kernel
theorem dS_X6_deedsThat : yX6_deedsThat.cls ≠ "java/lang/invoke/MethodHandle" ∧ yX6_deedsThat.cls ≠ "java/lang/invoke/VarHandle" ∧ (parseMethodDescriptor yX6_deedsThat.desc).map (fun d => d.parameters.length) = some 2 := by decide +kernel
theorem dV_X6_divisor : yX6_divisor.cls = RX6 ∧ yX6_divisor.cls ≠ "java/lang/invoke/MethodHandle" ∧ yX6_divisor.cls ≠ "java/lang/invoke/VarHandle" ∧ (parseMethodDescriptor yX6_divisor.desc).map (fun d => d.parameters.length) = some 2 := by decide +kernel
theorem dS_X6_divisor : yX6_divisor.cls ≠ "java/lang/invoke/MethodHandle" ∧ yX6_divisor.cls ≠ "java/lang/invoke/VarHandle" ∧ (parseMethodDescriptor yX6_divisor.desc).map (fun d => d.parameters.length) = some 2 := by decide +kernel
theorem dV_X6_does : yX6_does.cls = RX6 ∧ yX6_does.cls ≠ "java/lang/invoke/MethodHandle" ∧ yX6_does.cls ≠ "java/lang/invoke/VarHandle" ∧ (parseMethodDescriptor yX6_does.desc).map (fun d => d.parameters.length) = some 1 := by decide +kernel
theorem dS_X6_does : yX6_does.cls ≠ "java/lang/invoke/MethodHandle" ∧ yX6_does.cls ≠ "java/lang/invoke/VarHandle" ∧ (parseMethodDescriptor yX6_does.desc).map (fun d => d.parameters.length) = some 1 := by decide +kernel
theorem dV_X6_doesTo : yX6_doesTo.cls = RX6 ∧ yX6_doesTo.cls ≠ "java/lang/invoke/MethodHandle" ∧ yX6_doesTo.cls ≠ "java/lang/invoke/VarHandle" ∧ (parseMethodDescriptor yX6_doesTo.desc).map (fun d => d.parameters.length) = some 2 := by decide +kernel
theorem dS_X6_doesTo : yX6_doesTo.cls ≠ "java/lang/invoke/MethodHandle" ∧ yX6_doesTo.cls ≠ "java/lang/invoke/VarHandle" ∧ (parseMethodDescriptor yX6_doesTo.desc).map (fun d => d.parameters.length) = some 2 := by decide +kernel
theorem dV_X6_done : yX6_done.cls = RX6 ∧ yX6_done.cls ≠ "java/lang/invoke/MethodHandle" ∧ yX6_done.cls ≠ "java/lang/invoke/VarHandle" ∧ (parseMethodDescriptor yX6_done.desc).map (fun d => d.parameters.length) = some 1 := by decide +kernel
theorem dS_X6_done : yX6_done.cls ≠ "java/lang/invoke/MethodHandle" ∧ yX6_done.cls ≠ "java/lang/invoke/VarHandle" ∧ (parseMethodDescriptor yX6_done.desc).map (fun d => d.parameters.length) = some 1 := by decide +kernel
theorem dV_X6_doneBy : yX6_doneBy.cls = RX6 ∧ yX6_doneBy.cls ≠ "java/lang/invoke/MethodHandle" ∧ yX6_doneBy.cls ≠ "java/lang/invoke/VarHandle" ∧ (parseMethodDescriptor yX6_doneBy.desc).map (fun d => d.parameters.length) = some 2 := by decide +kernel
theorem dS_X6_doneBy : yX6_doneBy.cls ≠ "java/lang/invoke/MethodHandle" ∧ yX6_doneBy.cls ≠ "java/lang/invoke/VarHandle" ∧ (parseMethodDescriptor yX6_doneBy.desc).map (fun d => d.parameters.length) = some 2 := by decide +kernel
theorem dV_X6_due : yX6_due.cls = RX6 ∧ yX6_due.cls ≠ "java/lang/invoke/MethodHandle" ∧ yX6_due.cls ≠ "java/lang/invoke/VarHandle" ∧ (parseMethodDescriptor yX6_due.desc).map (fun d => d.parameters.length) = some 2 := by decide +kernel
theorem dS_X6_due : yX6_due.cls ≠ "java/lang/invoke/MethodHandle" ∧ yX6_due.cls ≠ "java/lang/invoke/VarHandle" ∧ (parseMethodDescriptor yX6_due.desc).map (fun d => d.parameters.length) = some 2 := by decide +kernel
theorem dV_X6_dueBy : yX6_dueBy.cls = RX6 ∧ yX6_dueBy.cls ≠ "java/lang/invoke/MethodHandle" ∧ yX6_dueBy.cls ≠ "java/lang/invoke/VarHandle" ∧ (parseMethodDescriptor yX6_dueBy.desc).map (fun d => d.parameters.length) = some 4 := by decide +kernel
theorem dS_X6_dueBy : yX6_dueBy.cls ≠ "java/lang/invoke/MethodHandle" ∧ yX6_dueBy.cls ≠ "java/lang/invoke/VarHandle" ∧ (parseMethodDescriptor yX6_dueBy.desc).map (fun d => d.parameters.length) = some 4 := by decide +kernel
theorem dV_X6_dueOf : yX6_dueOf.cls = RX6 ∧ yX6_dueOf.cls ≠ "java/lang/invoke/MethodHandle" ∧ yX6_dueOf.cls ≠ "java/lang/invoke/VarHandle" ∧ (parseMethodDescriptor yX6_dueOf.desc).map (fun d => d.parameters.length) = some 2 := by decide +kernel
theorem dS_X6_dueOf : yX6_dueOf.cls ≠ "java/lang/invoke/MethodHandle" ∧ yX6_dueOf.cls ≠ "java/lang/invoke/VarHandle" ∧ (parseMethodDescriptor yX6_dueOf.desc).map (fun d => d.parameters.length) = some 2 := by decide +kernel
theorem dV_X6_fault : yX6_fault.cls = RX6 ∧ yX6_fault.cls ≠ "java/lang/invoke/MethodHandle" ∧ yX6_fault.cls ≠ "java/lang/invoke/VarHandle" ∧ (parseMethodDescriptor yX6_fault.desc).map (fun d => d.parameters.length) = some 0 := by decide +kernel
theorem dS_X6_fault : yX6_fault.cls ≠ "java/lang/invoke/MethodHandle" ∧ yX6_fault.cls ≠ "java/lang/invoke/VarHandle" ∧ (parseMethodDescriptor yX6_fault.desc).map (fun d => d.parameters.length) = some 0 := by decide +kernel
theorem dV_X6_figure : yX6_figure.cls = RX6 ∧ yX6_figure.cls ≠ "java/lang/invoke/MethodHandle" ∧ yX6_figure.cls ≠ "java/lang/invoke/VarHandle" ∧ (parseMethodDescriptor yX6_figure.desc).map (fun d => d.parameters.length) = some 2 := by decide +kernel
theorem dS_X6_figure : yX6_figure.cls ≠ "java/lang/invoke/MethodHandle" ∧ yX6_figure.cls ≠ "java/lang/invoke/VarHandle" ∧ (parseMethodDescriptor yX6_figure.desc).map (fun d => d.parameters.length) = some 2 := by decide +kernel
theorem dV_X6_fraction : yX6_fraction.cls = RX6 ∧ yX6_fraction.cls ≠ "java/lang/invoke/MethodHandle" ∧ yX6_fraction.cls ≠ "java/lang/invoke/VarHandle" ∧ (parseMethodDescriptor yX6_fraction.desc).map (fun d => d.parameters.length) = some 3 := by decide +kernel
theorem dS_X6_fraction : yX6_fraction.cls ≠ "java/lang/invoke/MethodHandle" ∧ yX6_fraction.cls ≠ "java/lang/invoke/VarHandle" ∧ (parseMethodDescriptor yX6_fraction.desc).map (fun d => d.parameters.length) = some 3 := by decide +kernel
theorem dV_X6_give : yX6_give.cls = RX6 ∧ yX6_give.cls ≠ "java/lang/invoke/MethodHandle" ∧ yX6_give.cls ≠ "java/lang/invoke/VarHandle" ∧ (parseMethodDescriptor yX6_give.desc).map (fun d => d.parameters.length) = some 2 := by decide +kernel
theorem dS_X6_give : yX6_give.cls ≠ "java/lang/invoke/MethodHandle" ∧ yX6_give.cls ≠ "java/lang/invoke/VarHandle" ∧ (parseMethodDescriptor yX6_give.desc).map (fun d => d.parameters.length) = some 2 := by decide +kernel
theorem dV_X6_goBest : yX6_goBest.cls = RX6 ∧ yX6_goBest.cls ≠ "java/lang/invoke/MethodHandle" ∧ yX6_goBest.cls ≠ "java/lang/invoke/VarHandle" ∧ (parseMethodDescriptor yX6_goBest.desc).map (fun d => d.parameters.length) = some 1 := by decide +kernel
theorem dS_X6_goBest : yX6_goBest.cls ≠ "java/lang/invoke/MethodHandle" ∧ yX6_goBest.cls ≠ "java/lang/invoke/VarHandle" ∧ (parseMethodDescriptor yX6_goBest.desc).map (fun d => d.parameters.length) = some 1 := by decide +kernel
theorem dV_X6_goDay : yX6_goDay.cls = RX6 ∧ yX6_goDay.cls ≠ "java/lang/invoke/MethodHandle" ∧ yX6_goDay.cls ≠ "java/lang/invoke/VarHandle" ∧ (parseMethodDescriptor yX6_goDay.desc).map (fun d => d.parameters.length) = some 1 := by decide +kernel
theorem dS_X6_goDay : yX6_goDay.cls ≠ "java/lang/invoke/MethodHandle" ∧ yX6_goDay.cls ≠ "java/lang/invoke/VarHandle" ∧ (parseMethodDescriptor yX6_goDay.desc).map (fun d => d.parameters.length) = some 1 := by decide +kernel
theorem dV_X6_goDays : yX6_goDays.cls = RX6 ∧ yX6_goDays.cls ≠ "java/lang/invoke/MethodHandle" ∧ yX6_goDays.cls ≠ "java/lang/invoke/VarHandle" ∧ (parseMethodDescriptor yX6_goDays.desc).map (fun d => d.parameters.length) = some 1 := by decide +kernel
theorem dS_X6_goDays : yX6_goDays.cls ≠ "java/lang/invoke/MethodHandle" ∧ yX6_goDays.cls ≠ "java/lang/invoke/VarHandle" ∧ (parseMethodDescriptor yX6_goDays.desc).map (fun d => d.parameters.length) = some 1 := by decide +kernel
theorem dV_X6_goPledge : yX6_goPledge.cls = RX6 ∧ yX6_goPledge.cls ≠ "java/lang/invoke/MethodHandle" ∧ yX6_goPledge.cls ≠ "java/lang/invoke/VarHandle" ∧ (parseMethodDescriptor yX6_goPledge.desc).map (fun d => d.parameters.length) = some 2 := by decide +kernel
theorem dS_X6_goPledge : yX6_goPledge.cls ≠ "java/lang/invoke/MethodHandle" ∧ yX6_goPledge.cls ≠ "java/lang/invoke/VarHandle" ∧ (parseMethodDescriptor yX6_goPledge.desc).map (fun d => d.parameters.length) = some 2 := by decide +kernel
theorem dV_X6_goRedeem : yX6_goRedeem.cls = RX6 ∧ yX6_goRedeem.cls ≠ "java/lang/invoke/MethodHandle" ∧ yX6_goRedeem.cls ≠ "java/lang/invoke/VarHandle" ∧ (parseMethodDescriptor yX6_goRedeem.desc).map (fun d => d.parameters.length) = some 2 := by decide +kernel
theorem dS_X6_goRedeem : yX6_goRedeem.cls ≠ "java/lang/invoke/MethodHandle" ∧ yX6_goRedeem.cls ≠ "java/lang/invoke/VarHandle" ∧ (parseMethodDescriptor yX6_goRedeem.desc).map (fun d => d.parameters.length) = some 2 := by decide +kernel
theorem dV_X6_has : yX6_has.cls = RX6 ∧ yX6_has.cls ≠ "java/lang/invoke/MethodHandle" ∧ yX6_has.cls ≠ "java/lang/invoke/VarHandle" ∧ (parseMethodDescriptor yX6_has.desc).map (fun d => d.parameters.length) = some 2 := by decide +kernel
theorem dS_X6_has : yX6_has.cls ≠ "java/lang/invoke/MethodHandle" ∧ yX6_has.cls ≠ "java/lang/invoke/VarHandle" ∧ (parseMethodDescriptor yX6_has.desc).map (fun d => d.parameters.length) = some 2 := by decide +kernel
theorem dV_X6_in : yX6_in.cls = RX6 ∧ yX6_in.cls ≠ "java/lang/invoke/MethodHandle" ∧ yX6_in.cls ≠ "java/lang/invoke/VarHandle" ∧ (parseMethodDescriptor yX6_in.desc).map (fun d => d.parameters.length) = some 3 := by decide +kernel
theorem dS_X6_in : yX6_in.cls ≠ "java/lang/invoke/MethodHandle" ∧ yX6_in.cls ≠ "java/lang/invoke/VarHandle" ∧ (parseMethodDescriptor yX6_in.desc).map (fun d => d.parameters.length) = some 3 := by decide +kernel
theorem dV_X6_init : yX6_init.cls = RX6 ∧ yX6_init.cls ≠ "java/lang/invoke/MethodHandle" ∧ yX6_init.cls ≠ "java/lang/invoke/VarHandle" ∧ (parseMethodDescriptor yX6_init.desc).map (fun d => d.parameters.length) = some 0 := by decide +kernel
theorem dS_X6_init : yX6_init.cls ≠ "java/lang/invoke/MethodHandle" ∧ yX6_init.cls ≠ "java/lang/invoke/VarHandle" ∧ (parseMethodDescriptor yX6_init.desc).map (fun d => d.parameters.length) = some 0 := by decide +kernel
theorem dV_X6_judge : yX6_judge.cls = RX6 ∧ yX6_judge.cls ≠ "java/lang/invoke/MethodHandle" ∧ yX6_judge.cls ≠ "java/lang/invoke/VarHandle" ∧ (parseMethodDescriptor yX6_judge.desc).map (fun d => d.parameters.length) = some 2 := by decide +kernel
theorem dS_X6_judge : yX6_judge.cls ≠ "java/lang/invoke/MethodHandle" ∧ yX6_judge.cls ≠ "java/lang/invoke/VarHandle" ∧ (parseMethodDescriptor yX6_judge.desc).map (fun d => d.parameters.length) = some 2 := by decide +kernel
theorem dV_X6_keep : yX6_keep.cls = RX6 ∧ yX6_keep.cls ≠ "java/lang/invoke/MethodHandle" ∧ yX6_keep.cls ≠ "java/lang/invoke/VarHandle" ∧ (parseMethodDescriptor yX6_keep.desc).map (fun d => d.parameters.length) = some 1 := by decide +kernel
theorem dS_X6_keep : yX6_keep.cls ≠ "java/lang/invoke/MethodHandle" ∧ yX6_keep.cls ≠ "java/lang/invoke/VarHandle" ∧ (parseMethodDescriptor yX6_keep.desc).map (fun d => d.parameters.length) = some 1 := by decide +kernel
theorem dV_X6_longPower : yX6_longPower.cls = RX6 ∧ yX6_longPower.cls ≠ "java/lang/invoke/MethodHandle" ∧ yX6_longPower.cls ≠ "java/lang/invoke/VarHandle" ∧ (parseMethodDescriptor yX6_longPower.desc).map (fun d => d.parameters.length) = some 2 := by decide +kernel
theorem dS_X6_longPower : yX6_longPower.cls ≠ "java/lang/invoke/MethodHandle" ∧ yX6_longPower.cls ≠ "java/lang/invoke/VarHandle" ∧ (parseMethodDescriptor yX6_longPower.desc).map (fun d => d.parameters.length) = some 2 := by decide +kernel
theorem dV_X6_many : yX6_many.cls = RX6 ∧ yX6_many.cls ≠ "java/lang/invoke/MethodHandle" ∧ yX6_many.cls ≠ "java/lang/invoke/VarHandle" ∧ (parseMethodDescriptor yX6_many.desc).map (fun d => d.parameters.length) = some 1 := by decide +kernel
theorem dS_X6_many : yX6_many.cls ≠ "java/lang/invoke/MethodHandle" ∧ yX6_many.cls ≠ "java/lang/invoke/VarHandle" ∧ (parseMethodDescriptor yX6_many.desc).map (fun d => d.parameters.length) = some 1 := by decide +kernel
theorem dV_X6_noDeed : yX6_noDeed.cls = RX6 ∧ yX6_noDeed.cls ≠ "java/lang/invoke/MethodHandle" ∧ yX6_noDeed.cls ≠ "java/lang/invoke/VarHandle" ∧ (parseMethodDescriptor yX6_noDeed.desc).map (fun d => d.parameters.length) = some 1 := by decide +kernel
theorem dS_X6_noDeed : yX6_noDeed.cls ≠ "java/lang/invoke/MethodHandle" ∧ yX6_noDeed.cls ≠ "java/lang/invoke/VarHandle" ∧ (parseMethodDescriptor yX6_noDeed.desc).map (fun d => d.parameters.length) = some 1 := by decide +kernel
theorem dV_X6_noPerson : yX6_noPerson.cls = RX6 ∧ yX6_noPerson.cls ≠ "java/lang/invoke/MethodHandle" ∧ yX6_noPerson.cls ≠ "java/lang/invoke/VarHandle" ∧ (parseMethodDescriptor yX6_noPerson.desc).map (fun d => d.parameters.length) = some 1 := by decide +kernel
theorem dS_X6_noPerson : yX6_noPerson.cls ≠ "java/lang/invoke/MethodHandle" ∧ yX6_noPerson.cls ≠ "java/lang/invoke/VarHandle" ∧ (parseMethodDescriptor yX6_noPerson.desc).map (fun d => d.parameters.length) = some 1 := by decide +kernel
theorem dV_X6_noQuality : yX6_noQuality.cls = RX6 ∧ yX6_noQuality.cls ≠ "java/lang/invoke/MethodHandle" ∧ yX6_noQuality.cls ≠ "java/lang/invoke/VarHandle" ∧ (parseMethodDescriptor yX6_noQuality.desc).map (fun d => d.parameters.length) = some 1 := by decide +kernel
theorem dS_X6_noQuality : yX6_noQuality.cls ≠ "java/lang/invoke/MethodHandle" ∧ yX6_noQuality.cls ≠ "java/lang/invoke/VarHandle" ∧ (parseMethodDescriptor yX6_noQuality.desc).map (fun d => d.parameters.length) = some 1 := by decide +kernel
theorem dV_X6_note : yX6_note.cls = RX6 ∧ yX6_note.cls ≠ "java/lang/invoke/MethodHandle" ∧ yX6_note.cls ≠ "java/lang/invoke/VarHandle" ∧ (parseMethodDescriptor yX6_note.desc).map (fun d => d.parameters.length) = some 0 := by decide +kernel
theorem dS_X6_note : yX6_note.cls ≠ "java/lang/invoke/MethodHandle" ∧ yX6_note.cls ≠ "java/lang/invoke/VarHandle" ∧ (parseMethodDescriptor yX6_note.desc).map (fun d => d.parameters.length) = some 0 := by decide +kernel
theorem dV_X6_ownOf : yX6_ownOf.cls = RX6 ∧ yX6_ownOf.cls ≠ "java/lang/invoke/MethodHandle" ∧ yX6_ownOf.cls ≠ "java/lang/invoke/VarHandle" ∧ (parseMethodDescriptor yX6_ownOf.desc).map (fun d => d.parameters.length) = some 1 := by decide +kernel
theorem dS_X6_ownOf : yX6_ownOf.cls ≠ "java/lang/invoke/MethodHandle" ∧ yX6_ownOf.cls ≠ "java/lang/invoke/VarHandle" ∧ (parseMethodDescriptor yX6_ownOf.desc).map (fun d => d.parameters.length) = some 1 := by decide +kernel
theorem dV_X6_person : yX6_person.cls = RX6 ∧ yX6_person.cls ≠ "java/lang/invoke/MethodHandle" ∧ yX6_person.cls ≠ "java/lang/invoke/VarHandle" ∧ (parseMethodDescriptor yX6_person.desc).map (fun d => d.parameters.length) = some 2 := by decide +kernel
theorem dS_X6_person : yX6_person.cls ≠ "java/lang/invoke/MethodHandle" ∧ yX6_person.cls ≠ "java/lang/invoke/VarHandle" ∧ (parseMethodDescriptor yX6_person.desc).map (fun d => d.parameters.length) = some 2 := by decide +kernel
theorem dV_X6_pledge : yX6_pledge.cls = RX6 ∧ yX6_pledge.cls ≠ "java/lang/invoke/MethodHandle" ∧ yX6_pledge.cls ≠ "java/lang/invoke/VarHandle" ∧ (parseMethodDescriptor yX6_pledge.desc).map (fun d => d.parameters.length) = some 1 := by decide +kernel
theorem dS_X6_pledge : yX6_pledge.cls ≠ "java/lang/invoke/MethodHandle" ∧ yX6_pledge.cls ≠ "java/lang/invoke/VarHandle" ∧ (parseMethodDescriptor yX6_pledge.desc).map (fun d => d.parameters.length) = some 1 := by decide +kernel
theorem dV_X6_power : yX6_power.cls = RX6 ∧ yX6_power.cls ≠ "java/lang/invoke/MethodHandle" ∧ yX6_power.cls ≠ "java/lang/invoke/VarHandle" ∧ (parseMethodDescriptor yX6_power.desc).map (fun d => d.parameters.length) = some 2 := by decide +kernel
theorem dS_X6_power : yX6_power.cls ≠ "java/lang/invoke/MethodHandle" ∧ yX6_power.cls ≠ "java/lang/invoke/VarHandle" ∧ (parseMethodDescriptor yX6_power.desc).map (fun d => d.parameters.length) = some 2 := by decide +kernel
theorem dV_X6_quality : yX6_quality.cls = RX6 ∧ yX6_quality.cls ≠ "java/lang/invoke/MethodHandle" ∧ yX6_quality.cls ≠ "java/lang/invoke/VarHandle" ∧ (parseMethodDescriptor yX6_quality.desc).map (fun d => d.parameters.length) = some 2 := by decide +kernel
theorem dS_X6_quality : yX6_quality.cls ≠ "java/lang/invoke/MethodHandle" ∧ yX6_quality.cls ≠ "java/lang/invoke/VarHandle" ∧ (parseMethodDescriptor yX6_quality.desc).map (fun d => d.parameters.length) = some 2 := by decide +kernel
theorem dV_X6_raise : yX6_raise.cls = RX6 ∧ yX6_raise.cls ≠ "java/lang/invoke/MethodHandle" ∧ yX6_raise.cls ≠ "java/lang/invoke/VarHandle" ∧ (parseMethodDescriptor yX6_raise.desc).map (fun d => d.parameters.length) = some 3 := by decide +kernel
theorem dS_X6_raise : yX6_raise.cls ≠ "java/lang/invoke/MethodHandle" ∧ yX6_raise.cls ≠ "java/lang/invoke/VarHandle" ∧ (parseMethodDescriptor yX6_raise.desc).map (fun d => d.parameters.length) = some 3 := by decide +kernel
theorem dV_X6_readOneDeed : yX6_readOneDeed.cls = RX6 ∧ yX6_readOneDeed.cls ≠ "java/lang/invoke/MethodHandle" ∧ yX6_readOneDeed.cls ≠ "java/lang/invoke/VarHandle" ∧ (parseMethodDescriptor yX6_readOneDeed.desc).map (fun d => d.parameters.length) = some 0 := by decide +kernel
theorem dS_X6_readOneDeed : yX6_readOneDeed.cls ≠ "java/lang/invoke/MethodHandle" ∧ yX6_readOneDeed.cls ≠ "java/lang/invoke/VarHandle" ∧ (parseMethodDescriptor yX6_readOneDeed.desc).map (fun d => d.parameters.length) = some 0 := by decide +kernel
theorem dV_X6_readOnePerson : yX6_readOnePerson.cls = RX6 ∧ yX6_readOnePerson.cls ≠ "java/lang/invoke/MethodHandle" ∧ yX6_readOnePerson.cls ≠ "java/lang/invoke/VarHandle" ∧ (parseMethodDescriptor yX6_readOnePerson.desc).map (fun d => d.parameters.length) = some 0 := by decide +kernel
theorem dS_X6_readOnePerson : yX6_readOnePerson.cls ≠ "java/lang/invoke/MethodHandle" ∧ yX6_readOnePerson.cls ≠ "java/lang/invoke/VarHandle" ∧ (parseMethodDescriptor yX6_readOnePerson.desc).map (fun d => d.parameters.length) = some 0 := by decide +kernel
theorem dV_X6_readOneQuality : yX6_readOneQuality.cls = RX6 ∧ yX6_readOneQuality.cls ≠ "java/lang/invoke/MethodHandle" ∧ yX6_readOneQuality.cls ≠ "java/lang/invoke/VarHandle" ∧ (parseMethodDescriptor yX6_readOneQuality.desc).map (fun d => d.parameters.length) = some 0 := by decide +kernel
theorem dS_X6_readOneQuality : yX6_readOneQuality.cls ≠ "java/lang/invoke/MethodHandle" ∧ yX6_readOneQuality.cls ≠ "java/lang/invoke/VarHandle" ∧ (parseMethodDescriptor yX6_readOneQuality.desc).map (fun d => d.parameters.length) = some 0 := by decide +kernel
theorem dV_X6_readShop : yX6_readShop.cls = RX6 ∧ yX6_readShop.cls ≠ "java/lang/invoke/MethodHandle" ∧ yX6_readShop.cls ≠ "java/lang/invoke/VarHandle" ∧ (parseMethodDescriptor yX6_readShop.desc).map (fun d => d.parameters.length) = some 0 := by decide +kernel
theorem dS_X6_readShop : yX6_readShop.cls ≠ "java/lang/invoke/MethodHandle" ∧ yX6_readShop.cls ≠ "java/lang/invoke/VarHandle" ∧ (parseMethodDescriptor yX6_readShop.desc).map (fun d => d.parameters.length) = some 0 := by decide +kernel
theorem dV_X6_readThing : yX6_readThing.cls = RX6 ∧ yX6_readThing.cls ≠ "java/lang/invoke/MethodHandle" ∧ yX6_readThing.cls ≠ "java/lang/invoke/VarHandle" ∧ (parseMethodDescriptor yX6_readThing.desc).map (fun d => d.parameters.length) = some 0 := by decide +kernel
theorem dS_X6_readThing : yX6_readThing.cls ≠ "java/lang/invoke/MethodHandle" ∧ yX6_readThing.cls ≠ "java/lang/invoke/VarHandle" ∧ (parseMethodDescriptor yX6_readThing.desc).map (fun d => d.parameters.length) = some 0 := by decide +kernel
theorem dV_X6_redeem : yX6_redeem.cls = RX6 ∧ yX6_redeem.cls ≠ "java/lang/invoke/MethodHandle" ∧ yX6_redeem.cls ≠ "java/lang/invoke/VarHandle" ∧ (parseMethodDescriptor yX6_redeem.desc).map (fun d => d.parameters.length) = some 1 := by decide +kernel
theorem dS_X6_redeem : yX6_redeem.cls ≠ "java/lang/invoke/MethodHandle" ∧ yX6_redeem.cls ≠ "java/lang/invoke/VarHandle" ∧ (parseMethodDescriptor yX6_redeem.desc).map (fun d => d.parameters.length) = some 1 := by decide +kernel
theorem dV_X6_rests : yX6_rests.cls = RX6 ∧ yX6_rests.cls ≠ "java/lang/invoke/MethodHandle" ∧ yX6_rests.cls ≠ "java/lang/invoke/VarHandle" ∧ (parseMethodDescriptor yX6_rests.desc).map (fun d => d.parameters.length) = some 3 := by decide +kernel
theorem dS_X6_rests : yX6_rests.cls ≠ "java/lang/invoke/MethodHandle" ∧ yX6_rests.cls ≠ "java/lang/invoke/VarHandle" ∧ (parseMethodDescriptor yX6_rests.desc).map (fun d => d.parameters.length) = some 3 := by decide +kernel
theorem dV_X6_sales : yX6_sales.cls = RX6 ∧ yX6_sales.cls ≠ "java/lang/invoke/MethodHandle" ∧ yX6_sales.cls ≠ "java/lang/invoke/VarHandle" ∧ (parseMethodDescriptor yX6_sales.desc).map (fun d => d.parameters.length) = some 3 := by decide +kernel
theorem dS_X6_sales : yX6_sales.cls ≠ "java/lang/invoke/MethodHandle" ∧ yX6_sales.cls ≠ "java/lang/invoke/VarHandle" ∧ (parseMethodDescriptor yX6_sales.desc).map (fun d => d.parameters.length) = some 3 := by decide +kernel
theorem dV_X6_seed : yX6_seed.cls = RX6 ∧ yX6_seed.cls ≠ "java/lang/invoke/MethodHandle" ∧ yX6_seed.cls ≠ "java/lang/invoke/VarHandle" ∧ (parseMethodDescriptor yX6_seed.desc).map (fun d => d.parameters.length) = some 1 := by decide +kernel
theorem dS_X6_seed : yX6_seed.cls ≠ "java/lang/invoke/MethodHandle" ∧ yX6_seed.cls ≠ "java/lang/invoke/VarHandle" ∧ (parseMethodDescriptor yX6_seed.desc).map (fun d => d.parameters.length) = some 1 := by decide +kernel
theorem dV_X6_share : yX6_share.cls = RX6 ∧ yX6_share.cls ≠ "java/lang/invoke/MethodHandle" ∧ yX6_share.cls ≠ "java/lang/invoke/VarHandle" ∧ (parseMethodDescriptor yX6_share.desc).map (fun d => d.parameters.length) = some 2 := by decide +kernel
theorem dS_X6_share : yX6_share.cls ≠ "java/lang/invoke/MethodHandle" ∧ yX6_share.cls ≠ "java/lang/invoke/VarHandle" ∧ (parseMethodDescriptor yX6_share.desc).map (fun d => d.parameters.length) = some 2 := by decide +kernel
theorem dV_X6_shop : yX6_shop.cls = RX6 ∧ yX6_shop.cls ≠ "java/lang/invoke/MethodHandle" ∧ yX6_shop.cls ≠ "java/lang/invoke/VarHandle" ∧ (parseMethodDescriptor yX6_shop.desc).map (fun d => d.parameters.length) = some 0 := by decide +kernel
theorem dS_X6_shop : yX6_shop.cls ≠ "java/lang/invoke/MethodHandle" ∧ yX6_shop.cls ≠ "java/lang/invoke/VarHandle" ∧ (parseMethodDescriptor yX6_shop.desc).map (fun d => d.parameters.length) = some 0 := by decide +kernel
theorem dV_X6_thatAre : yX6_thatAre.cls = RX6 ∧ yX6_thatAre.cls ≠ "java/lang/invoke/MethodHandle" ∧ yX6_thatAre.cls ≠ "java/lang/invoke/VarHandle" ∧ (parseMethodDescriptor yX6_thatAre.desc).map (fun d => d.parameters.length) = some 2 := by decide +kernel
theorem dS_X6_thatAre : yX6_thatAre.cls ≠ "java/lang/invoke/MethodHandle" ∧ yX6_thatAre.cls ≠ "java/lang/invoke/VarHandle" ∧ (parseMethodDescriptor yX6_thatAre.desc).map (fun d => d.parameters.length) = some 2 := by decide +kernel
theorem dV_X6_tickets : yX6_tickets.cls = RX6 ∧ yX6_tickets.cls ≠ "java/lang/invoke/MethodHandle" ∧ yX6_tickets.cls ≠ "java/lang/invoke/VarHandle" ∧ (parseMethodDescriptor yX6_tickets.desc).map (fun d => d.parameters.length) = some 1 := by decide +kernel
theorem dS_X6_tickets : yX6_tickets.cls ≠ "java/lang/invoke/MethodHandle" ∧ yX6_tickets.cls ≠ "java/lang/invoke/VarHandle" ∧ (parseMethodDescriptor yX6_tickets.desc).map (fun d => d.parameters.length) = some 1 := by decide +kernel
theorem dV_X6_unask : yX6_unask.cls = RX6 ∧ yX6_unask.cls ≠ "java/lang/invoke/MethodHandle" ∧ yX6_unask.cls ≠ "java/lang/invoke/VarHandle" ∧ (parseMethodDescriptor yX6_unask.desc).map (fun d => d.parameters.length) = some 0 := by decide +kernel
theorem dS_X6_unask : yX6_unask.cls ≠ "java/lang/invoke/MethodHandle" ∧ yX6_unask.cls ≠ "java/lang/invoke/VarHandle" ∧ (parseMethodDescriptor yX6_unask.desc).map (fun d => d.parameters.length) = some 0 := by decide +kernel
theorem dV_X6_undo : yX6_undo.cls = RX6 ∧ yX6_undo.cls ≠ "java/lang/invoke/MethodHandle" ∧ yX6_undo.cls ≠ "java/lang/invoke/VarHandle" ∧ (parseMethodDescriptor yX6_undo.desc).map (fun d => d.parameters.length) = some 0 := by decide +kernel
theorem dS_X6_undo : yX6_undo.cls ≠ "java/lang/invoke/MethodHandle" ∧ yX6_undo.cls ≠ "java/lang/invoke/VarHandle" ∧ (parseMethodDescriptor yX6_undo.desc).map (fun d => d.parameters.length) = some 0 := by decide +kernel
theorem dV_X6_ways : yX6_ways.cls = RX6 ∧ yX6_ways.cls ≠ "java/lang/invoke/MethodHandle" ∧ yX6_ways.cls ≠ "java/lang/invoke/VarHandle" ∧ (parseMethodDescriptor yX6_ways.desc).map (fun d => d.parameters.length) = some 1 := by decide +kernel
theorem dS_X6_ways : yX6_ways.cls ≠ "java/lang/invoke/MethodHandle" ∧ yX6_ways.cls ≠ "java/lang/invoke/VarHandle" ∧ (parseMethodDescriptor yX6_ways.desc).map (fun d => d.parameters.length) = some 1 := by decide +kernel
theorem dV_X6_wipe : yX6_wipe.cls = RX6 ∧ yX6_wipe.cls ≠ "java/lang/invoke/MethodHandle" ∧ yX6_wipe.cls ≠ "java/lang/invoke/VarHandle" ∧ (parseMethodDescriptor yX6_wipe.desc).map (fun d => d.parameters.length) = some 0 := by decide +kernel
theorem dS_X6_wipe : yX6_wipe.cls ≠ "java/lang/invoke/MethodHandle" ∧ yX6_wipe.cls ≠ "java/lang/invoke/VarHandle" ∧ (parseMethodDescriptor yX6_wipe.desc).map (fun d => d.parameters.length) = some 0 := by decide +kernel
theorem dV_X6_worthOf : yX6_worthOf.cls = RX6 ∧ yX6_worthOf.cls ≠ "java/lang/invoke/MethodHandle" ∧ yX6_worthOf.cls ≠ "java/lang/invoke/VarHandle" ∧ (parseMethodDescriptor yX6_worthOf.desc).map (fun d => d.parameters.length) = some 1 := by decide +kernel
theorem dS_X6_worthOf : yX6_worthOf.cls ≠ "java/lang/invoke/MethodHandle" ∧ yX6_worthOf.cls ≠ "java/lang/invoke/VarHandle" ∧ (parseMethodDescriptor yX6_worthOf.desc).map (fun d => d.parameters.length) = some 1 := by decide +kernel
theorem dV_X6_write : yX6_write.cls = RX6 ∧ yX6_write.cls ≠ "java/lang/invoke/MethodHandle" ∧ yX6_write.cls ≠ "java/lang/invoke/VarHandle" ∧ (parseMethodDescriptor yX6_write.desc).map (fun d => d.parameters.length) = some 1 := by decide +kernel
theorem dS_X6_write : yX6_write.cls ≠ "java/lang/invoke/MethodHandle" ∧ yX6_write.cls ≠ "java/lang/invoke/VarHandle" ∧ (parseMethodDescriptor yX6_write.desc).map (fun d => d.parameters.length) = some 1 := by decide +kernel
theorem dV_X6_years : yX6_years.cls = RX6 ∧ yX6_years.cls ≠ "java/lang/invoke/MethodHandle" ∧ yX6_years.cls ≠ "java/lang/invoke/VarHandle" ∧ (parseMethodDescriptor yX6_years.desc).map (fun d => d.parameters.length) = some 1 := by decide +kernel
theorem dS_X6_years : yX6_years.cls ≠ "java/lang/invoke/MethodHandle" ∧ yX6_years.cls ≠ "java/lang/invoke/VarHandle" ∧ (parseMethodDescriptor yX6_years.desc).map (fun d => d.parameters.length) = some 1 := by decide +kernel
theorem nw_0 : ∀ j, j < 3 → defaultValue (tyX0 j) = vp_V [.null, .int (nI 0), .int (nI 0)] j := fun j hj => by rcases (show j = 0 ∨ j = 1 ∨ j = 2 by omega) with rfl | rfl | rfl <;> rfl
theorem nw_1 : ∀ j, j < 3 → defaultValue (tyX1 j) = vp_V [.null, .null, .int (nI 0)] j := fun j hj => by rcases (show j = 0 ∨ j = 1 ∨ j = 2 by omega) with rfl | rfl | rfl <;> rfl
theorem nw_2 : ∀ j, j < 11 → defaultValue (tyX2 j) = vp_V [.null, .null, .null, .null, .null, .null, .null, .int (nI 0), .int (nI 0), .int (nI 0), .int (nI 0)] j := fun j hj => by rcases (show j = 0 ∨ j = 1 ∨ j = 2 ∨ j = 3 ∨ j = 4 ∨ j = 5 ∨ j = 6 ∨ j = 7 ∨ j = 8 ∨ j = 9 ∨ j = 10 by omega) with rfl | rfl | rfl | rfl | rfl | rfl | rfl | rfl | rfl | rfl | rfl <;> rfl
theorem nw_3 : ∀ j, j < 2 → defaultValue (tyX3 j) = vp_V [.null, .null] j := fun j hj => by rcases (show j = 0 ∨ j = 1 by omega) with rfl | rfl <;> rfl
theorem nw_4 : ∀ j, j < 3 → defaultValue (tyX4 j) = vp_V [.null, .int (nI 0), .int (nI 0)] j := fun j hj => by rcases (show j = 0 ∨ j = 1 ∨ j = 2 by omega) with rfl | rfl | rfl <;> rfl
theorem nw_5 : ∀ j, j < 10 → defaultValue (tyX5 j) = vp_V [.null, .null, .null, .null, .null, .null, .null, .null, .int (nI 0), .long 0] j := fun j hj => by rcases (show j = 0 ∨ j = 1 ∨ j = 2 ∨ j = 3 ∨ j = 4 ∨ j = 5 ∨ j = 6 ∨ j = 7 ∨ j = 8 ∨ j = 9 by omega) with rfl | rfl | rfl | rfl | rfl | rfl | rfl | rfl | rfl | rfl <;> rfl
theorem nw_6 : ∀ j, j < 38 → defaultValue (tyX6 j) = vp_V [.int (nI 0), .null, .int (nI 0), .int (nI 0), .int (nI 0), .int (nI 0), .null, .null, .null, .int (nI 0), .null, .null, .null, .int (nI 0), .int (nI 0), .null, .int (nI 0), .null, .int (nI 0), .null, .null, .null, .null, .int (nI 0), .null, .null, .int (nI 0), .null, .null, .long 0, .int (nI 0), .int (nI 0), .int (nI 0), .int (nI 0), .int (nI 0), .int (nI 0), .null, .null] j := fun j hj => by rcases (show j = 0 ∨ j = 1 ∨ j = 2 ∨ j = 3 ∨ j = 4 ∨ j = 5 ∨ j = 6 ∨ j = 7 ∨ j = 8 ∨ j = 9 ∨ j = 10 ∨ j = 11 ∨ j = 12 ∨ j = 13 ∨ j = 14 ∨ j = 15 ∨ j = 16 ∨ j = 17 ∨ j = 18 ∨ j = 19 ∨ j = 20 ∨ j = 21 ∨ j = 22 ∨ j = 23 ∨ j = 24 ∨ j = 25 ∨ j = 26 ∨ j = 27 ∨ j = 28 ∨ j = 29 ∨ j = 30 ∨ j = 31 ∨ j = 32 ∨ j = 33 ∨ j = 34 ∨ j = 35 ∨ j = 36 ∨ j = 37 by omega) with rfl | rfl | rfl | rfl | rfl | rfl | rfl | rfl | rfl | rfl | rfl | rfl | rfl | rfl | rfl | rfl | rfl | rfl | rfl | rfl | rfl | rfl | rfl | rfl | rfl | rfl | rfl | rfl | rfl | rfl | rfl | rfl | rfl | rfl | rfl | rfl | rfl | rfl <;> rfl
end
section
theorem dX2_hasPerson_0 : decode cX2_hasPerson 0 = .ok (.iload_n 1, 1) := by decide +kernel
theorem dX2_hasPerson_1 : decode cX2_hasPerson 1 = .ok (.ifCond .lt 15, 3) := by decide +kernel
theorem dX2_hasPerson_4 : decode cX2_hasPerson 4 = .ok (.iload_n 1, 1) := by decide +kernel
theorem dX2_hasPerson_5 : decode cX2_hasPerson 5 = .ok (.aload_n 0, 1) := by decide +kernel
theorem dX2_hasPerson_6 : decode cX2_hasPerson 6 = .ok (.getfield 37, 3) := by decide +kernel
theorem dX2_hasPerson_9 : decode cX2_hasPerson 9 = .ok (.if_icmp .ge 7, 3) := by decide +kernel
theorem dX2_hasPerson_12 : decode cX2_hasPerson 12 = .ok (.iconst 1, 1) := by decide +kernel
theorem dX2_hasPerson_13 : decode cX2_hasPerson 13 = .ok (.goto 4, 3) := by decide +kernel
theorem dX2_hasPerson_16 : decode cX2_hasPerson 16 = .ok (.iconst 0, 1) := by decide +kernel
theorem dX2_hasPerson_17 : decode cX2_hasPerson 17 = .ok (.ireturn, 1) := by decide +kernel
theorem dX2_hasQuality_0 : decode cX2_hasQuality 0 = .ok (.iload_n 1, 1) := by decide +kernel
theorem dX2_hasQuality_1 : decode cX2_hasQuality 1 = .ok (.ifCond .lt 15, 3) := by decide +kernel
theorem dX2_hasQuality_4 : decode cX2_hasQuality 4 = .ok (.iload_n 1, 1) := by decide +kernel
theorem dX2_hasQuality_5 : decode cX2_hasQuality 5 = .ok (.aload_n 0, 1) := by decide +kernel
theorem dX2_hasQuality_6 : decode cX2_hasQuality 6 = .ok (.getfield 40, 3) := by decide +kernel
theorem dX2_hasQuality_9 : decode cX2_hasQuality 9 = .ok (.if_icmp .ge 7, 3) := by decide +kernel
theorem dX2_hasQuality_12 : decode cX2_hasQuality 12 = .ok (.iconst 1, 1) := by decide +kernel
theorem dX2_hasQuality_13 : decode cX2_hasQuality 13 = .ok (.goto 4, 3) := by decide +kernel
theorem dX2_hasQuality_16 : decode cX2_hasQuality 16 = .ok (.iconst 0, 1) := by decide +kernel
theorem dX2_hasQuality_17 : decode cX2_hasQuality 17 = .ok (.ireturn, 1) := by decide +kernel
theorem dX2_hasDeed_0 : decode cX2_hasDeed 0 = .ok (.iload_n 1, 1) := by decide +kernel
theorem dX2_hasDeed_1 : decode cX2_hasDeed 1 = .ok (.ifCond .lt 15, 3) := by decide +kernel
theorem dX2_hasDeed_4 : decode cX2_hasDeed 4 = .ok (.iload_n 1, 1) := by decide +kernel
theorem dX2_hasDeed_5 : decode cX2_hasDeed 5 = .ok (.aload_n 0, 1) := by decide +kernel
theorem dX2_hasDeed_6 : decode cX2_hasDeed 6 = .ok (.getfield 43, 3) := by decide +kernel
theorem dX2_hasDeed_9 : decode cX2_hasDeed 9 = .ok (.if_icmp .ge 7, 3) := by decide +kernel
theorem dX2_hasDeed_12 : decode cX2_hasDeed 12 = .ok (.iconst 1, 1) := by decide +kernel
theorem dX2_hasDeed_13 : decode cX2_hasDeed 13 = .ok (.goto 4, 3) := by decide +kernel
theorem dX2_hasDeed_16 : decode cX2_hasDeed 16 = .ok (.iconst 0, 1) := by decide +kernel
theorem dX2_hasDeed_17 : decode cX2_hasDeed 17 = .ok (.ireturn, 1) := by decide +kernel
theorem dX2_firstPurseOf_0 : decode cX2_firstPurseOf 0 = .ok (.aload_n 0, 1) := by decide +kernel
theorem dX2_firstPurseOf_1 : decode cX2_firstPurseOf 1 = .ok (.getfield 9, 3) := by decide +kernel
theorem dX2_firstPurseOf_4 : decode cX2_firstPurseOf 4 = .ok (.iload_n 1, 1) := by decide +kernel
theorem dX2_firstPurseOf_5 : decode cX2_firstPurseOf 5 = .ok (.invokestatic 50, 3) := by decide +kernel
theorem dX2_firstPurseOf_8 : decode cX2_firstPurseOf 8 = .ok (.ireturn, 1) := by decide +kernel
theorem dX2_ownerOf_0 : decode cX2_ownerOf 0 = .ok (.aload_n 0, 1) := by decide +kernel
theorem dX2_ownerOf_1 : decode cX2_ownerOf 1 = .ok (.getfield 15, 3) := by decide +kernel
theorem dX2_ownerOf_4 : decode cX2_ownerOf 4 = .ok (.iload_n 1, 1) := by decide +kernel
theorem dX2_ownerOf_5 : decode cX2_ownerOf 5 = .ok (.invokestatic 50, 3) := by decide +kernel
theorem dX2_ownerOf_8 : decode cX2_ownerOf 8 = .ok (.ireturn, 1) := by decide +kernel
theorem dX2_worthOf_0 : decode cX2_worthOf 0 = .ok (.aload_n 0, 1) := by decide +kernel
theorem dX2_worthOf_1 : decode cX2_worthOf 1 = .ok (.getfield 18, 3) := by decide +kernel
theorem dX2_worthOf_4 : decode cX2_worthOf 4 = .ok (.iload_n 1, 1) := by decide +kernel
theorem dX2_worthOf_5 : decode cX2_worthOf 5 = .ok (.invokestatic 50, 3) := by decide +kernel
theorem dX2_worthOf_8 : decode cX2_worthOf 8 = .ok (.ireturn, 1) := by decide +kernel
theorem dX2_kindOf_0 : decode cX2_kindOf 0 = .ok (.aload_n 0, 1) := by decide +kernel
theorem dX2_kindOf_1 : decode cX2_kindOf 1 = .ok (.getfield 21, 3) := by decide +kernel
theorem dX2_kindOf_4 : decode cX2_kindOf 4 = .ok (.iload_n 1, 1) := by decide +kernel
theorem dX2_kindOf_5 : decode cX2_kindOf 5 = .ok (.invokestatic 50, 3) := by decide +kernel
theorem dX2_kindOf_8 : decode cX2_kindOf 8 = .ok (.ireturn, 1) := by decide +kernel
theorem dX2_wantedBy_0 : decode cX2_wantedBy 0 = .ok (.aload_n 0, 1) := by decide +kernel
theorem dX2_wantedBy_1 : decode cX2_wantedBy 1 = .ok (.getfield 24, 3) := by decide +kernel
theorem dX2_wantedBy_4 : decode cX2_wantedBy 4 = .ok (.iload_n 1, 1) := by decide +kernel
theorem dX2_wantedBy_5 : decode cX2_wantedBy 5 = .ok (.invokestatic 50, 3) := by decide +kernel
theorem dX2_wantedBy_8 : decode cX2_wantedBy 8 = .ok (.ireturn, 1) := by decide +kernel
theorem dX2_dayOf_0 : decode cX2_dayOf 0 = .ok (.aload_n 0, 1) := by decide +kernel
theorem dX2_dayOf_1 : decode cX2_dayOf 1 = .ok (.getfield 27, 3) := by decide +kernel
theorem dX2_dayOf_4 : decode cX2_dayOf 4 = .ok (.iload_n 1, 1) := by decide +kernel
theorem dX2_dayOf_5 : decode cX2_dayOf 5 = .ok (.invokestatic 50, 3) := by decide +kernel
theorem dX2_dayOf_8 : decode cX2_dayOf 8 = .ok (.ireturn, 1) := by decide +kernel
theorem dX2_rewardOf_0 : decode cX2_rewardOf 0 = .ok (.aload_n 0, 1) := by decide +kernel
theorem dX2_rewardOf_1 : decode cX2_rewardOf 1 = .ok (.getfield 30, 3) := by decide +kernel
theorem dX2_rewardOf_4 : decode cX2_rewardOf 4 = .ok (.iload_n 1, 1) := by decide +kernel
theorem dX2_rewardOf_5 : decode cX2_rewardOf 5 = .ok (.invokestatic 50, 3) := by decide +kernel
theorem dX2_rewardOf_8 : decode cX2_rewardOf 8 = .ok (.ireturn, 1) := by decide +kernel
theorem dX2_qualitiesOf_0 : decode cX2_qualitiesOf 0 = .ok (.iconst 0, 1) := by decide +kernel
theorem dX2_qualitiesOf_1 : decode cX2_qualitiesOf 1 = .ok (.istore_n 2, 1) := by decide +kernel
theorem dX2_qualitiesOf_2 : decode cX2_qualitiesOf 2 = .ok (.iconst 0, 1) := by decide +kernel
theorem dX2_qualitiesOf_3 : decode cX2_qualitiesOf 3 = .ok (.istore_n 3, 1) := by decide +kernel
theorem dX2_qualitiesOf_4 : decode cX2_qualitiesOf 4 = .ok (.iload_n 3, 1) := by decide +kernel
theorem dX2_qualitiesOf_5 : decode cX2_qualitiesOf 5 = .ok (.aload_n 0, 1) := by decide +kernel
theorem dX2_qualitiesOf_6 : decode cX2_qualitiesOf 6 = .ok (.getfield 40, 3) := by decide +kernel
theorem dX2_qualitiesOf_9 : decode cX2_qualitiesOf 9 = .ok (.if_icmp .ge 28, 3) := by decide +kernel
theorem dX2_qualitiesOf_12 : decode cX2_qualitiesOf 12 = .ok (.iload_n 2, 1) := by decide +kernel
theorem dX2_qualitiesOf_13 : decode cX2_qualitiesOf 13 = .ok (.aload_n 0, 1) := by decide +kernel
theorem dX2_qualitiesOf_14 : decode cX2_qualitiesOf 14 = .ok (.iload_n 3, 1) := by decide +kernel
theorem dX2_qualitiesOf_15 : decode cX2_qualitiesOf 15 = .ok (.invokevirtual 54, 3) := by decide +kernel
theorem dX2_qualitiesOf_18 : decode cX2_qualitiesOf 18 = .ok (.iload_n 1, 1) := by decide +kernel
theorem dX2_qualitiesOf_19 : decode cX2_qualitiesOf 19 = .ok (.if_icmp .ne 9, 3) := by decide +kernel
theorem dX2_qualitiesOf_22 : decode cX2_qualitiesOf 22 = .ok (.iconst 1, 1) := by decide +kernel
theorem dX2_qualitiesOf_23 : decode cX2_qualitiesOf 23 = .ok (.iload_n 3, 1) := by decide +kernel
theorem dX2_qualitiesOf_24 : decode cX2_qualitiesOf 24 = .ok (.ishl, 1) := by decide +kernel
theorem dX2_qualitiesOf_25 : decode cX2_qualitiesOf 25 = .ok (.goto 4, 3) := by decide +kernel
theorem dX2_qualitiesOf_28 : decode cX2_qualitiesOf 28 = .ok (.iconst 0, 1) := by decide +kernel
theorem dX2_qualitiesOf_29 : decode cX2_qualitiesOf 29 = .ok (.ior, 1) := by decide +kernel
theorem dX2_qualitiesOf_30 : decode cX2_qualitiesOf 30 = .ok (.istore_n 2, 1) := by decide +kernel
theorem dX2_qualitiesOf_31 : decode cX2_qualitiesOf 31 = .ok (.iinc 3 1, 3) := by decide +kernel
theorem dX2_qualitiesOf_34 : decode cX2_qualitiesOf 34 = .ok (.goto (-30), 3) := by decide +kernel
theorem dX2_qualitiesOf_37 : decode cX2_qualitiesOf 37 = .ok (.iload_n 2, 1) := by decide +kernel
theorem dX2_qualitiesOf_38 : decode cX2_qualitiesOf 38 = .ok (.ireturn, 1) := by decide +kernel
theorem dX2_deedsOf_0 : decode cX2_deedsOf 0 = .ok (.iconst 0, 1) := by decide +kernel
theorem dX2_deedsOf_1 : decode cX2_deedsOf 1 = .ok (.istore_n 2, 1) := by decide +kernel
theorem dX2_deedsOf_2 : decode cX2_deedsOf 2 = .ok (.iconst 0, 1) := by decide +kernel
theorem dX2_deedsOf_3 : decode cX2_deedsOf 3 = .ok (.istore_n 3, 1) := by decide +kernel
theorem dX2_deedsOf_4 : decode cX2_deedsOf 4 = .ok (.iload_n 3, 1) := by decide +kernel
theorem dX2_deedsOf_5 : decode cX2_deedsOf 5 = .ok (.aload_n 0, 1) := by decide +kernel
theorem dX2_deedsOf_6 : decode cX2_deedsOf 6 = .ok (.getfield 43, 3) := by decide +kernel
theorem dX2_deedsOf_9 : decode cX2_deedsOf 9 = .ok (.if_icmp .ge 32, 3) := by decide +kernel
theorem dX2_deedsOf_12 : decode cX2_deedsOf 12 = .ok (.iload_n 2, 1) := by decide +kernel
theorem dX2_deedsOf_13 : decode cX2_deedsOf 13 = .ok (.aload_n 0, 1) := by decide +kernel
theorem dX2_deedsOf_14 : decode cX2_deedsOf 14 = .ok (.aload_n 0, 1) := by decide +kernel
theorem dX2_deedsOf_15 : decode cX2_deedsOf 15 = .ok (.iload_n 3, 1) := by decide +kernel
theorem dX2_deedsOf_16 : decode cX2_deedsOf 16 = .ok (.invokevirtual 58, 3) := by decide +kernel
theorem dX2_deedsOf_19 : decode cX2_deedsOf 19 = .ok (.invokevirtual 54, 3) := by decide +kernel
theorem dX2_deedsOf_22 : decode cX2_deedsOf 22 = .ok (.iload_n 1, 1) := by decide +kernel
theorem dX2_deedsOf_23 : decode cX2_deedsOf 23 = .ok (.if_icmp .ne 9, 3) := by decide +kernel
theorem dX2_deedsOf_26 : decode cX2_deedsOf 26 = .ok (.iconst 1, 1) := by decide +kernel
theorem dX2_deedsOf_27 : decode cX2_deedsOf 27 = .ok (.iload_n 3, 1) := by decide +kernel
theorem dX2_deedsOf_28 : decode cX2_deedsOf 28 = .ok (.ishl, 1) := by decide +kernel
theorem dX2_deedsOf_29 : decode cX2_deedsOf 29 = .ok (.goto 4, 3) := by decide +kernel
theorem dX2_deedsOf_32 : decode cX2_deedsOf 32 = .ok (.iconst 0, 1) := by decide +kernel
theorem dX2_deedsOf_33 : decode cX2_deedsOf 33 = .ok (.ior, 1) := by decide +kernel
theorem dX2_deedsOf_34 : decode cX2_deedsOf 34 = .ok (.istore_n 2, 1) := by decide +kernel
theorem dX2_deedsOf_35 : decode cX2_deedsOf 35 = .ok (.iinc 3 1, 3) := by decide +kernel
theorem dX2_deedsOf_38 : decode cX2_deedsOf 38 = .ok (.goto (-34), 3) := by decide +kernel
theorem dX2_deedsOf_41 : decode cX2_deedsOf 41 = .ok (.iload_n 2, 1) := by decide +kernel
theorem dX2_deedsOf_42 : decode cX2_deedsOf 42 = .ok (.ireturn, 1) := by decide +kernel
theorem dX3_inTill_0 : decode cX3_inTill 0 = .ok (.aload_n 0, 1) := by decide +kernel
theorem dX3_inTill_1 : decode cX3_inTill 1 = .ok (.getfield 11, 3) := by decide +kernel
theorem dX3_inTill_4 : decode cX3_inTill 4 = .ok (.iconst 0, 1) := by decide +kernel
theorem dX3_inTill_5 : decode cX3_inTill 5 = .ok (.invokestatic 40, 3) := by decide +kernel
theorem dX3_inTill_8 : decode cX3_inTill 8 = .ok (.ireturn, 1) := by decide +kernel
theorem dX3_today_0 : decode cX3_today 0 = .ok (.aload_n 0, 1) := by decide +kernel
theorem dX3_today_1 : decode cX3_today 1 = .ok (.getfield 11, 3) := by decide +kernel
theorem dX3_today_4 : decode cX3_today 4 = .ok (.iconst 1, 1) := by decide +kernel
theorem dX3_today_5 : decode cX3_today 5 = .ok (.invokestatic 40, 3) := by decide +kernel
theorem dX3_today_8 : decode cX3_today 8 = .ok (.ireturn, 1) := by decide +kernel
theorem dX3_purseOf_0 : decode cX3_purseOf 0 = .ok (.aload_n 0, 1) := by decide +kernel
theorem dX3_purseOf_1 : decode cX3_purseOf 1 = .ok (.getfield 11, 3) := by decide +kernel
theorem dX3_purseOf_4 : decode cX3_purseOf 4 = .ok (.iconst 2, 1) := by decide +kernel
theorem dX3_purseOf_5 : decode cX3_purseOf 5 = .ok (.iload_n 1, 1) := by decide +kernel
theorem dX3_purseOf_6 : decode cX3_purseOf 6 = .ok (.iadd, 1) := by decide +kernel
theorem dX3_purseOf_7 : decode cX3_purseOf 7 = .ok (.invokestatic 40, 3) := by decide +kernel
theorem dX3_purseOf_10 : decode cX3_purseOf 10 = .ok (.ireturn, 1) := by decide +kernel
theorem dX3_standingOf_0 : decode cX3_standingOf 0 = .ok (.aload_n 0, 1) := by decide +kernel
theorem dX3_standingOf_1 : decode cX3_standingOf 1 = .ok (.getfield 11, 3) := by decide +kernel
theorem dX3_standingOf_4 : decode cX3_standingOf 4 = .ok (.iconst 5, 1) := by decide +kernel
theorem dX3_standingOf_5 : decode cX3_standingOf 5 = .ok (.iload_n 1, 1) := by decide +kernel
theorem dX3_standingOf_6 : decode cX3_standingOf 6 = .ok (.iadd, 1) := by decide +kernel
theorem dX3_standingOf_7 : decode cX3_standingOf 7 = .ok (.invokestatic 40, 3) := by decide +kernel
theorem dX3_standingOf_10 : decode cX3_standingOf 10 = .ok (.ireturn, 1) := by decide +kernel
theorem dX3_pledgedOn_0 : decode cX3_pledgedOn 0 = .ok (.aload_n 0, 1) := by decide +kernel
theorem dX3_pledgedOn_1 : decode cX3_pledgedOn 1 = .ok (.getfield 11, 3) := by decide +kernel
theorem dX3_pledgedOn_4 : decode cX3_pledgedOn 4 = .ok (.bipush 10, 2) := by decide +kernel
theorem dX3_pledgedOn_6 : decode cX3_pledgedOn 6 = .ok (.iload_n 1, 1) := by decide +kernel
theorem dX3_pledgedOn_7 : decode cX3_pledgedOn 7 = .ok (.iadd, 1) := by decide +kernel
theorem dX3_pledgedOn_8 : decode cX3_pledgedOn 8 = .ok (.invokestatic 40, 3) := by decide +kernel
theorem dX3_pledgedOn_11 : decode cX3_pledgedOn 11 = .ok (.ireturn, 1) := by decide +kernel
theorem dX3_outcomeOf_0 : decode cX3_outcomeOf 0 = .ok (.aload_n 0, 1) := by decide +kernel
theorem dX3_outcomeOf_1 : decode cX3_outcomeOf 1 = .ok (.getfield 11, 3) := by decide +kernel
theorem dX3_outcomeOf_4 : decode cX3_outcomeOf 4 = .ok (.bipush 15, 2) := by decide +kernel
theorem dX3_outcomeOf_6 : decode cX3_outcomeOf 6 = .ok (.iload_n 1, 1) := by decide +kernel
theorem dX3_outcomeOf_7 : decode cX3_outcomeOf 7 = .ok (.iadd, 1) := by decide +kernel
theorem dX3_outcomeOf_8 : decode cX3_outcomeOf 8 = .ok (.invokestatic 40, 3) := by decide +kernel
theorem dX3_outcomeOf_11 : decode cX3_outcomeOf 11 = .ok (.ireturn, 1) := by decide +kernel
theorem dX3_inAllPurses_0 : decode cX3_inAllPurses 0 = .ok (.iconst 0, 1) := by decide +kernel
theorem dX3_inAllPurses_1 : decode cX3_inAllPurses 1 = .ok (.istore_n 1, 1) := by decide +kernel
theorem dX3_inAllPurses_2 : decode cX3_inAllPurses 2 = .ok (.iconst 0, 1) := by decide +kernel
theorem dX3_inAllPurses_3 : decode cX3_inAllPurses 3 = .ok (.istore_n 2, 1) := by decide +kernel
theorem dX3_inAllPurses_4 : decode cX3_inAllPurses 4 = .ok (.iload_n 2, 1) := by decide +kernel
theorem dX3_inAllPurses_5 : decode cX3_inAllPurses 5 = .ok (.aload_n 0, 1) := by decide +kernel
theorem dX3_inAllPurses_6 : decode cX3_inAllPurses 6 = .ok (.getfield 15, 3) := by decide +kernel
theorem dX3_inAllPurses_9 : decode cX3_inAllPurses 9 = .ok (.getfield 29, 3) := by decide +kernel
theorem dX3_inAllPurses_12 : decode cX3_inAllPurses 12 = .ok (.if_icmp .ge 17, 3) := by decide +kernel
theorem dX3_inAllPurses_15 : decode cX3_inAllPurses 15 = .ok (.iload_n 1, 1) := by decide +kernel
theorem dX3_inAllPurses_16 : decode cX3_inAllPurses 16 = .ok (.aload_n 0, 1) := by decide +kernel
theorem dX3_inAllPurses_17 : decode cX3_inAllPurses 17 = .ok (.iload_n 2, 1) := by decide +kernel
theorem dX3_inAllPurses_18 : decode cX3_inAllPurses 18 = .ok (.invokevirtual 44, 3) := by decide +kernel
theorem dX3_inAllPurses_21 : decode cX3_inAllPurses 21 = .ok (.iadd, 1) := by decide +kernel
theorem dX3_inAllPurses_22 : decode cX3_inAllPurses 22 = .ok (.istore_n 1, 1) := by decide +kernel
theorem dX3_inAllPurses_23 : decode cX3_inAllPurses 23 = .ok (.iinc 2 1, 3) := by decide +kernel
theorem dX3_inAllPurses_26 : decode cX3_inAllPurses 26 = .ok (.goto (-22), 3) := by decide +kernel
theorem dX3_inAllPurses_29 : decode cX3_inAllPurses 29 = .ok (.iload_n 1, 1) := by decide +kernel
theorem dX3_inAllPurses_30 : decode cX3_inAllPurses 30 = .ok (.ireturn, 1) := by decide +kernel
theorem dX3_qualitiesThatAre_0 : decode cX3_qualitiesThatAre 0 = .ok (.iconst 0, 1) := by decide +kernel
theorem dX3_qualitiesThatAre_1 : decode cX3_qualitiesThatAre 1 = .ok (.istore_n 2, 1) := by decide +kernel
theorem dX3_qualitiesThatAre_2 : decode cX3_qualitiesThatAre 2 = .ok (.iconst 0, 1) := by decide +kernel
theorem dX3_qualitiesThatAre_3 : decode cX3_qualitiesThatAre 3 = .ok (.istore_n 3, 1) := by decide +kernel
theorem dX3_qualitiesThatAre_4 : decode cX3_qualitiesThatAre 4 = .ok (.iload_n 3, 1) := by decide +kernel
theorem dX3_qualitiesThatAre_5 : decode cX3_qualitiesThatAre 5 = .ok (.aload_n 0, 1) := by decide +kernel
theorem dX3_qualitiesThatAre_6 : decode cX3_qualitiesThatAre 6 = .ok (.getfield 15, 3) := by decide +kernel
theorem dX3_qualitiesThatAre_9 : decode cX3_qualitiesThatAre 9 = .ok (.getfield 47, 3) := by decide +kernel
theorem dX3_qualitiesThatAre_12 : decode cX3_qualitiesThatAre 12 = .ok (.if_icmp .ge 28, 3) := by decide +kernel
theorem dX3_qualitiesThatAre_15 : decode cX3_qualitiesThatAre 15 = .ok (.iload_n 2, 1) := by decide +kernel
theorem dX3_qualitiesThatAre_16 : decode cX3_qualitiesThatAre 16 = .ok (.aload_n 0, 1) := by decide +kernel
theorem dX3_qualitiesThatAre_17 : decode cX3_qualitiesThatAre 17 = .ok (.iload_n 3, 1) := by decide +kernel
theorem dX3_qualitiesThatAre_18 : decode cX3_qualitiesThatAre 18 = .ok (.invokevirtual 50, 3) := by decide +kernel
theorem dX3_qualitiesThatAre_21 : decode cX3_qualitiesThatAre 21 = .ok (.iload_n 1, 1) := by decide +kernel
theorem dX3_qualitiesThatAre_22 : decode cX3_qualitiesThatAre 22 = .ok (.if_icmp .ne 9, 3) := by decide +kernel
theorem dX3_qualitiesThatAre_25 : decode cX3_qualitiesThatAre 25 = .ok (.iconst 1, 1) := by decide +kernel
theorem dX3_qualitiesThatAre_26 : decode cX3_qualitiesThatAre 26 = .ok (.iload_n 3, 1) := by decide +kernel
theorem dX3_qualitiesThatAre_27 : decode cX3_qualitiesThatAre 27 = .ok (.ishl, 1) := by decide +kernel
theorem dX3_qualitiesThatAre_28 : decode cX3_qualitiesThatAre 28 = .ok (.goto 4, 3) := by decide +kernel
theorem dX3_qualitiesThatAre_31 : decode cX3_qualitiesThatAre 31 = .ok (.iconst 0, 1) := by decide +kernel
theorem dX3_qualitiesThatAre_32 : decode cX3_qualitiesThatAre 32 = .ok (.ior, 1) := by decide +kernel
theorem dX3_qualitiesThatAre_33 : decode cX3_qualitiesThatAre 33 = .ok (.istore_n 2, 1) := by decide +kernel
theorem dX3_qualitiesThatAre_34 : decode cX3_qualitiesThatAre 34 = .ok (.iinc 3 1, 3) := by decide +kernel
theorem dX3_qualitiesThatAre_37 : decode cX3_qualitiesThatAre 37 = .ok (.goto (-33), 3) := by decide +kernel
theorem dX3_qualitiesThatAre_40 : decode cX3_qualitiesThatAre 40 = .ok (.iload_n 2, 1) := by decide +kernel
theorem dX3_qualitiesThatAre_41 : decode cX3_qualitiesThatAre 41 = .ok (.ireturn, 1) := by decide +kernel
theorem dX3_deedsThatAre_0 : decode cX3_deedsThatAre 0 = .ok (.iconst 0, 1) := by decide +kernel
theorem dX3_deedsThatAre_1 : decode cX3_deedsThatAre 1 = .ok (.istore_n 2, 1) := by decide +kernel
theorem dX3_deedsThatAre_2 : decode cX3_deedsThatAre 2 = .ok (.iconst 0, 1) := by decide +kernel
theorem dX3_deedsThatAre_3 : decode cX3_deedsThatAre 3 = .ok (.istore_n 3, 1) := by decide +kernel
theorem dX3_deedsThatAre_4 : decode cX3_deedsThatAre 4 = .ok (.iload_n 3, 1) := by decide +kernel
theorem dX3_deedsThatAre_5 : decode cX3_deedsThatAre 5 = .ok (.aload_n 0, 1) := by decide +kernel
theorem dX3_deedsThatAre_6 : decode cX3_deedsThatAre 6 = .ok (.getfield 15, 3) := by decide +kernel
theorem dX3_deedsThatAre_9 : decode cX3_deedsThatAre 9 = .ok (.getfield 53, 3) := by decide +kernel
theorem dX3_deedsThatAre_12 : decode cX3_deedsThatAre 12 = .ok (.if_icmp .ge 28, 3) := by decide +kernel
theorem dX3_deedsThatAre_15 : decode cX3_deedsThatAre 15 = .ok (.iload_n 2, 1) := by decide +kernel
theorem dX3_deedsThatAre_16 : decode cX3_deedsThatAre 16 = .ok (.aload_n 0, 1) := by decide +kernel
theorem dX3_deedsThatAre_17 : decode cX3_deedsThatAre 17 = .ok (.iload_n 3, 1) := by decide +kernel
theorem dX3_deedsThatAre_18 : decode cX3_deedsThatAre 18 = .ok (.invokevirtual 56, 3) := by decide +kernel
theorem dX3_deedsThatAre_21 : decode cX3_deedsThatAre 21 = .ok (.iload_n 1, 1) := by decide +kernel
theorem dX3_deedsThatAre_22 : decode cX3_deedsThatAre 22 = .ok (.if_icmp .ne 9, 3) := by decide +kernel
theorem dX3_deedsThatAre_25 : decode cX3_deedsThatAre 25 = .ok (.iconst 1, 1) := by decide +kernel
theorem dX3_deedsThatAre_26 : decode cX3_deedsThatAre 26 = .ok (.iload_n 3, 1) := by decide +kernel
theorem dX3_deedsThatAre_27 : decode cX3_deedsThatAre 27 = .ok (.ishl, 1) := by decide +kernel
theorem dX3_deedsThatAre_28 : decode cX3_deedsThatAre 28 = .ok (.goto 4, 3) := by decide +kernel
theorem dX3_deedsThatAre_31 : decode cX3_deedsThatAre 31 = .ok (.iconst 0, 1) := by decide +kernel
theorem dX3_deedsThatAre_32 : decode cX3_deedsThatAre 32 = .ok (.ior, 1) := by decide +kernel
theorem dX3_deedsThatAre_33 : decode cX3_deedsThatAre 33 = .ok (.istore_n 2, 1) := by decide +kernel
theorem dX3_deedsThatAre_34 : decode cX3_deedsThatAre 34 = .ok (.iinc 3 1, 3) := by decide +kernel
theorem dX3_deedsThatAre_37 : decode cX3_deedsThatAre 37 = .ok (.goto (-33), 3) := by decide +kernel
theorem dX3_deedsThatAre_40 : decode cX3_deedsThatAre 40 = .ok (.iload_n 2, 1) := by decide +kernel
theorem dX3_deedsThatAre_41 : decode cX3_deedsThatAre 41 = .ok (.ireturn, 1) := by decide +kernel
theorem dX3_owedFor_0 : decode cX3_owedFor 0 = .ok (.aload_n 0, 1) := by decide +kernel
theorem dX3_owedFor_1 : decode cX3_owedFor 1 = .ok (.iload_n 1, 1) := by decide +kernel
theorem dX3_owedFor_2 : decode cX3_owedFor 2 = .ok (.invokevirtual 50, 3) := by decide +kernel
theorem dX3_owedFor_5 : decode cX3_owedFor 5 = .ok (.iconst 1, 1) := by decide +kernel
theorem dX3_owedFor_6 : decode cX3_owedFor 6 = .ok (.if_icmp .eq 5, 3) := by decide +kernel
theorem dX3_owedFor_9 : decode cX3_owedFor 9 = .ok (.iconst 0, 1) := by decide +kernel
theorem dX3_owedFor_10 : decode cX3_owedFor 10 = .ok (.ireturn, 1) := by decide +kernel
theorem dX3_owedFor_11 : decode cX3_owedFor 11 = .ok (.aload_n 0, 1) := by decide +kernel
theorem dX3_owedFor_12 : decode cX3_owedFor 12 = .ok (.getfield 15, 3) := by decide +kernel
theorem dX3_owedFor_15 : decode cX3_owedFor 15 = .ok (.iload_n 1, 1) := by decide +kernel
theorem dX3_owedFor_16 : decode cX3_owedFor 16 = .ok (.invokevirtual 59, 3) := by decide +kernel
theorem dX3_owedFor_19 : decode cX3_owedFor 19 = .ok (.aload_n 0, 1) := by decide +kernel
theorem dX3_owedFor_20 : decode cX3_owedFor 20 = .ok (.getfield 15, 3) := by decide +kernel
theorem dX3_owedFor_23 : decode cX3_owedFor 23 = .ok (.iload_n 1, 1) := by decide +kernel
theorem dX3_owedFor_24 : decode cX3_owedFor 24 = .ok (.invokevirtual 62, 3) := by decide +kernel
theorem dX3_owedFor_27 : decode cX3_owedFor 27 = .ok (.aload_n 0, 1) := by decide +kernel
theorem dX3_owedFor_28 : decode cX3_owedFor 28 = .ok (.invokevirtual 65, 3) := by decide +kernel
theorem dX3_owedFor_31 : decode cX3_owedFor 31 = .ok (.aload_n 0, 1) := by decide +kernel
theorem dX3_owedFor_32 : decode cX3_owedFor 32 = .ok (.iload_n 1, 1) := by decide +kernel
theorem dX3_owedFor_33 : decode cX3_owedFor 33 = .ok (.invokevirtual 69, 3) := by decide +kernel
theorem dX3_owedFor_36 : decode cX3_owedFor 36 = .ok (.isub, 1) := by decide +kernel
theorem dX3_owedFor_37 : decode cX3_owedFor 37 = .ok (.aload_n 0, 1) := by decide +kernel
theorem dX3_owedFor_38 : decode cX3_owedFor 38 = .ok (.invokevirtual 65, 3) := by decide +kernel
theorem dX3_owedFor_41 : decode cX3_owedFor 41 = .ok (.invokestatic 72, 3) := by decide +kernel
theorem dX3_owedFor_44 : decode cX3_owedFor 44 = .ok (.ireturn, 1) := by decide +kernel
theorem dX3_canPledge_0 : decode cX3_canPledge 0 = .ok (.aload_n 0, 1) := by decide +kernel
theorem dX3_canPledge_1 : decode cX3_canPledge 1 = .ok (.getfield 15, 3) := by decide +kernel
theorem dX3_canPledge_4 : decode cX3_canPledge 4 = .ok (.iload_n 1, 1) := by decide +kernel
theorem dX3_canPledge_5 : decode cX3_canPledge 5 = .ok (.invokevirtual 79, 3) := by decide +kernel
theorem dX3_canPledge_8 : decode cX3_canPledge 8 = .ok (.ifCond .eq 30, 3) := by decide +kernel
theorem dX3_canPledge_11 : decode cX3_canPledge 11 = .ok (.aload_n 0, 1) := by decide +kernel
theorem dX3_canPledge_12 : decode cX3_canPledge 12 = .ok (.iload_n 1, 1) := by decide +kernel
theorem dX3_canPledge_13 : decode cX3_canPledge 13 = .ok (.invokevirtual 50, 3) := by decide +kernel
theorem dX3_canPledge_16 : decode cX3_canPledge 16 = .ok (.ifCond .ne 22, 3) := by decide +kernel
theorem dX3_canPledge_19 : decode cX3_canPledge 19 = .ok (.aload_n 0, 1) := by decide +kernel
theorem dX3_canPledge_20 : decode cX3_canPledge 20 = .ok (.invokevirtual 83, 3) := by decide +kernel
theorem dX3_canPledge_23 : decode cX3_canPledge 23 = .ok (.aload_n 0, 1) := by decide +kernel
theorem dX3_canPledge_24 : decode cX3_canPledge 24 = .ok (.getfield 15, 3) := by decide +kernel
theorem dX3_canPledge_27 : decode cX3_canPledge 27 = .ok (.iload_n 1, 1) := by decide +kernel
theorem dX3_canPledge_28 : decode cX3_canPledge 28 = .ok (.invokevirtual 62, 3) := by decide +kernel
theorem dX3_canPledge_31 : decode cX3_canPledge 31 = .ok (.if_icmp .lt 7, 3) := by decide +kernel
theorem dX3_canPledge_34 : decode cX3_canPledge 34 = .ok (.iconst 1, 1) := by decide +kernel
theorem dX3_canPledge_35 : decode cX3_canPledge 35 = .ok (.goto 4, 3) := by decide +kernel
theorem dX3_canPledge_38 : decode cX3_canPledge 38 = .ok (.iconst 0, 1) := by decide +kernel
theorem dX3_canPledge_39 : decode cX3_canPledge 39 = .ok (.ireturn, 1) := by decide +kernel
theorem dX3_canRedeem_0 : decode cX3_canRedeem 0 = .ok (.aload_n 0, 1) := by decide +kernel
theorem dX3_canRedeem_1 : decode cX3_canRedeem 1 = .ok (.getfield 15, 3) := by decide +kernel
theorem dX3_canRedeem_4 : decode cX3_canRedeem 4 = .ok (.iload_n 1, 1) := by decide +kernel
theorem dX3_canRedeem_5 : decode cX3_canRedeem 5 = .ok (.invokevirtual 79, 3) := by decide +kernel
theorem dX3_canRedeem_8 : decode cX3_canRedeem 8 = .ok (.ifCond .eq 36, 3) := by decide +kernel
theorem dX3_canRedeem_11 : decode cX3_canRedeem 11 = .ok (.aload_n 0, 1) := by decide +kernel
theorem dX3_canRedeem_12 : decode cX3_canRedeem 12 = .ok (.iload_n 1, 1) := by decide +kernel
theorem dX3_canRedeem_13 : decode cX3_canRedeem 13 = .ok (.invokevirtual 50, 3) := by decide +kernel
theorem dX3_canRedeem_16 : decode cX3_canRedeem 16 = .ok (.iconst 1, 1) := by decide +kernel
theorem dX3_canRedeem_17 : decode cX3_canRedeem 17 = .ok (.if_icmp .ne 27, 3) := by decide +kernel
theorem dX3_canRedeem_20 : decode cX3_canRedeem 20 = .ok (.aload_n 0, 1) := by decide +kernel
theorem dX3_canRedeem_21 : decode cX3_canRedeem 21 = .ok (.aload_n 0, 1) := by decide +kernel
theorem dX3_canRedeem_22 : decode cX3_canRedeem 22 = .ok (.getfield 15, 3) := by decide +kernel
theorem dX3_canRedeem_25 : decode cX3_canRedeem 25 = .ok (.iload_n 1, 1) := by decide +kernel
theorem dX3_canRedeem_26 : decode cX3_canRedeem 26 = .ok (.invokevirtual 76, 3) := by decide +kernel
theorem dX3_canRedeem_29 : decode cX3_canRedeem 29 = .ok (.invokevirtual 44, 3) := by decide +kernel
theorem dX3_canRedeem_32 : decode cX3_canRedeem 32 = .ok (.aload_n 0, 1) := by decide +kernel
theorem dX3_canRedeem_33 : decode cX3_canRedeem 33 = .ok (.iload_n 1, 1) := by decide +kernel
theorem dX3_canRedeem_34 : decode cX3_canRedeem 34 = .ok (.invokevirtual 86, 3) := by decide +kernel
theorem dX3_canRedeem_37 : decode cX3_canRedeem 37 = .ok (.if_icmp .lt 7, 3) := by decide +kernel
theorem dX3_canRedeem_40 : decode cX3_canRedeem 40 = .ok (.iconst 1, 1) := by decide +kernel
theorem dX3_canRedeem_41 : decode cX3_canRedeem 41 = .ok (.goto 4, 3) := by decide +kernel
theorem dX3_canRedeem_44 : decode cX3_canRedeem 44 = .ok (.iconst 0, 1) := by decide +kernel
theorem dX3_canRedeem_45 : decode cX3_canRedeem 45 = .ok (.ireturn, 1) := by decide +kernel
theorem dX3_tryPledge_0 : decode cX3_tryPledge 0 = .ok (.aload_n 0, 1) := by decide +kernel
theorem dX3_tryPledge_1 : decode cX3_tryPledge 1 = .ok (.iload_n 1, 1) := by decide +kernel
theorem dX3_tryPledge_2 : decode cX3_tryPledge 2 = .ok (.invokevirtual 89, 3) := by decide +kernel
theorem dX3_tryPledge_5 : decode cX3_tryPledge 5 = .ok (.ifCond .ne 5, 3) := by decide +kernel
theorem dX3_tryPledge_8 : decode cX3_tryPledge 8 = .ok (.iconst 0, 1) := by decide +kernel
theorem dX3_tryPledge_9 : decode cX3_tryPledge 9 = .ok (.ireturn, 1) := by decide +kernel
theorem dX3_tryPledge_10 : decode cX3_tryPledge 10 = .ok (.aload_n 0, 1) := by decide +kernel
theorem dX3_tryPledge_11 : decode cX3_tryPledge 11 = .ok (.aload_n 0, 1) := by decide +kernel
theorem dX3_tryPledge_12 : decode cX3_tryPledge 12 = .ok (.getfield 15, 3) := by decide +kernel
theorem dX3_tryPledge_15 : decode cX3_tryPledge 15 = .ok (.iload_n 1, 1) := by decide +kernel
theorem dX3_tryPledge_16 : decode cX3_tryPledge 16 = .ok (.invokevirtual 76, 3) := by decide +kernel
theorem dX3_tryPledge_19 : decode cX3_tryPledge 19 = .ok (.aload_n 0, 1) := by decide +kernel
theorem dX3_tryPledge_20 : decode cX3_tryPledge 20 = .ok (.getfield 15, 3) := by decide +kernel
theorem dX3_tryPledge_23 : decode cX3_tryPledge 23 = .ok (.iload_n 1, 1) := by decide +kernel
theorem dX3_tryPledge_24 : decode cX3_tryPledge 24 = .ok (.invokevirtual 62, 3) := by decide +kernel
theorem dX3_tryPledge_27 : decode cX3_tryPledge 27 = .ok (.invokevirtual 92, 3) := by decide +kernel
theorem dX3_tryPledge_30 : decode cX3_tryPledge 30 = .ok (.aload_n 0, 1) := by decide +kernel
theorem dX3_tryPledge_31 : decode cX3_tryPledge 31 = .ok (.getfield 11, 3) := by decide +kernel
theorem dX3_tryPledge_34 : decode cX3_tryPledge 34 = .ok (.iconst 0, 1) := by decide +kernel
theorem dX3_tryPledge_35 : decode cX3_tryPledge 35 = .ok (.aload_n 0, 1) := by decide +kernel
theorem dX3_tryPledge_36 : decode cX3_tryPledge 36 = .ok (.invokevirtual 83, 3) := by decide +kernel
theorem dX3_tryPledge_39 : decode cX3_tryPledge 39 = .ok (.aload_n 0, 1) := by decide +kernel
theorem dX3_tryPledge_40 : decode cX3_tryPledge 40 = .ok (.getfield 15, 3) := by decide +kernel
theorem dX3_tryPledge_43 : decode cX3_tryPledge 43 = .ok (.iload_n 1, 1) := by decide +kernel
theorem dX3_tryPledge_44 : decode cX3_tryPledge 44 = .ok (.invokevirtual 62, 3) := by decide +kernel
theorem dX3_tryPledge_47 : decode cX3_tryPledge 47 = .ok (.isub, 1) := by decide +kernel
theorem dX3_tryPledge_48 : decode cX3_tryPledge 48 = .ok (.invokestatic 25, 3) := by decide +kernel
theorem dX3_tryPledge_51 : decode cX3_tryPledge 51 = .ok (.aload_n 0, 1) := by decide +kernel
theorem dX3_tryPledge_52 : decode cX3_tryPledge 52 = .ok (.getfield 11, 3) := by decide +kernel
theorem dX3_tryPledge_55 : decode cX3_tryPledge 55 = .ok (.iconst 5, 1) := by decide +kernel
theorem dX3_tryPledge_56 : decode cX3_tryPledge 56 = .ok (.iload_n 1, 1) := by decide +kernel
theorem dX3_tryPledge_57 : decode cX3_tryPledge 57 = .ok (.iadd, 1) := by decide +kernel
theorem dX3_tryPledge_58 : decode cX3_tryPledge 58 = .ok (.iconst 1, 1) := by decide +kernel
theorem dX3_tryPledge_59 : decode cX3_tryPledge 59 = .ok (.invokestatic 25, 3) := by decide +kernel
theorem dX3_tryPledge_62 : decode cX3_tryPledge 62 = .ok (.aload_n 0, 1) := by decide +kernel
theorem dX3_tryPledge_63 : decode cX3_tryPledge 63 = .ok (.getfield 11, 3) := by decide +kernel
theorem dX3_tryPledge_66 : decode cX3_tryPledge 66 = .ok (.bipush 10, 2) := by decide +kernel
theorem dX3_tryPledge_68 : decode cX3_tryPledge 68 = .ok (.iload_n 1, 1) := by decide +kernel
theorem dX3_tryPledge_69 : decode cX3_tryPledge 69 = .ok (.iadd, 1) := by decide +kernel
theorem dX3_tryPledge_70 : decode cX3_tryPledge 70 = .ok (.aload_n 0, 1) := by decide +kernel
theorem dX3_tryPledge_71 : decode cX3_tryPledge 71 = .ok (.invokevirtual 65, 3) := by decide +kernel
theorem dX3_tryPledge_74 : decode cX3_tryPledge 74 = .ok (.invokestatic 25, 3) := by decide +kernel
theorem dX3_tryPledge_77 : decode cX3_tryPledge 77 = .ok (.iconst 1, 1) := by decide +kernel
theorem dX3_tryPledge_78 : decode cX3_tryPledge 78 = .ok (.ireturn, 1) := by decide +kernel
theorem dX3_tryRedeem_0 : decode cX3_tryRedeem 0 = .ok (.aload_n 0, 1) := by decide +kernel
theorem dX3_tryRedeem_1 : decode cX3_tryRedeem 1 = .ok (.iload_n 1, 1) := by decide +kernel
theorem dX3_tryRedeem_2 : decode cX3_tryRedeem 2 = .ok (.invokevirtual 96, 3) := by decide +kernel
theorem dX3_tryRedeem_5 : decode cX3_tryRedeem 5 = .ok (.ifCond .ne 5, 3) := by decide +kernel
theorem dX3_tryRedeem_8 : decode cX3_tryRedeem 8 = .ok (.iconst 0, 1) := by decide +kernel
theorem dX3_tryRedeem_9 : decode cX3_tryRedeem 9 = .ok (.ireturn, 1) := by decide +kernel
theorem dX3_tryRedeem_10 : decode cX3_tryRedeem 10 = .ok (.aload_n 0, 1) := by decide +kernel
theorem dX3_tryRedeem_11 : decode cX3_tryRedeem 11 = .ok (.iload_n 1, 1) := by decide +kernel
theorem dX3_tryRedeem_12 : decode cX3_tryRedeem 12 = .ok (.invokevirtual 86, 3) := by decide +kernel
theorem dX3_tryRedeem_15 : decode cX3_tryRedeem 15 = .ok (.istore_n 2, 1) := by decide +kernel
theorem dX3_tryRedeem_16 : decode cX3_tryRedeem 16 = .ok (.aload_n 0, 1) := by decide +kernel
theorem dX3_tryRedeem_17 : decode cX3_tryRedeem 17 = .ok (.aload_n 0, 1) := by decide +kernel
theorem dX3_tryRedeem_18 : decode cX3_tryRedeem 18 = .ok (.getfield 15, 3) := by decide +kernel
theorem dX3_tryRedeem_21 : decode cX3_tryRedeem 21 = .ok (.iload_n 1, 1) := by decide +kernel
theorem dX3_tryRedeem_22 : decode cX3_tryRedeem 22 = .ok (.invokevirtual 76, 3) := by decide +kernel
theorem dX3_tryRedeem_25 : decode cX3_tryRedeem 25 = .ok (.iload_n 2, 1) := by decide +kernel
theorem dX3_tryRedeem_26 : decode cX3_tryRedeem 26 = .ok (.ineg, 1) := by decide +kernel
theorem dX3_tryRedeem_27 : decode cX3_tryRedeem 27 = .ok (.invokevirtual 92, 3) := by decide +kernel
theorem dX3_tryRedeem_30 : decode cX3_tryRedeem 30 = .ok (.aload_n 0, 1) := by decide +kernel
theorem dX3_tryRedeem_31 : decode cX3_tryRedeem 31 = .ok (.getfield 11, 3) := by decide +kernel
theorem dX3_tryRedeem_34 : decode cX3_tryRedeem 34 = .ok (.iconst 0, 1) := by decide +kernel
theorem dX3_tryRedeem_35 : decode cX3_tryRedeem 35 = .ok (.aload_n 0, 1) := by decide +kernel
theorem dX3_tryRedeem_36 : decode cX3_tryRedeem 36 = .ok (.invokevirtual 83, 3) := by decide +kernel
theorem dX3_tryRedeem_39 : decode cX3_tryRedeem 39 = .ok (.iload_n 2, 1) := by decide +kernel
theorem dX3_tryRedeem_40 : decode cX3_tryRedeem 40 = .ok (.iadd, 1) := by decide +kernel
theorem dX3_tryRedeem_41 : decode cX3_tryRedeem 41 = .ok (.invokestatic 25, 3) := by decide +kernel
theorem dX3_tryRedeem_44 : decode cX3_tryRedeem 44 = .ok (.aload_n 0, 1) := by decide +kernel
theorem dX3_tryRedeem_45 : decode cX3_tryRedeem 45 = .ok (.getfield 11, 3) := by decide +kernel
theorem dX3_tryRedeem_48 : decode cX3_tryRedeem 48 = .ok (.iconst 5, 1) := by decide +kernel
theorem dX3_tryRedeem_49 : decode cX3_tryRedeem 49 = .ok (.iload_n 1, 1) := by decide +kernel
theorem dX3_tryRedeem_50 : decode cX3_tryRedeem 50 = .ok (.iadd, 1) := by decide +kernel
theorem dX3_tryRedeem_51 : decode cX3_tryRedeem 51 = .ok (.iconst 0, 1) := by decide +kernel
theorem dX3_tryRedeem_52 : decode cX3_tryRedeem 52 = .ok (.invokestatic 25, 3) := by decide +kernel
theorem dX3_tryRedeem_55 : decode cX3_tryRedeem 55 = .ok (.iconst 1, 1) := by decide +kernel
theorem dX3_tryRedeem_56 : decode cX3_tryRedeem 56 = .ok (.ireturn, 1) := by decide +kernel
theorem dX3_tryGive_0 : decode cX3_tryGive 0 = .ok (.aload_n 0, 1) := by decide +kernel
theorem dX3_tryGive_1 : decode cX3_tryGive 1 = .ok (.getfield 15, 3) := by decide +kernel
theorem dX3_tryGive_4 : decode cX3_tryGive 4 = .ok (.iload_n 1, 1) := by decide +kernel
theorem dX3_tryGive_5 : decode cX3_tryGive 5 = .ok (.invokevirtual 99, 3) := by decide +kernel
theorem dX3_tryGive_8 : decode cX3_tryGive 8 = .ok (.ifCond .eq 14, 3) := by decide +kernel
theorem dX3_tryGive_11 : decode cX3_tryGive 11 = .ok (.iload_n 2, 1) := by decide +kernel
theorem dX3_tryGive_12 : decode cX3_tryGive 12 = .ok (.iconst 1, 1) := by decide +kernel
theorem dX3_tryGive_13 : decode cX3_tryGive 13 = .ok (.if_icmp .lt 9, 3) := by decide +kernel
theorem dX3_tryGive_16 : decode cX3_tryGive 16 = .ok (.iload_n 2, 1) := by decide +kernel
theorem dX3_tryGive_17 : decode cX3_tryGive 17 = .ok (.bipush 9, 2) := by decide +kernel
theorem dX3_tryGive_19 : decode cX3_tryGive 19 = .ok (.if_icmp .le 5, 3) := by decide +kernel
theorem dX3_tryGive_22 : decode cX3_tryGive 22 = .ok (.iconst 0, 1) := by decide +kernel
theorem dX3_tryGive_23 : decode cX3_tryGive 23 = .ok (.ireturn, 1) := by decide +kernel
theorem dX3_tryGive_24 : decode cX3_tryGive 24 = .ok (.aload_n 0, 1) := by decide +kernel
theorem dX3_tryGive_25 : decode cX3_tryGive 25 = .ok (.iload_n 1, 1) := by decide +kernel
theorem dX3_tryGive_26 : decode cX3_tryGive 26 = .ok (.iload_n 2, 1) := by decide +kernel
theorem dX3_tryGive_27 : decode cX3_tryGive 27 = .ok (.invokevirtual 92, 3) := by decide +kernel
theorem dX3_tryGive_30 : decode cX3_tryGive 30 = .ok (.iconst 1, 1) := by decide +kernel
theorem dX3_tryGive_31 : decode cX3_tryGive 31 = .ok (.ireturn, 1) := by decide +kernel
theorem dX3_pay_0 : decode cX3_pay 0 = .ok (.aload_n 0, 1) := by decide +kernel
theorem dX3_pay_1 : decode cX3_pay 1 = .ok (.getfield 11, 3) := by decide +kernel
theorem dX3_pay_4 : decode cX3_pay 4 = .ok (.iconst 2, 1) := by decide +kernel
theorem dX3_pay_5 : decode cX3_pay 5 = .ok (.iload_n 1, 1) := by decide +kernel
theorem dX3_pay_6 : decode cX3_pay 6 = .ok (.iadd, 1) := by decide +kernel
theorem dX3_pay_7 : decode cX3_pay 7 = .ok (.aload_n 0, 1) := by decide +kernel
theorem dX3_pay_8 : decode cX3_pay 8 = .ok (.getfield 11, 3) := by decide +kernel
theorem dX3_pay_11 : decode cX3_pay 11 = .ok (.iconst 2, 1) := by decide +kernel
theorem dX3_pay_12 : decode cX3_pay 12 = .ok (.iload_n 1, 1) := by decide +kernel
theorem dX3_pay_13 : decode cX3_pay 13 = .ok (.iadd, 1) := by decide +kernel
theorem dX3_pay_14 : decode cX3_pay 14 = .ok (.invokestatic 40, 3) := by decide +kernel
theorem dX3_pay_17 : decode cX3_pay 17 = .ok (.iload_n 2, 1) := by decide +kernel
theorem dX3_pay_18 : decode cX3_pay 18 = .ok (.iadd, 1) := by decide +kernel
theorem dX3_pay_19 : decode cX3_pay 19 = .ok (.invokestatic 25, 3) := by decide +kernel
theorem dX3_pay_22 : decode cX3_pay 22 = .ok (.return_, 1) := by decide +kernel
theorem dX3_passDay_0 : decode cX3_passDay 0 = .ok (.iconst 0, 1) := by decide +kernel
theorem dX3_passDay_1 : decode cX3_passDay 1 = .ok (.istore_n 1, 1) := by decide +kernel
theorem dX3_passDay_2 : decode cX3_passDay 2 = .ok (.iconst 0, 1) := by decide +kernel
theorem dX3_passDay_3 : decode cX3_passDay 3 = .ok (.istore_n 2, 1) := by decide +kernel
theorem dX3_passDay_4 : decode cX3_passDay 4 = .ok (.iload_n 2, 1) := by decide +kernel
theorem dX3_passDay_5 : decode cX3_passDay 5 = .ok (.aload_n 0, 1) := by decide +kernel
theorem dX3_passDay_6 : decode cX3_passDay 6 = .ok (.getfield 15, 3) := by decide +kernel
theorem dX3_passDay_9 : decode cX3_passDay 9 = .ok (.getfield 53, 3) := by decide +kernel
theorem dX3_passDay_12 : decode cX3_passDay 12 = .ok (.if_icmp .ge 40, 3) := by decide +kernel
theorem dX3_passDay_15 : decode cX3_passDay 15 = .ok (.aload_n 0, 1) := by decide +kernel
theorem dX3_passDay_16 : decode cX3_passDay 16 = .ok (.getfield 15, 3) := by decide +kernel
theorem dX3_passDay_19 : decode cX3_passDay 19 = .ok (.iload_n 2, 1) := by decide +kernel
theorem dX3_passDay_20 : decode cX3_passDay 20 = .ok (.invokevirtual 102, 3) := by decide +kernel
theorem dX3_passDay_23 : decode cX3_passDay 23 = .ok (.aload_n 0, 1) := by decide +kernel
theorem dX3_passDay_24 : decode cX3_passDay 24 = .ok (.invokevirtual 65, 3) := by decide +kernel
theorem dX3_passDay_27 : decode cX3_passDay 27 = .ok (.if_icmp .ne 19, 3) := by decide +kernel
theorem dX3_passDay_30 : decode cX3_passDay 30 = .ok (.iload_n 1, 1) := by decide +kernel
theorem dX3_passDay_31 : decode cX3_passDay 31 = .ok (.aload_n 0, 1) := by decide +kernel
theorem dX3_passDay_32 : decode cX3_passDay 32 = .ok (.iload_n 2, 1) := by decide +kernel
theorem dX3_passDay_33 : decode cX3_passDay 33 = .ok (.invokevirtual 105, 3) := by decide +kernel
theorem dX3_passDay_36 : decode cX3_passDay 36 = .ok (.ifCond .eq 7, 3) := by decide +kernel
theorem dX3_passDay_39 : decode cX3_passDay 39 = .ok (.iconst 1, 1) := by decide +kernel
theorem dX3_passDay_40 : decode cX3_passDay 40 = .ok (.goto 4, 3) := by decide +kernel
theorem dX3_passDay_43 : decode cX3_passDay 43 = .ok (.iconst 0, 1) := by decide +kernel
theorem dX3_passDay_44 : decode cX3_passDay 44 = .ok (.iadd, 1) := by decide +kernel
theorem dX3_passDay_45 : decode cX3_passDay 45 = .ok (.istore_n 1, 1) := by decide +kernel
theorem dX3_passDay_46 : decode cX3_passDay 46 = .ok (.iinc 2 1, 3) := by decide +kernel
theorem dX3_passDay_49 : decode cX3_passDay 49 = .ok (.goto (-45), 3) := by decide +kernel
theorem dX3_passDay_52 : decode cX3_passDay 52 = .ok (.aload_n 0, 1) := by decide +kernel
theorem dX3_passDay_53 : decode cX3_passDay 53 = .ok (.getfield 11, 3) := by decide +kernel
theorem dX3_passDay_56 : decode cX3_passDay 56 = .ok (.iconst 1, 1) := by decide +kernel
theorem dX3_passDay_57 : decode cX3_passDay 57 = .ok (.aload_n 0, 1) := by decide +kernel
theorem dX3_passDay_58 : decode cX3_passDay 58 = .ok (.invokevirtual 65, 3) := by decide +kernel
theorem dX3_passDay_61 : decode cX3_passDay 61 = .ok (.iconst 1, 1) := by decide +kernel
theorem dX3_passDay_62 : decode cX3_passDay 62 = .ok (.iadd, 1) := by decide +kernel
theorem dX3_passDay_63 : decode cX3_passDay 63 = .ok (.invokestatic 25, 3) := by decide +kernel
theorem dX3_passDay_66 : decode cX3_passDay 66 = .ok (.aload_n 0, 1) := by decide +kernel
theorem dX3_passDay_67 : decode cX3_passDay 67 = .ok (.invokevirtual 108, 3) := by decide +kernel
theorem dX3_passDay_70 : decode cX3_passDay 70 = .ok (.iload_n 1, 1) := by decide +kernel
theorem dX3_passDay_71 : decode cX3_passDay 71 = .ok (.ireturn, 1) := by decide +kernel
theorem dX3_tryDeed_0 : decode cX3_tryDeed 0 = .ok (.aload_n 0, 1) := by decide +kernel
theorem dX3_tryDeed_1 : decode cX3_tryDeed 1 = .ok (.getfield 15, 3) := by decide +kernel
theorem dX3_tryDeed_4 : decode cX3_tryDeed 4 = .ok (.iload_n 1, 1) := by decide +kernel
theorem dX3_tryDeed_5 : decode cX3_tryDeed 5 = .ok (.invokevirtual 111, 3) := by decide +kernel
theorem dX3_tryDeed_8 : decode cX3_tryDeed 8 = .ok (.istore_n 2, 1) := by decide +kernel
theorem dX3_tryDeed_9 : decode cX3_tryDeed 9 = .ok (.aload_n 0, 1) := by decide +kernel
theorem dX3_tryDeed_10 : decode cX3_tryDeed 10 = .ok (.iload_n 2, 1) := by decide +kernel
theorem dX3_tryDeed_11 : decode cX3_tryDeed 11 = .ok (.invokevirtual 50, 3) := by decide +kernel
theorem dX3_tryDeed_14 : decode cX3_tryDeed 14 = .ok (.ifCond .eq 17, 3) := by decide +kernel
theorem dX3_tryDeed_17 : decode cX3_tryDeed 17 = .ok (.aload_n 0, 1) := by decide +kernel
theorem dX3_tryDeed_18 : decode cX3_tryDeed 18 = .ok (.getfield 11, 3) := by decide +kernel
theorem dX3_tryDeed_21 : decode cX3_tryDeed 21 = .ok (.bipush 15, 2) := by decide +kernel
theorem dX3_tryDeed_23 : decode cX3_tryDeed 23 = .ok (.iload_n 1, 1) := by decide +kernel
theorem dX3_tryDeed_24 : decode cX3_tryDeed 24 = .ok (.iadd, 1) := by decide +kernel
theorem dX3_tryDeed_25 : decode cX3_tryDeed 25 = .ok (.iconst 2, 1) := by decide +kernel
theorem dX3_tryDeed_26 : decode cX3_tryDeed 26 = .ok (.invokestatic 25, 3) := by decide +kernel
theorem dX3_tryDeed_29 : decode cX3_tryDeed 29 = .ok (.iconst 0, 1) := by decide +kernel
theorem dX3_tryDeed_30 : decode cX3_tryDeed 30 = .ok (.ireturn, 1) := by decide +kernel
theorem dX3_tryDeed_31 : decode cX3_tryDeed 31 = .ok (.aload_n 0, 1) := by decide +kernel
theorem dX3_tryDeed_32 : decode cX3_tryDeed 32 = .ok (.getfield 11, 3) := by decide +kernel
theorem dX3_tryDeed_35 : decode cX3_tryDeed 35 = .ok (.bipush 15, 2) := by decide +kernel
theorem dX3_tryDeed_37 : decode cX3_tryDeed 37 = .ok (.iload_n 1, 1) := by decide +kernel
theorem dX3_tryDeed_38 : decode cX3_tryDeed 38 = .ok (.iadd, 1) := by decide +kernel
theorem dX3_tryDeed_39 : decode cX3_tryDeed 39 = .ok (.iconst 1, 1) := by decide +kernel
theorem dX3_tryDeed_40 : decode cX3_tryDeed 40 = .ok (.invokestatic 25, 3) := by decide +kernel
theorem dX3_tryDeed_43 : decode cX3_tryDeed 43 = .ok (.aload_n 0, 1) := by decide +kernel
theorem dX3_tryDeed_44 : decode cX3_tryDeed 44 = .ok (.aload_n 0, 1) := by decide +kernel
theorem dX3_tryDeed_45 : decode cX3_tryDeed 45 = .ok (.getfield 15, 3) := by decide +kernel
theorem dX3_tryDeed_48 : decode cX3_tryDeed 48 = .ok (.iload_n 2, 1) := by decide +kernel
theorem dX3_tryDeed_49 : decode cX3_tryDeed 49 = .ok (.invokevirtual 76, 3) := by decide +kernel
theorem dX3_tryDeed_52 : decode cX3_tryDeed 52 = .ok (.aload_n 0, 1) := by decide +kernel
theorem dX3_tryDeed_53 : decode cX3_tryDeed 53 = .ok (.getfield 15, 3) := by decide +kernel
theorem dX3_tryDeed_56 : decode cX3_tryDeed 56 = .ok (.iload_n 1, 1) := by decide +kernel
theorem dX3_tryDeed_57 : decode cX3_tryDeed 57 = .ok (.invokevirtual 114, 3) := by decide +kernel
theorem dX3_tryDeed_60 : decode cX3_tryDeed 60 = .ok (.invokevirtual 92, 3) := by decide +kernel
theorem dX3_tryDeed_63 : decode cX3_tryDeed 63 = .ok (.iconst 1, 1) := by decide +kernel
theorem dX3_tryDeed_64 : decode cX3_tryDeed 64 = .ok (.ireturn, 1) := by decide +kernel
theorem dX3_sellOverdue_0 : decode cX3_sellOverdue 0 = .ok (.iconst 0, 1) := by decide +kernel
theorem dX3_sellOverdue_1 : decode cX3_sellOverdue 1 = .ok (.istore_n 1, 1) := by decide +kernel
theorem dX3_sellOverdue_2 : decode cX3_sellOverdue 2 = .ok (.iload_n 1, 1) := by decide +kernel
theorem dX3_sellOverdue_3 : decode cX3_sellOverdue 3 = .ok (.aload_n 0, 1) := by decide +kernel
theorem dX3_sellOverdue_4 : decode cX3_sellOverdue 4 = .ok (.getfield 15, 3) := by decide +kernel
theorem dX3_sellOverdue_7 : decode cX3_sellOverdue 7 = .ok (.getfield 47, 3) := by decide +kernel
theorem dX3_sellOverdue_10 : decode cX3_sellOverdue 10 = .ok (.if_icmp .ge 66, 3) := by decide +kernel
theorem dX3_sellOverdue_13 : decode cX3_sellOverdue 13 = .ok (.aload_n 0, 1) := by decide +kernel
theorem dX3_sellOverdue_14 : decode cX3_sellOverdue 14 = .ok (.iload_n 1, 1) := by decide +kernel
theorem dX3_sellOverdue_15 : decode cX3_sellOverdue 15 = .ok (.invokevirtual 50, 3) := by decide +kernel
theorem dX3_sellOverdue_18 : decode cX3_sellOverdue 18 = .ok (.iconst 1, 1) := by decide +kernel
theorem dX3_sellOverdue_19 : decode cX3_sellOverdue 19 = .ok (.if_icmp .ne 22, 3) := by decide +kernel
theorem dX3_sellOverdue_22 : decode cX3_sellOverdue 22 = .ok (.aload_n 0, 1) := by decide +kernel
theorem dX3_sellOverdue_23 : decode cX3_sellOverdue 23 = .ok (.invokevirtual 65, 3) := by decide +kernel
theorem dX3_sellOverdue_26 : decode cX3_sellOverdue 26 = .ok (.aload_n 0, 1) := by decide +kernel
theorem dX3_sellOverdue_27 : decode cX3_sellOverdue 27 = .ok (.iload_n 1, 1) := by decide +kernel
theorem dX3_sellOverdue_28 : decode cX3_sellOverdue 28 = .ok (.invokevirtual 69, 3) := by decide +kernel
theorem dX3_sellOverdue_31 : decode cX3_sellOverdue 31 = .ok (.isub, 1) := by decide +kernel
theorem dX3_sellOverdue_32 : decode cX3_sellOverdue 32 = .ok (.bipush 9, 2) := by decide +kernel
theorem dX3_sellOverdue_34 : decode cX3_sellOverdue 34 = .ok (.if_icmp .lt 7, 3) := by decide +kernel
theorem dX3_sellOverdue_37 : decode cX3_sellOverdue 37 = .ok (.iconst 1, 1) := by decide +kernel
theorem dX3_sellOverdue_38 : decode cX3_sellOverdue 38 = .ok (.goto 4, 3) := by decide +kernel
theorem dX3_sellOverdue_41 : decode cX3_sellOverdue 41 = .ok (.iconst 0, 1) := by decide +kernel
theorem dX3_sellOverdue_42 : decode cX3_sellOverdue 42 = .ok (.istore_n 2, 1) := by decide +kernel
theorem dX3_sellOverdue_43 : decode cX3_sellOverdue 43 = .ok (.iload_n 2, 1) := by decide +kernel
theorem dX3_sellOverdue_44 : decode cX3_sellOverdue 44 = .ok (.ifCond .eq 26, 3) := by decide +kernel
theorem dX3_sellOverdue_47 : decode cX3_sellOverdue 47 = .ok (.aload_n 0, 1) := by decide +kernel
theorem dX3_sellOverdue_48 : decode cX3_sellOverdue 48 = .ok (.getfield 15, 3) := by decide +kernel
theorem dX3_sellOverdue_51 : decode cX3_sellOverdue 51 = .ok (.iload_n 1, 1) := by decide +kernel
theorem dX3_sellOverdue_52 : decode cX3_sellOverdue 52 = .ok (.invokevirtual 59, 3) := by decide +kernel
theorem dX3_sellOverdue_55 : decode cX3_sellOverdue 55 = .ok (.iconst 3, 1) := by decide +kernel
theorem dX3_sellOverdue_56 : decode cX3_sellOverdue 56 = .ok (.if_icmp .eq 14, 3) := by decide +kernel
theorem dX3_sellOverdue_59 : decode cX3_sellOverdue 59 = .ok (.aload_n 0, 1) := by decide +kernel
theorem dX3_sellOverdue_60 : decode cX3_sellOverdue 60 = .ok (.getfield 11, 3) := by decide +kernel
theorem dX3_sellOverdue_63 : decode cX3_sellOverdue 63 = .ok (.iconst 5, 1) := by decide +kernel
theorem dX3_sellOverdue_64 : decode cX3_sellOverdue 64 = .ok (.iload_n 1, 1) := by decide +kernel
theorem dX3_sellOverdue_65 : decode cX3_sellOverdue 65 = .ok (.iadd, 1) := by decide +kernel
theorem dX3_sellOverdue_66 : decode cX3_sellOverdue 66 = .ok (.iconst 2, 1) := by decide +kernel
theorem dX3_sellOverdue_67 : decode cX3_sellOverdue 67 = .ok (.invokestatic 25, 3) := by decide +kernel
theorem dX3_sellOverdue_70 : decode cX3_sellOverdue 70 = .ok (.iinc 1 1, 3) := by decide +kernel
theorem dX3_sellOverdue_73 : decode cX3_sellOverdue 73 = .ok (.goto (-71), 3) := by decide +kernel
theorem dX3_sellOverdue_76 : decode cX3_sellOverdue 76 = .ok (.return_, 1) := by decide +kernel
theorem dX3_deedsInTheEnd_0 : decode cX3_deedsInTheEnd 0 = .ok (.iconst 0, 1) := by decide +kernel
theorem dX3_deedsInTheEnd_1 : decode cX3_deedsInTheEnd 1 = .ok (.istore_n 1, 1) := by decide +kernel
theorem dX3_deedsInTheEnd_2 : decode cX3_deedsInTheEnd 2 = .ok (.iload_n 1, 1) := by decide +kernel
theorem dX3_deedsInTheEnd_3 : decode cX3_deedsInTheEnd 3 = .ok (.bipush 20, 2) := by decide +kernel
theorem dX3_deedsInTheEnd_5 : decode cX3_deedsInTheEnd 5 = .ok (.if_icmp .ge 14, 3) := by decide +kernel
theorem dX3_deedsInTheEnd_8 : decode cX3_deedsInTheEnd 8 = .ok (.aload_n 0, 1) := by decide +kernel
theorem dX3_deedsInTheEnd_9 : decode cX3_deedsInTheEnd 9 = .ok (.invokevirtual 117, 3) := by decide +kernel
theorem dX3_deedsInTheEnd_12 : decode cX3_deedsInTheEnd 12 = .ok (.pop, 1) := by decide +kernel
theorem dX3_deedsInTheEnd_13 : decode cX3_deedsInTheEnd 13 = .ok (.iinc 1 1, 3) := by decide +kernel
theorem dX3_deedsInTheEnd_16 : decode cX3_deedsInTheEnd 16 = .ok (.goto (-14), 3) := by decide +kernel
theorem dX3_deedsInTheEnd_19 : decode cX3_deedsInTheEnd 19 = .ok (.aload_n 0, 1) := by decide +kernel
theorem dX3_deedsInTheEnd_20 : decode cX3_deedsInTheEnd 20 = .ok (.iconst 1, 1) := by decide +kernel
theorem dX3_deedsInTheEnd_21 : decode cX3_deedsInTheEnd 21 = .ok (.invokevirtual 120, 3) := by decide +kernel
theorem dX3_deedsInTheEnd_24 : decode cX3_deedsInTheEnd 24 = .ok (.ireturn, 1) := by decide +kernel
theorem dX3_sellAllBut_0 : decode cX3_sellAllBut 0 = .ok (.iconst 0, 1) := by decide +kernel
theorem dX3_sellAllBut_1 : decode cX3_sellAllBut 1 = .ok (.istore_n 2, 1) := by decide +kernel
theorem dX3_sellAllBut_2 : decode cX3_sellAllBut 2 = .ok (.iload_n 2, 1) := by decide +kernel
theorem dX3_sellAllBut_3 : decode cX3_sellAllBut 3 = .ok (.aload_n 0, 1) := by decide +kernel
theorem dX3_sellAllBut_4 : decode cX3_sellAllBut 4 = .ok (.getfield 15, 3) := by decide +kernel
theorem dX3_sellAllBut_7 : decode cX3_sellAllBut 7 = .ok (.getfield 47, 3) := by decide +kernel
theorem dX3_sellAllBut_10 : decode cX3_sellAllBut 10 = .ok (.if_icmp .ge 25, 3) := by decide +kernel
theorem dX3_sellAllBut_13 : decode cX3_sellAllBut 13 = .ok (.iload_n 2, 1) := by decide +kernel
theorem dX3_sellAllBut_14 : decode cX3_sellAllBut 14 = .ok (.iload_n 1, 1) := by decide +kernel
theorem dX3_sellAllBut_15 : decode cX3_sellAllBut 15 = .ok (.if_icmp .eq 14, 3) := by decide +kernel
theorem dX3_sellAllBut_18 : decode cX3_sellAllBut 18 = .ok (.aload_n 0, 1) := by decide +kernel
theorem dX3_sellAllBut_19 : decode cX3_sellAllBut 19 = .ok (.getfield 11, 3) := by decide +kernel
theorem dX3_sellAllBut_22 : decode cX3_sellAllBut 22 = .ok (.iconst 5, 1) := by decide +kernel
theorem dX3_sellAllBut_23 : decode cX3_sellAllBut 23 = .ok (.iload_n 2, 1) := by decide +kernel
theorem dX3_sellAllBut_24 : decode cX3_sellAllBut 24 = .ok (.iadd, 1) := by decide +kernel
theorem dX3_sellAllBut_25 : decode cX3_sellAllBut 25 = .ok (.iconst 2, 1) := by decide +kernel
theorem dX3_sellAllBut_26 : decode cX3_sellAllBut 26 = .ok (.invokestatic 25, 3) := by decide +kernel
theorem dX3_sellAllBut_29 : decode cX3_sellAllBut 29 = .ok (.iinc 2 1, 3) := by decide +kernel
theorem dX3_sellAllBut_32 : decode cX3_sellAllBut 32 = .ok (.goto (-30), 3) := by decide +kernel
theorem dX3_sellAllBut_35 : decode cX3_sellAllBut 35 = .ok (.return_, 1) := by decide +kernel
theorem dX3_settle_0 : decode cX3_settle 0 = .ok (.iconst 0, 1) := by decide +kernel
theorem dX3_settle_1 : decode cX3_settle 1 = .ok (.istore_n 2, 1) := by decide +kernel
theorem dX3_settle_2 : decode cX3_settle 2 = .ok (.iload_n 2, 1) := by decide +kernel
theorem dX3_settle_3 : decode cX3_settle 3 = .ok (.aload_n 0, 1) := by decide +kernel
theorem dX3_settle_4 : decode cX3_settle 4 = .ok (.getfield 15, 3) := by decide +kernel
theorem dX3_settle_7 : decode cX3_settle 7 = .ok (.getfield 47, 3) := by decide +kernel
theorem dX3_settle_10 : decode cX3_settle 10 = .ok (.if_icmp .ge 42, 3) := by decide +kernel
theorem dX3_settle_13 : decode cX3_settle 13 = .ok (.aload_n 0, 1) := by decide +kernel
theorem dX3_settle_14 : decode cX3_settle 14 = .ok (.iload_n 2, 1) := by decide +kernel
theorem dX3_settle_15 : decode cX3_settle 15 = .ok (.invokevirtual 50, 3) := by decide +kernel
theorem dX3_settle_18 : decode cX3_settle 18 = .ok (.iconst 1, 1) := by decide +kernel
theorem dX3_settle_19 : decode cX3_settle 19 = .ok (.if_icmp .ne 27, 3) := by decide +kernel
theorem dX3_settle_22 : decode cX3_settle 22 = .ok (.aload_n 0, 1) := by decide +kernel
theorem dX3_settle_23 : decode cX3_settle 23 = .ok (.getfield 11, 3) := by decide +kernel
theorem dX3_settle_26 : decode cX3_settle 26 = .ok (.iconst 5, 1) := by decide +kernel
theorem dX3_settle_27 : decode cX3_settle 27 = .ok (.iload_n 2, 1) := by decide +kernel
theorem dX3_settle_28 : decode cX3_settle 28 = .ok (.iadd, 1) := by decide +kernel
theorem dX3_settle_29 : decode cX3_settle 29 = .ok (.iload_n 1, 1) := by decide +kernel
theorem dX3_settle_30 : decode cX3_settle 30 = .ok (.iload_n 2, 1) := by decide +kernel
theorem dX3_settle_31 : decode cX3_settle 31 = .ok (.ishr, 1) := by decide +kernel
theorem dX3_settle_32 : decode cX3_settle 32 = .ok (.iconst 1, 1) := by decide +kernel
theorem dX3_settle_33 : decode cX3_settle 33 = .ok (.iand, 1) := by decide +kernel
theorem dX3_settle_34 : decode cX3_settle 34 = .ok (.iconst 1, 1) := by decide +kernel
theorem dX3_settle_35 : decode cX3_settle 35 = .ok (.if_icmp .ne 7, 3) := by decide +kernel
theorem dX3_settle_38 : decode cX3_settle 38 = .ok (.iconst 2, 1) := by decide +kernel
theorem dX3_settle_39 : decode cX3_settle 39 = .ok (.goto 4, 3) := by decide +kernel
theorem dX3_settle_42 : decode cX3_settle 42 = .ok (.iconst 0, 1) := by decide +kernel
theorem dX3_settle_43 : decode cX3_settle 43 = .ok (.invokestatic 25, 3) := by decide +kernel
theorem dX3_settle_46 : decode cX3_settle 46 = .ok (.iinc 2 1, 3) := by decide +kernel
theorem dX3_settle_49 : decode cX3_settle 49 = .ok (.goto (-47), 3) := by decide +kernel
theorem dX3_settle_52 : decode cX3_settle 52 = .ok (.return_, 1) := by decide +kernel
theorem dX5_dueFor_0 : decode cX5_dueFor 0 = .ok (.iload_n 0, 1) := by decide +kernel
theorem dX5_dueFor_1 : decode cX5_dueFor 1 = .ok (.tableswitch 52 1 3 #[27, 33, 50], 27) := by decide +kernel
theorem dX5_dueFor_28 : decode cX5_dueFor 28 = .ok (.iload_n 1, 1) := by decide +kernel
theorem dX5_dueFor_29 : decode cX5_dueFor 29 = .ok (.iconst 2, 1) := by decide +kernel
theorem dX5_dueFor_30 : decode cX5_dueFor 30 = .ok (.iload_n 2, 1) := by decide +kernel
theorem dX5_dueFor_31 : decode cX5_dueFor 31 = .ok (.imul, 1) := by decide +kernel
theorem dX5_dueFor_32 : decode cX5_dueFor 32 = .ok (.iadd, 1) := by decide +kernel
theorem dX5_dueFor_33 : decode cX5_dueFor 33 = .ok (.ireturn, 1) := by decide +kernel
theorem dX5_dueFor_34 : decode cX5_dueFor 34 = .ok (.iload_n 3, 1) := by decide +kernel
theorem dX5_dueFor_35 : decode cX5_dueFor 35 = .ok (.bipush 7, 2) := by decide +kernel
theorem dX5_dueFor_37 : decode cX5_dueFor 37 = .ok (.irem, 1) := by decide +kernel
theorem dX5_dueFor_38 : decode cX5_dueFor 38 = .ok (.bipush 6, 2) := by decide +kernel
theorem dX5_dueFor_40 : decode cX5_dueFor 40 = .ok (.if_icmp .ne 7, 3) := by decide +kernel
theorem dX5_dueFor_43 : decode cX5_dueFor 43 = .ok (.iload_n 1, 1) := by decide +kernel
theorem dX5_dueFor_44 : decode cX5_dueFor 44 = .ok (.goto 6, 3) := by decide +kernel
theorem dX5_dueFor_47 : decode cX5_dueFor 47 = .ok (.iload_n 1, 1) := by decide +kernel
theorem dX5_dueFor_48 : decode cX5_dueFor 48 = .ok (.iload_n 2, 1) := by decide +kernel
theorem dX5_dueFor_49 : decode cX5_dueFor 49 = .ok (.iadd, 1) := by decide +kernel
theorem dX5_dueFor_50 : decode cX5_dueFor 50 = .ok (.ireturn, 1) := by decide +kernel
theorem dX5_dueFor_51 : decode cX5_dueFor 51 = .ok (.iload_n 1, 1) := by decide +kernel
theorem dX5_dueFor_52 : decode cX5_dueFor 52 = .ok (.ireturn, 1) := by decide +kernel
theorem dX5_dueFor_53 : decode cX5_dueFor 53 = .ok (.iload_n 1, 1) := by decide +kernel
theorem dX5_dueFor_54 : decode cX5_dueFor 54 = .ok (.iload_n 2, 1) := by decide +kernel
theorem dX5_dueFor_55 : decode cX5_dueFor 55 = .ok (.iadd, 1) := by decide +kernel
theorem dX5_dueFor_56 : decode cX5_dueFor 56 = .ok (.ireturn, 1) := by decide +kernel
theorem dX5_cell_0 : decode cX5_cell 0 = .ok (.iload_n 1, 1) := by decide +kernel
theorem dX5_cell_1 : decode cX5_cell 1 = .ok (.ifCond .lt 15, 3) := by decide +kernel
theorem dX5_cell_4 : decode cX5_cell 4 = .ok (.iload_n 1, 1) := by decide +kernel
theorem dX5_cell_5 : decode cX5_cell 5 = .ok (.aload_n 0, 1) := by decide +kernel
theorem dX5_cell_6 : decode cX5_cell 6 = .ok (.arraylength, 1) := by decide +kernel
theorem dX5_cell_7 : decode cX5_cell 7 = .ok (.if_icmp .ge 9, 3) := by decide +kernel
theorem dX5_cell_10 : decode cX5_cell 10 = .ok (.aload_n 0, 1) := by decide +kernel
theorem dX5_cell_11 : decode cX5_cell 11 = .ok (.iload_n 1, 1) := by decide +kernel
theorem dX5_cell_12 : decode cX5_cell 12 = .ok (.iaload, 1) := by decide +kernel
theorem dX5_cell_13 : decode cX5_cell 13 = .ok (.goto 4, 3) := by decide +kernel
theorem dX5_cell_17 : decode cX5_cell 17 = .ok (.ireturn, 1) := by decide +kernel
theorem dX5_put_0 : decode cX5_put 0 = .ok (.iload_n 1, 1) := by decide +kernel
theorem dX5_put_1 : decode cX5_put 1 = .ok (.ifCond .lt 13, 3) := by decide +kernel
theorem dX5_put_4 : decode cX5_put 4 = .ok (.iload_n 1, 1) := by decide +kernel
theorem dX5_put_5 : decode cX5_put 5 = .ok (.aload_n 0, 1) := by decide +kernel
theorem dX5_put_6 : decode cX5_put 6 = .ok (.arraylength, 1) := by decide +kernel
theorem dX5_put_7 : decode cX5_put 7 = .ok (.if_icmp .ge 7, 3) := by decide +kernel
theorem dX5_put_10 : decode cX5_put 10 = .ok (.aload_n 0, 1) := by decide +kernel
theorem dX5_put_11 : decode cX5_put 11 = .ok (.iload_n 1, 1) := by decide +kernel
theorem dX5_put_12 : decode cX5_put 12 = .ok (.iload_n 2, 1) := by decide +kernel
theorem dX5_put_13 : decode cX5_put 13 = .ok (.iastore, 1) := by decide +kernel
theorem dX5_put_14 : decode cX5_put 14 = .ok (.return_, 1) := by decide +kernel
end
section
abbrev rm_X5_cell : Room := { frames := 0, cells := 0, slots := 0, locals := 0 }
set_option maxRecDepth 100000 in
set_option maxHeartbeats 4000000 in
theorem c_X5_cell (l : Launch) (D : va_G) (cI cZ : ClassId) (a : Nat) (n : Nat) (f : Nat → Int32) (k : Nat) (hk : k < n) (hn : n < 2 ^ 31) : CtI l yX5_cell wsX5_cell rm_X5_cell D cI cZ [.ref a, .int (nI k)] [(a, .inl (cI, n, .inl f))] (fun r (_ : Unit) => r = f k) (fun (_ : Unit) => [(a, .inl (cI, n, .inl f))]) 0 0 := by
  refine g_startI (ret := (some .int)) (own := RX5) (lv0 := [(0, .ref a), (1, .int (nI k))]) (by decide) rfl rfl (Nat.le_of_ble_eq_true rfl) rfl ?_
  intro p e s m args below meth cd A Q hin hr hQ hC
  refine g_iload_n hC 1 dX5_cell_0 rfl rfl ?_
  refine g_if_lt_n (a := k) hC (by omega) 16 dX5_cell_1 (by decide) (fun q => q.elim) (fun _ => ?_)
  refine g_iload_n hC 1 dX5_cell_4 rfl rfl ?_
  refine g_aload_n hC 0 dX5_cell_5 rfl rfl ?_
  refine g_alen hC 0 rfl dX5_cell_6 ?_
  refine g_icmp_ge_n (a := k) (b := n) hC (by omega) (by omega) 16 dX5_cell_7 (by decide) (fun q => (by omega : False).elim) (fun h7f => ?_)
  refine g_aload_n hC 0 dX5_cell_10 rfl rfl ?_
  refine g_iload_n hC 1 dX5_cell_11 rfl rfl ?_
  refine g_iald hC 0 rfl k rfl (by omega) (by omega) dX5_cell_12 ?_
  refine g_goto hC 17 dX5_cell_13 (by decide) ?_
  subst hQ
  refine g_iret (v := f k) hC () hr ?_ rfl dX5_cell_17
  rfl

abbrev rm_X5_put : Room := { frames := 0, cells := 0, slots := 0, locals := 0 }
set_option maxRecDepth 100000 in
set_option maxHeartbeats 4000000 in
theorem c_X5_put (l : Launch) (D : va_G) (cI cZ : ClassId) (a : Nat) (n : Nat) (f : Nat → Int32) (k : Nat) (v : Int32) (hk : k < n) (hn : n < 2 ^ 31) : CtV l yX5_put wsX5_put rm_X5_put D cI cZ [.ref a, .int (nI k), .int v] [(a, .inl (cI, n, .inl f))] (fun (_ : Unit) => True) (fun (_ : Unit) => [(a, .inl (cI, n, .inl (upd f k v)))]) 0 0 := by
  refine g_startV (ret := none) (own := RX5) (lv0 := [(0, .ref a), (1, .int (nI k)), (2, .int v)]) (by decide) rfl rfl (Nat.le_of_ble_eq_true rfl) rfl ?_
  intro p e s m args below meth cd A Q hin hr hQ hC
  refine g_iload_n hC 1 dX5_put_0 rfl rfl ?_
  refine g_if_lt_n (a := k) hC (by omega) 14 dX5_put_1 (by decide) (fun q => q.elim) (fun _ => ?_)
  refine g_iload_n hC 1 dX5_put_4 rfl rfl ?_
  refine g_aload_n hC 0 dX5_put_5 rfl rfl ?_
  refine g_alen hC 0 rfl dX5_put_6 ?_
  refine g_icmp_ge_n (a := k) (b := n) hC (by omega) (by omega) 14 dX5_put_7 (by decide) (fun q => (by omega : False).elim) (fun h7f => ?_)
  refine g_aload_n hC 0 dX5_put_10 rfl rfl ?_
  refine g_iload_n hC 1 dX5_put_11 rfl rfl ?_
  refine g_iload_n hC 2 dX5_put_12 rfl rfl ?_
  refine g_iast hC 0 rfl k rfl (by omega) (by omega) [(a, .inl (cI, n, .inl (upd f k v)))] rfl dX5_put_13 ?_
  subst hQ
  refine g_vret hC () hr ?_ rfl dX5_put_14
  trivial

abbrev rm_X2_ownerOf : Room := { frames := 1, cells := 0, slots := 0, locals := 21 }
set_option maxRecDepth 100000 in
set_option maxHeartbeats 4000000 in
theorem c_X2_ownerOf (l : Launch) (D : va_G) (cI cZ : ClassId) (hp : Nat) (r : Nat → Nat) (ti : Int32) (np : Nat) (nq : Nat) (nd : Nat) (P : Nat → Nat → Nat) (k : Nat) (hk : k < 5) : CtI l yX2_ownerOf wsX2_ownerOf rm_X2_ownerOf D cI cZ [.ref hp, .int (nI k)] [(hp, o2 r ti np nq nd), (r 1, .inl (cI, 5, .inl (fun k => nI (P 0 k))))] (fun r (_ : Unit) => r = nI (P 0 k)) (fun (_ : Unit) => [(hp, o2 r ti np nq nd), (r 1, .inl (cI, 5, .inl (fun k => nI (P 0 k))))]) 0 0 := by
  refine g_startI (ret := (some .int)) (own := RX2) (lv0 := [(0, .ref hp), (1, .int (nI k))]) (by decide) rfl rfl (Nat.le_of_ble_eq_true rfl) rfl ?_
  intro p e s m args below meth cd A Q hin hr hQ hC
  have hi2 : ∀ w ∈ wsX20, w ∈ wsX2_ownerOf := fun _ h => List.mem_cons_of_mem _ (List.mem_append_right _ h)
  have w1 := hC.1.2.2.2.2 (.fieldLink "PluckBroker$Plan" 15 "PluckBroker$Plan" "owners" "[I") (List.mem_of_getElem? (i := 1) rfl)
  have w2 := hC.1.2.2.2.2 (.static ⟨"PluckBroker", "cell", "([II)I"⟩) (List.mem_of_getElem? (i := 2) rfl)
  have w3 := hC.1.2.2.2.2 (.initialized "PluckBroker") (List.mem_of_getElem? (i := 3) rfl)
  refine g_aload_n hC 0 dX2_ownerOf_0 rfl rfl ?_
  refine g_get (C := RX2) (T := TX2) (N := 11) (ci := 2) (v := .ref (r 1)) hC hi2 0 rfl rfl 1 (by decide) w1 (fun _ h => h) rfl dX2_ownerOf_1 ?_
  refine g_iload_n hC 1 dX2_ownerOf_4 rfl rfl ?_
  refine g_callSNip (As := [.ref (r 1), .int (nI k)]) (rest := []) hC (nI (P 0 k)) (c_X5_cell l D cI cZ (r 1) 5 (fun k => nI (P 0 k)) k (by first | assumption | omega) (by first | assumption | omega)) ⟨va_cnB 2 hC.1.2.2.2.2 gX2_ownerOf_X5_cell_n50 rfl rfl rfl (hC.2.2.1.m 8 rfl) w3 dS_X5_cell ⟨Nat.le_of_ble_eq_true rfl, Nat.le_of_ble_eq_true rfl⟩, w2, trivial⟩ rfl rfl (Nat.le_of_ble_eq_true rfl) dX2_ownerOf_5 ⟨Nat.le_of_ble_eq_true rfl, Nat.le_of_ble_eq_true rfl⟩ [1] rfl rfl ?_
  subst hQ
  refine g_iret (v := nI (P 0 k)) hC () hr ?_ rfl dX2_ownerOf_8
  rfl

abbrev rm_X2_worthOf : Room := { frames := 1, cells := 0, slots := 0, locals := 21 }
set_option maxRecDepth 100000 in
set_option maxHeartbeats 4000000 in
theorem c_X2_worthOf (l : Launch) (D : va_G) (cI cZ : ClassId) (hp : Nat) (r : Nat → Nat) (ti : Int32) (np : Nat) (nq : Nat) (nd : Nat) (P : Nat → Nat → Nat) (k : Nat) (hk : k < 5) : CtI l yX2_worthOf wsX2_worthOf rm_X2_worthOf D cI cZ [.ref hp, .int (nI k)] [(hp, o2 r ti np nq nd), (r 2, .inl (cI, 5, .inl (fun k => nI (P 1 k))))] (fun r (_ : Unit) => r = nI (P 1 k)) (fun (_ : Unit) => [(hp, o2 r ti np nq nd), (r 2, .inl (cI, 5, .inl (fun k => nI (P 1 k))))]) 0 0 := by
  refine g_startI (ret := (some .int)) (own := RX2) (lv0 := [(0, .ref hp), (1, .int (nI k))]) (by decide) rfl rfl (Nat.le_of_ble_eq_true rfl) rfl ?_
  intro p e s m args below meth cd A Q hin hr hQ hC
  have hi2 : ∀ w ∈ wsX20, w ∈ wsX2_worthOf := fun _ h => List.mem_cons_of_mem _ (List.mem_append_right _ h)
  have w1 := hC.1.2.2.2.2 (.fieldLink "PluckBroker$Plan" 18 "PluckBroker$Plan" "worths" "[I") (List.mem_of_getElem? (i := 1) rfl)
  have w2 := hC.1.2.2.2.2 (.static ⟨"PluckBroker", "cell", "([II)I"⟩) (List.mem_of_getElem? (i := 2) rfl)
  have w3 := hC.1.2.2.2.2 (.initialized "PluckBroker") (List.mem_of_getElem? (i := 3) rfl)
  refine g_aload_n hC 0 dX2_worthOf_0 rfl rfl ?_
  refine g_get (C := RX2) (T := TX2) (N := 11) (ci := 2) (v := .ref (r 2)) hC hi2 0 rfl rfl 2 (by decide) w1 (fun _ h => h) rfl dX2_worthOf_1 ?_
  refine g_iload_n hC 1 dX2_worthOf_4 rfl rfl ?_
  refine g_callSNip (As := [.ref (r 2), .int (nI k)]) (rest := []) hC (nI (P 1 k)) (c_X5_cell l D cI cZ (r 2) 5 (fun k => nI (P 1 k)) k (by first | assumption | omega) (by first | assumption | omega)) ⟨va_cnB 2 hC.1.2.2.2.2 gX2_worthOf_X5_cell_n50 rfl rfl rfl (hC.2.2.1.m 8 rfl) w3 dS_X5_cell ⟨Nat.le_of_ble_eq_true rfl, Nat.le_of_ble_eq_true rfl⟩, w2, trivial⟩ rfl rfl (Nat.le_of_ble_eq_true rfl) dX2_worthOf_5 ⟨Nat.le_of_ble_eq_true rfl, Nat.le_of_ble_eq_true rfl⟩ [1] rfl rfl ?_
  subst hQ
  refine g_iret (v := nI (P 1 k)) hC () hr ?_ rfl dX2_worthOf_8
  rfl

abbrev rm_X2_kindOf : Room := { frames := 1, cells := 0, slots := 0, locals := 21 }
set_option maxRecDepth 100000 in
set_option maxHeartbeats 4000000 in
theorem c_X2_kindOf (l : Launch) (D : va_G) (cI cZ : ClassId) (hp : Nat) (r : Nat → Nat) (ti : Int32) (np : Nat) (nq : Nat) (nd : Nat) (P : Nat → Nat → Nat) (k : Nat) (hk : k < 5) : CtI l yX2_kindOf wsX2_kindOf rm_X2_kindOf D cI cZ [.ref hp, .int (nI k)] [(hp, o2 r ti np nq nd), (r 3, .inl (cI, 5, .inl (fun k => nI (P 2 k))))] (fun r (_ : Unit) => r = nI (P 2 k)) (fun (_ : Unit) => [(hp, o2 r ti np nq nd), (r 3, .inl (cI, 5, .inl (fun k => nI (P 2 k))))]) 0 0 := by
  refine g_startI (ret := (some .int)) (own := RX2) (lv0 := [(0, .ref hp), (1, .int (nI k))]) (by decide) rfl rfl (Nat.le_of_ble_eq_true rfl) rfl ?_
  intro p e s m args below meth cd A Q hin hr hQ hC
  have hi2 : ∀ w ∈ wsX20, w ∈ wsX2_kindOf := fun _ h => List.mem_cons_of_mem _ (List.mem_append_right _ h)
  have w1 := hC.1.2.2.2.2 (.fieldLink "PluckBroker$Plan" 21 "PluckBroker$Plan" "kinds" "[I") (List.mem_of_getElem? (i := 1) rfl)
  have w2 := hC.1.2.2.2.2 (.static ⟨"PluckBroker", "cell", "([II)I"⟩) (List.mem_of_getElem? (i := 2) rfl)
  have w3 := hC.1.2.2.2.2 (.initialized "PluckBroker") (List.mem_of_getElem? (i := 3) rfl)
  refine g_aload_n hC 0 dX2_kindOf_0 rfl rfl ?_
  refine g_get (C := RX2) (T := TX2) (N := 11) (ci := 2) (v := .ref (r 3)) hC hi2 0 rfl rfl 3 (by decide) w1 (fun _ h => h) rfl dX2_kindOf_1 ?_
  refine g_iload_n hC 1 dX2_kindOf_4 rfl rfl ?_
  refine g_callSNip (As := [.ref (r 3), .int (nI k)]) (rest := []) hC (nI (P 2 k)) (c_X5_cell l D cI cZ (r 3) 5 (fun k => nI (P 2 k)) k (by first | assumption | omega) (by first | assumption | omega)) ⟨va_cnB 2 hC.1.2.2.2.2 gX2_kindOf_X5_cell_n50 rfl rfl rfl (hC.2.2.1.m 8 rfl) w3 dS_X5_cell ⟨Nat.le_of_ble_eq_true rfl, Nat.le_of_ble_eq_true rfl⟩, w2, trivial⟩ rfl rfl (Nat.le_of_ble_eq_true rfl) dX2_kindOf_5 ⟨Nat.le_of_ble_eq_true rfl, Nat.le_of_ble_eq_true rfl⟩ [1] rfl rfl ?_
  subst hQ
  refine g_iret (v := nI (P 2 k)) hC () hr ?_ rfl dX2_kindOf_8
  rfl

abbrev rm_X2_wantedBy : Room := { frames := 1, cells := 0, slots := 0, locals := 21 }
set_option maxRecDepth 100000 in
set_option maxHeartbeats 4000000 in
theorem c_X2_wantedBy (l : Launch) (D : va_G) (cI cZ : ClassId) (hp : Nat) (r : Nat → Nat) (ti : Int32) (np : Nat) (nq : Nat) (nd : Nat) (P : Nat → Nat → Nat) (k : Nat) (hk : k < 5) : CtI l yX2_wantedBy wsX2_wantedBy rm_X2_wantedBy D cI cZ [.ref hp, .int (nI k)] [(hp, o2 r ti np nq nd), (r 4, .inl (cI, 5, .inl (fun k => nI (P 3 k))))] (fun r (_ : Unit) => r = nI (P 3 k)) (fun (_ : Unit) => [(hp, o2 r ti np nq nd), (r 4, .inl (cI, 5, .inl (fun k => nI (P 3 k))))]) 0 0 := by
  refine g_startI (ret := (some .int)) (own := RX2) (lv0 := [(0, .ref hp), (1, .int (nI k))]) (by decide) rfl rfl (Nat.le_of_ble_eq_true rfl) rfl ?_
  intro p e s m args below meth cd A Q hin hr hQ hC
  have hi2 : ∀ w ∈ wsX20, w ∈ wsX2_wantedBy := fun _ h => List.mem_cons_of_mem _ (List.mem_append_right _ h)
  have w1 := hC.1.2.2.2.2 (.fieldLink "PluckBroker$Plan" 24 "PluckBroker$Plan" "wanted" "[I") (List.mem_of_getElem? (i := 1) rfl)
  have w2 := hC.1.2.2.2.2 (.static ⟨"PluckBroker", "cell", "([II)I"⟩) (List.mem_of_getElem? (i := 2) rfl)
  have w3 := hC.1.2.2.2.2 (.initialized "PluckBroker") (List.mem_of_getElem? (i := 3) rfl)
  refine g_aload_n hC 0 dX2_wantedBy_0 rfl rfl ?_
  refine g_get (C := RX2) (T := TX2) (N := 11) (ci := 2) (v := .ref (r 4)) hC hi2 0 rfl rfl 4 (by decide) w1 (fun _ h => h) rfl dX2_wantedBy_1 ?_
  refine g_iload_n hC 1 dX2_wantedBy_4 rfl rfl ?_
  refine g_callSNip (As := [.ref (r 4), .int (nI k)]) (rest := []) hC (nI (P 3 k)) (c_X5_cell l D cI cZ (r 4) 5 (fun k => nI (P 3 k)) k (by first | assumption | omega) (by first | assumption | omega)) ⟨va_cnB 2 hC.1.2.2.2.2 gX2_wantedBy_X5_cell_n50 rfl rfl rfl (hC.2.2.1.m 8 rfl) w3 dS_X5_cell ⟨Nat.le_of_ble_eq_true rfl, Nat.le_of_ble_eq_true rfl⟩, w2, trivial⟩ rfl rfl (Nat.le_of_ble_eq_true rfl) dX2_wantedBy_5 ⟨Nat.le_of_ble_eq_true rfl, Nat.le_of_ble_eq_true rfl⟩ [1] rfl rfl ?_
  subst hQ
  refine g_iret (v := nI (P 3 k)) hC () hr ?_ rfl dX2_wantedBy_8
  rfl

abbrev rm_X2_dayOf : Room := { frames := 1, cells := 0, slots := 0, locals := 21 }
set_option maxRecDepth 100000 in
set_option maxHeartbeats 4000000 in
theorem c_X2_dayOf (l : Launch) (D : va_G) (cI cZ : ClassId) (hp : Nat) (r : Nat → Nat) (ti : Int32) (np : Nat) (nq : Nat) (nd : Nat) (P : Nat → Nat → Nat) (k : Nat) (hk : k < 5) : CtI l yX2_dayOf wsX2_dayOf rm_X2_dayOf D cI cZ [.ref hp, .int (nI k)] [(hp, o2 r ti np nq nd), (r 5, .inl (cI, 5, .inl (fun k => nI (P 4 k))))] (fun r (_ : Unit) => r = nI (P 4 k)) (fun (_ : Unit) => [(hp, o2 r ti np nq nd), (r 5, .inl (cI, 5, .inl (fun k => nI (P 4 k))))]) 0 0 := by
  refine g_startI (ret := (some .int)) (own := RX2) (lv0 := [(0, .ref hp), (1, .int (nI k))]) (by decide) rfl rfl (Nat.le_of_ble_eq_true rfl) rfl ?_
  intro p e s m args below meth cd A Q hin hr hQ hC
  have hi2 : ∀ w ∈ wsX20, w ∈ wsX2_dayOf := fun _ h => List.mem_cons_of_mem _ (List.mem_append_right _ h)
  have w1 := hC.1.2.2.2.2 (.fieldLink "PluckBroker$Plan" 27 "PluckBroker$Plan" "onDays" "[I") (List.mem_of_getElem? (i := 1) rfl)
  have w2 := hC.1.2.2.2.2 (.static ⟨"PluckBroker", "cell", "([II)I"⟩) (List.mem_of_getElem? (i := 2) rfl)
  have w3 := hC.1.2.2.2.2 (.initialized "PluckBroker") (List.mem_of_getElem? (i := 3) rfl)
  refine g_aload_n hC 0 dX2_dayOf_0 rfl rfl ?_
  refine g_get (C := RX2) (T := TX2) (N := 11) (ci := 2) (v := .ref (r 5)) hC hi2 0 rfl rfl 5 (by decide) w1 (fun _ h => h) rfl dX2_dayOf_1 ?_
  refine g_iload_n hC 1 dX2_dayOf_4 rfl rfl ?_
  refine g_callSNip (As := [.ref (r 5), .int (nI k)]) (rest := []) hC (nI (P 4 k)) (c_X5_cell l D cI cZ (r 5) 5 (fun k => nI (P 4 k)) k (by first | assumption | omega) (by first | assumption | omega)) ⟨va_cnB 2 hC.1.2.2.2.2 gX2_dayOf_X5_cell_n50 rfl rfl rfl (hC.2.2.1.m 8 rfl) w3 dS_X5_cell ⟨Nat.le_of_ble_eq_true rfl, Nat.le_of_ble_eq_true rfl⟩, w2, trivial⟩ rfl rfl (Nat.le_of_ble_eq_true rfl) dX2_dayOf_5 ⟨Nat.le_of_ble_eq_true rfl, Nat.le_of_ble_eq_true rfl⟩ [1] rfl rfl ?_
  subst hQ
  refine g_iret (v := nI (P 4 k)) hC () hr ?_ rfl dX2_dayOf_8
  rfl

abbrev rm_X2_rewardOf : Room := { frames := 1, cells := 0, slots := 0, locals := 21 }
set_option maxRecDepth 100000 in
set_option maxHeartbeats 4000000 in
theorem c_X2_rewardOf (l : Launch) (D : va_G) (cI cZ : ClassId) (hp : Nat) (r : Nat → Nat) (ti : Int32) (np : Nat) (nq : Nat) (nd : Nat) (P : Nat → Nat → Nat) (k : Nat) (hk : k < 5) : CtI l yX2_rewardOf wsX2_rewardOf rm_X2_rewardOf D cI cZ [.ref hp, .int (nI k)] [(hp, o2 r ti np nq nd), (r 6, .inl (cI, 5, .inl (fun k => nI (P 5 k))))] (fun r (_ : Unit) => r = nI (P 5 k)) (fun (_ : Unit) => [(hp, o2 r ti np nq nd), (r 6, .inl (cI, 5, .inl (fun k => nI (P 5 k))))]) 0 0 := by
  refine g_startI (ret := (some .int)) (own := RX2) (lv0 := [(0, .ref hp), (1, .int (nI k))]) (by decide) rfl rfl (Nat.le_of_ble_eq_true rfl) rfl ?_
  intro p e s m args below meth cd A Q hin hr hQ hC
  have hi2 : ∀ w ∈ wsX20, w ∈ wsX2_rewardOf := fun _ h => List.mem_cons_of_mem _ (List.mem_append_right _ h)
  have w1 := hC.1.2.2.2.2 (.fieldLink "PluckBroker$Plan" 30 "PluckBroker$Plan" "rewards" "[I") (List.mem_of_getElem? (i := 1) rfl)
  have w2 := hC.1.2.2.2.2 (.static ⟨"PluckBroker", "cell", "([II)I"⟩) (List.mem_of_getElem? (i := 2) rfl)
  have w3 := hC.1.2.2.2.2 (.initialized "PluckBroker") (List.mem_of_getElem? (i := 3) rfl)
  refine g_aload_n hC 0 dX2_rewardOf_0 rfl rfl ?_
  refine g_get (C := RX2) (T := TX2) (N := 11) (ci := 2) (v := .ref (r 6)) hC hi2 0 rfl rfl 6 (by decide) w1 (fun _ h => h) rfl dX2_rewardOf_1 ?_
  refine g_iload_n hC 1 dX2_rewardOf_4 rfl rfl ?_
  refine g_callSNip (As := [.ref (r 6), .int (nI k)]) (rest := []) hC (nI (P 5 k)) (c_X5_cell l D cI cZ (r 6) 5 (fun k => nI (P 5 k)) k (by first | assumption | omega) (by first | assumption | omega)) ⟨va_cnB 2 hC.1.2.2.2.2 gX2_rewardOf_X5_cell_n50 rfl rfl rfl (hC.2.2.1.m 8 rfl) w3 dS_X5_cell ⟨Nat.le_of_ble_eq_true rfl, Nat.le_of_ble_eq_true rfl⟩, w2, trivial⟩ rfl rfl (Nat.le_of_ble_eq_true rfl) dX2_rewardOf_5 ⟨Nat.le_of_ble_eq_true rfl, Nat.le_of_ble_eq_true rfl⟩ [1] rfl rfl ?_
  subst hQ
  refine g_iret (v := nI (P 5 k)) hC () hr ?_ rfl dX2_rewardOf_8
  rfl

abbrev rm_X2_firstPurseOf : Room := { frames := 1, cells := 0, slots := 0, locals := 21 }
set_option maxRecDepth 100000 in
set_option maxHeartbeats 4000000 in
theorem c_X2_firstPurseOf (l : Launch) (D : va_G) (cI cZ : ClassId) (hp : Nat) (r : Nat → Nat) (ti : Int32) (np : Nat) (nq : Nat) (nd : Nat) (pu : Nat → Int32) (k : Nat) (hk : k < 3) : CtI l yX2_firstPurseOf wsX2_firstPurseOf rm_X2_firstPurseOf D cI cZ [.ref hp, .int (nI k)] [(hp, o2 r ti np nq nd), (r 0, .inl (cI, 3, .inl pu))] (fun r (_ : Unit) => r = pu k) (fun (_ : Unit) => [(hp, o2 r ti np nq nd), (r 0, .inl (cI, 3, .inl pu))]) 0 0 := by
  refine g_startI (ret := (some .int)) (own := RX2) (lv0 := [(0, .ref hp), (1, .int (nI k))]) (by decide) rfl rfl (Nat.le_of_ble_eq_true rfl) rfl ?_
  intro p e s m args below meth cd A Q hin hr hQ hC
  have hi2 : ∀ w ∈ wsX20, w ∈ wsX2_firstPurseOf := fun _ h => List.mem_cons_of_mem _ (List.mem_append_right _ h)
  have w1 := hC.1.2.2.2.2 (.fieldLink "PluckBroker$Plan" 9 "PluckBroker$Plan" "purses" "[I") (List.mem_of_getElem? (i := 1) rfl)
  have w2 := hC.1.2.2.2.2 (.static ⟨"PluckBroker", "cell", "([II)I"⟩) (List.mem_of_getElem? (i := 2) rfl)
  have w3 := hC.1.2.2.2.2 (.initialized "PluckBroker") (List.mem_of_getElem? (i := 3) rfl)
  refine g_aload_n hC 0 dX2_firstPurseOf_0 rfl rfl ?_
  refine g_get (C := RX2) (T := TX2) (N := 11) (ci := 2) (v := .ref (r 0)) hC hi2 0 rfl rfl 0 (by decide) w1 (fun _ h => h) rfl dX2_firstPurseOf_1 ?_
  refine g_iload_n hC 1 dX2_firstPurseOf_4 rfl rfl ?_
  refine g_callSNip (As := [.ref (r 0), .int (nI k)]) (rest := []) hC (pu k) (c_X5_cell l D cI cZ (r 0) 3 pu k (by first | assumption | omega) (by first | assumption | omega)) ⟨va_cnB 2 hC.1.2.2.2.2 gX2_firstPurseOf_X5_cell_n50 rfl rfl rfl (hC.2.2.1.m 8 rfl) w3 dS_X5_cell ⟨Nat.le_of_ble_eq_true rfl, Nat.le_of_ble_eq_true rfl⟩, w2, trivial⟩ rfl rfl (Nat.le_of_ble_eq_true rfl) dX2_firstPurseOf_5 ⟨Nat.le_of_ble_eq_true rfl, Nat.le_of_ble_eq_true rfl⟩ [1] rfl rfl ?_
  subst hQ
  refine g_iret (v := pu k) hC () hr ?_ rfl dX2_firstPurseOf_8
  rfl

abbrev rm_X2_hasPerson : Room := { frames := 0, cells := 0, slots := 0, locals := 0 }
set_option maxRecDepth 100000 in
set_option maxHeartbeats 4000000 in
theorem c_X2_hasPerson (l : Launch) (D : va_G) (cI cZ : ClassId) (hp : Nat) (r : Nat → Nat) (ti : Int32) (np : Nat) (nq : Nat) (nd : Nat) (a : Int32) (hb : np ≤ 5) : CtI l yX2_hasPerson wsX2_hasPerson rm_X2_hasPerson D cI cZ [.ref hp, .int a] [(hp, o2 r ti np nq nd)] (fun r (_ : Unit) => r = bI (inR a np)) (fun (_ : Unit) => [(hp, o2 r ti np nq nd)]) 0 0 := by
  refine g_startI (ret := (some .boolean)) (own := RX2) (lv0 := [(0, .ref hp), (1, .int a)]) (by decide) rfl rfl (Nat.le_of_ble_eq_true rfl) rfl ?_
  intro p e s m args below meth cd A Q hin hr hQ hC
  have hi2 : ∀ w ∈ wsX20, w ∈ wsX2_hasPerson := fun _ h => List.mem_cons_of_mem _ (List.mem_append_right _ h)
  have w1 := hC.1.2.2.2.2 (.fieldLink "PluckBroker$Plan" 37 "PluckBroker$Plan" "persons" "I") (List.mem_of_getElem? (i := 1) rfl)
  refine g_iload_n hC 1 dX2_hasPerson_0 rfl rfl ?_
  refine g_if_lt hC 16 dX2_hasPerson_1 (by decide) (fun h1t => ?_) (fun h1f => ?_)
  · refine g_iconst (v := nI 0) hC dX2_hasPerson_16 rfl ?_
    subst hQ
    refine g_zret (v := nI 0) hC () hr (by decide +kernel) ?_ rfl dX2_hasPerson_17
    exact (bI_f (fun q => absurd q.1 (Int32.not_le.mpr h1t))).symm
  refine g_iload_n hC 1 dX2_hasPerson_4 rfl rfl ?_
  refine g_aload_n hC 0 dX2_hasPerson_5 rfl rfl ?_
  refine g_get (C := RX2) (T := TX2) (N := 11) (ci := 2) (v := .int (nI np)) hC hi2 0 rfl rfl 8 (by decide) w1 (fun _ h => h) rfl dX2_hasPerson_6 ?_
  refine g_icmp_ge hC 16 dX2_hasPerson_9 (by decide) (fun h9t => ?_) (fun h9f => ?_)
  · refine g_iconst (v := nI 0) hC dX2_hasPerson_16 rfl ?_
    subst hQ
    refine g_zret (v := nI 0) hC () hr (by decide +kernel) ?_ rfl dX2_hasPerson_17
    exact (bI_f (fun q => absurd q.2 (Int32.not_lt.mpr h9t))).symm
  refine g_iconst (v := nI 1) hC dX2_hasPerson_12 rfl ?_
  refine g_goto hC 17 dX2_hasPerson_13 (by decide) ?_
  subst hQ
  refine g_zret (v := nI 1) hC () hr (by decide +kernel) ?_ rfl dX2_hasPerson_17
  exact (bI_t ⟨Int32.not_lt.mp h1f, Int32.not_le.mp h9f⟩).symm

abbrev rm_X2_hasQuality : Room := { frames := 0, cells := 0, slots := 0, locals := 0 }
set_option maxRecDepth 100000 in
set_option maxHeartbeats 4000000 in
theorem c_X2_hasQuality (l : Launch) (D : va_G) (cI cZ : ClassId) (hp : Nat) (r : Nat → Nat) (ti : Int32) (np : Nat) (nq : Nat) (nd : Nat) (a : Int32) (hb : nq ≤ 5) : CtI l yX2_hasQuality wsX2_hasQuality rm_X2_hasQuality D cI cZ [.ref hp, .int a] [(hp, o2 r ti np nq nd)] (fun r (_ : Unit) => r = bI (inR a nq)) (fun (_ : Unit) => [(hp, o2 r ti np nq nd)]) 0 0 := by
  refine g_startI (ret := (some .boolean)) (own := RX2) (lv0 := [(0, .ref hp), (1, .int a)]) (by decide) rfl rfl (Nat.le_of_ble_eq_true rfl) rfl ?_
  intro p e s m args below meth cd A Q hin hr hQ hC
  have hi2 : ∀ w ∈ wsX20, w ∈ wsX2_hasQuality := fun _ h => List.mem_cons_of_mem _ (List.mem_append_right _ h)
  have w1 := hC.1.2.2.2.2 (.fieldLink "PluckBroker$Plan" 40 "PluckBroker$Plan" "qualities" "I") (List.mem_of_getElem? (i := 1) rfl)
  refine g_iload_n hC 1 dX2_hasQuality_0 rfl rfl ?_
  refine g_if_lt hC 16 dX2_hasQuality_1 (by decide) (fun h1t => ?_) (fun h1f => ?_)
  · refine g_iconst (v := nI 0) hC dX2_hasQuality_16 rfl ?_
    subst hQ
    refine g_zret (v := nI 0) hC () hr (by decide +kernel) ?_ rfl dX2_hasQuality_17
    exact (bI_f (fun q => absurd q.1 (Int32.not_le.mpr h1t))).symm
  refine g_iload_n hC 1 dX2_hasQuality_4 rfl rfl ?_
  refine g_aload_n hC 0 dX2_hasQuality_5 rfl rfl ?_
  refine g_get (C := RX2) (T := TX2) (N := 11) (ci := 2) (v := .int (nI nq)) hC hi2 0 rfl rfl 9 (by decide) w1 (fun _ h => h) rfl dX2_hasQuality_6 ?_
  refine g_icmp_ge hC 16 dX2_hasQuality_9 (by decide) (fun h9t => ?_) (fun h9f => ?_)
  · refine g_iconst (v := nI 0) hC dX2_hasQuality_16 rfl ?_
    subst hQ
    refine g_zret (v := nI 0) hC () hr (by decide +kernel) ?_ rfl dX2_hasQuality_17
    exact (bI_f (fun q => absurd q.2 (Int32.not_lt.mpr h9t))).symm
  refine g_iconst (v := nI 1) hC dX2_hasQuality_12 rfl ?_
  refine g_goto hC 17 dX2_hasQuality_13 (by decide) ?_
  subst hQ
  refine g_zret (v := nI 1) hC () hr (by decide +kernel) ?_ rfl dX2_hasQuality_17
  exact (bI_t ⟨Int32.not_lt.mp h1f, Int32.not_le.mp h9f⟩).symm

abbrev rm_X2_hasDeed : Room := { frames := 0, cells := 0, slots := 0, locals := 0 }
set_option maxRecDepth 100000 in
set_option maxHeartbeats 4000000 in
theorem c_X2_hasDeed (l : Launch) (D : va_G) (cI cZ : ClassId) (hp : Nat) (r : Nat → Nat) (ti : Int32) (np : Nat) (nq : Nat) (nd : Nat) (a : Int32) (hb : nd ≤ 5) : CtI l yX2_hasDeed wsX2_hasDeed rm_X2_hasDeed D cI cZ [.ref hp, .int a] [(hp, o2 r ti np nq nd)] (fun r (_ : Unit) => r = bI (inR a nd)) (fun (_ : Unit) => [(hp, o2 r ti np nq nd)]) 0 0 := by
  refine g_startI (ret := (some .boolean)) (own := RX2) (lv0 := [(0, .ref hp), (1, .int a)]) (by decide) rfl rfl (Nat.le_of_ble_eq_true rfl) rfl ?_
  intro p e s m args below meth cd A Q hin hr hQ hC
  have hi2 : ∀ w ∈ wsX20, w ∈ wsX2_hasDeed := fun _ h => List.mem_cons_of_mem _ (List.mem_append_right _ h)
  have w1 := hC.1.2.2.2.2 (.fieldLink "PluckBroker$Plan" 43 "PluckBroker$Plan" "deeds" "I") (List.mem_of_getElem? (i := 1) rfl)
  refine g_iload_n hC 1 dX2_hasDeed_0 rfl rfl ?_
  refine g_if_lt hC 16 dX2_hasDeed_1 (by decide) (fun h1t => ?_) (fun h1f => ?_)
  · refine g_iconst (v := nI 0) hC dX2_hasDeed_16 rfl ?_
    subst hQ
    refine g_zret (v := nI 0) hC () hr (by decide +kernel) ?_ rfl dX2_hasDeed_17
    exact (bI_f (fun q => absurd q.1 (Int32.not_le.mpr h1t))).symm
  refine g_iload_n hC 1 dX2_hasDeed_4 rfl rfl ?_
  refine g_aload_n hC 0 dX2_hasDeed_5 rfl rfl ?_
  refine g_get (C := RX2) (T := TX2) (N := 11) (ci := 2) (v := .int (nI nd)) hC hi2 0 rfl rfl 10 (by decide) w1 (fun _ h => h) rfl dX2_hasDeed_6 ?_
  refine g_icmp_ge hC 16 dX2_hasDeed_9 (by decide) (fun h9t => ?_) (fun h9f => ?_)
  · refine g_iconst (v := nI 0) hC dX2_hasDeed_16 rfl ?_
    subst hQ
    refine g_zret (v := nI 0) hC () hr (by decide +kernel) ?_ rfl dX2_hasDeed_17
    exact (bI_f (fun q => absurd q.2 (Int32.not_lt.mpr h9t))).symm
  refine g_iconst (v := nI 1) hC dX2_hasDeed_12 rfl ?_
  refine g_goto hC 17 dX2_hasDeed_13 (by decide) ?_
  subst hQ
  refine g_zret (v := nI 1) hC () hr (by decide +kernel) ?_ rfl dX2_hasDeed_17
  exact (bI_t ⟨Int32.not_lt.mp h1f, Int32.not_le.mp h9f⟩).symm

abbrev rm_X2_qualitiesOf : Room := { frames := 2, cells := 0, slots := 0, locals := 42 }
set_option maxRecDepth 100000 in
set_option maxHeartbeats 4000000 in
theorem c_X2_qualitiesOf (l : Launch) (D : va_G) (cI cZ : ClassId) (hp : Nat) (r : Nat → Nat) (ti : Int32) (np : Nat) (nq : Nat) (nd : Nat) (P : Nat → Nat → Nat) (a : Int32) (hb : nq ≤ 5) : CtI l yX2_qualitiesOf wsX2_qualitiesOf rm_X2_qualitiesOf D cI cZ [.ref hp, .int a] [(hp, o2 r ti np nq nd), (r 1, .inl (cI, 5, .inl (fun k => nI (P 0 k))))] (fun r (_ : Unit) => r = nI (ownB nq P a)) (fun (_ : Unit) => [(hp, o2 r ti np nq nd), (r 1, .inl (cI, 5, .inl (fun k => nI (P 0 k))))]) 0 0 := by
  refine g_startI (ret := (some .int)) (own := RX2) (lv0 := [(0, .ref hp), (1, .int a)]) (by decide) rfl rfl (Nat.le_of_ble_eq_true rfl) rfl ?_
  intro p e s m args below meth cd A Q hin hr hQ hC
  have hi2 : ∀ w ∈ wsX20, w ∈ wsX2_qualitiesOf := fun _ h => List.mem_cons_of_mem _ (List.mem_append_right _ h)
  have w1 := hC.1.2.2.2.2 (.fieldLink "PluckBroker$Plan" 40 "PluckBroker$Plan" "qualities" "I") (List.mem_of_getElem? (i := 1) rfl)
  refine g_iconst (v := nI 0) hC dX2_qualitiesOf_0 rfl ?_
  refine g_istore_n (lv' := [(0, .ref hp), (1, .int a), (2, .int (nI 0))]) hC [1, 2, 0] dX2_qualitiesOf_1 rfl (by decide) rfl ?_
  refine g_iconst (v := nI 0) hC dX2_qualitiesOf_2 rfl ?_
  refine g_istore_n (lv' := [(0, .ref hp), (1, .int a), (2, .int (nI 0)), (3, .int (nI 0))]) hC [1, 2, 3, 0] dX2_qualitiesOf_3 rfl (by decide) rfl ?_
  have L4 : ∀ (n : Nat) (i : Nat) (acc : Nat), (i ≤ nq) → (acc = bts i (fun q => decide (nI (P 0 q) = a))) → nq - i < n → G p l e rm_X2_qualitiesOf s m args below meth cd D A 0 0 Q 4 [(hp, o2 r ti np nq nd), (r 1, .inl (cI, 5, .inl (fun k => nI (P 0 k))))] 4 [(0, .ref hp), (1, .int a), (2, .int (nI acc)), (3, .int (nI i))] [] := by
    intro n
    induction n with
    | zero => intro i acc hi hacc hn; exact absurd hn (Nat.not_lt_zero _)
    | succ n ih4 =>
      intro i acc hi hacc hn
      refine g_iload_n hC 3 dX2_qualitiesOf_4 rfl rfl ?_
      refine g_aload_n hC 0 dX2_qualitiesOf_5 rfl rfl ?_
      refine g_get (C := RX2) (T := TX2) (N := 11) (ci := 2) (v := .int (nI nq)) hC hi2 0 rfl rfl 9 (by decide) w1 (fun _ h => h) rfl dX2_qualitiesOf_6 ?_
      refine g_icmp_ge_n (a := i) (b := nq) hC (by omega) (by omega) 37 dX2_qualitiesOf_9 (by decide) (fun h9t => ?_) (fun h9f => ?_)
      · refine g_iload_n hC 2 dX2_qualitiesOf_37 rfl rfl ?_
        subst hQ
        refine g_iret (v := nI acc) hC () hr ?_ rfl dX2_qualitiesOf_38
        have e : i = nq := by omega
        rw [e] at hacc; rw [hacc]; rfl
      refine g_iload_n hC 2 dX2_qualitiesOf_12 rfl rfl ?_
      refine g_aload_n hC 0 dX2_qualitiesOf_13 rfl rfl ?_
      refine g_iload_n hC 3 dX2_qualitiesOf_14 rfl rfl ?_
      refine g_callVip (As := [.int (nI i)]) (rest := [.int (nI acc)]) hC (nI (P 0 i)) (c_X2_ownerOf l D cI cZ hp r ti np nq nd P i (by first | assumption | omega)) (cwV 1 hC.1.2.2.2.2 gX2_qualitiesOf_X2_ownerOf rfl rfl rfl dV_X2_ownerOf ⟨Nat.le_of_ble_eq_true rfl, Nat.le_of_ble_eq_true rfl⟩) rfl rfl rfl rfl (Nat.le_of_ble_eq_true rfl) dX2_qualitiesOf_15 ⟨Nat.le_of_ble_eq_true rfl, Nat.le_of_ble_eq_true rfl⟩ [0, 1] rfl rfl ?_
      refine g_iload_n hC 1 dX2_qualitiesOf_18 rfl rfl ?_
      refine g_icmp_ne hC 28 dX2_qualitiesOf_19 (by decide) (fun h19t => ?_) (fun h19f => ?_)
      · refine g_iconst (v := nI 0) hC dX2_qualitiesOf_28 rfl ?_
        refine g_ior_n (a := acc) (b := 0) hC dX2_qualitiesOf_29 ?_
        refine g_istore_n (lv' := [(0, .ref hp), (1, .int a), (2, .int (nI (acc ||| 0))), (3, .int (nI i))]) hC [1, 2, 0, 3] dX2_qualitiesOf_30 rfl (by decide) rfl ?_
        refine g_iinc (v := nI (i + 1)) (lv' := [(0, .ref hp), (1, .int a), (2, .int (nI (acc ||| 0))), (3, .int (nI (i + 1)))]) hC 3 [1, 2, 3, 0] dX2_qualitiesOf_31 rfl (nI_add _ 1) (by decide) rfl ?_
        refine g_goto hC 4 dX2_qualitiesOf_34 (by decide) ?_
        refine ih4 (i + 1) (acc ||| 0) ?_ ?_ ?_
        · omega
        · rw [hacc]; exact bts_f (decide_eq_false h19t)
        · omega
      refine g_iconst (v := nI 1) hC dX2_qualitiesOf_22 rfl ?_
      refine g_iload_n hC 3 dX2_qualitiesOf_23 rfl rfl ?_
      refine g_shl1_n (b := i) hC (by omega) dX2_qualitiesOf_24 ?_
      refine g_goto hC 29 dX2_qualitiesOf_25 (by decide) ?_
      refine g_ior_n (a := acc) (b := (2 ^ i)) hC dX2_qualitiesOf_29 ?_
      refine g_istore_n (lv' := [(0, .ref hp), (1, .int a), (2, .int (nI (acc ||| (2 ^ i)))), (3, .int (nI i))]) hC [1, 2, 0, 3] dX2_qualitiesOf_30 rfl (by decide) rfl ?_
      refine g_iinc (v := nI (i + 1)) (lv' := [(0, .ref hp), (1, .int a), (2, .int (nI (acc ||| (2 ^ i)))), (3, .int (nI (i + 1)))]) hC 3 [1, 2, 3, 0] dX2_qualitiesOf_31 rfl (nI_add _ 1) (by decide) rfl ?_
      refine g_goto hC 4 dX2_qualitiesOf_34 (by decide) ?_
      refine ih4 (i + 1) (acc ||| (2 ^ i)) ?_ ?_ ?_
      · omega
      · rw [hacc]; exact bts_t (decide_eq_true h19f)
      · omega
  refine L4 _ 0 0 ?_ ?_ (Nat.lt_succ_self _)
  · omega
  · rfl

abbrev rm_X2_deedsOf : Room := { frames := 2, cells := 0, slots := 0, locals := 42 }
set_option maxRecDepth 100000 in
set_option maxHeartbeats 4000000 in
theorem c_X2_deedsOf (l : Launch) (D : va_G) (cI cZ : ClassId) (hp : Nat) (r : Nat → Nat) (ti : Int32) (np : Nat) (nq : Nat) (nd : Nat) (P : Nat → Nat → Nat) (a : Int32) (hW : WFP np nq nd P) : CtI l yX2_deedsOf wsX2_deedsOf rm_X2_deedsOf D cI cZ [.ref hp, .int a] [(hp, o2 r ti np nq nd), (r 1, .inl (cI, 5, .inl (fun k => nI (P 0 k)))), (r 4, .inl (cI, 5, .inl (fun k => nI (P 3 k))))] (fun r (_ : Unit) => r = nI (deedsB nd P a)) (fun (_ : Unit) => [(hp, o2 r ti np nq nd), (r 1, .inl (cI, 5, .inl (fun k => nI (P 0 k)))), (r 4, .inl (cI, 5, .inl (fun k => nI (P 3 k))))]) 0 0 := by
  refine g_startI (ret := (some .int)) (own := RX2) (lv0 := [(0, .ref hp), (1, .int a)]) (by decide) rfl rfl (Nat.le_of_ble_eq_true rfl) rfl ?_
  intro p e s m args below meth cd A Q hin hr hQ hC
  have hi2 : ∀ w ∈ wsX20, w ∈ wsX2_deedsOf := fun _ h => List.mem_cons_of_mem _ (List.mem_append_right _ h)
  have w1 := hC.1.2.2.2.2 (.fieldLink "PluckBroker$Plan" 43 "PluckBroker$Plan" "deeds" "I") (List.mem_of_getElem? (i := 1) rfl)
  have hb : nd ≤ 5 := hW.1.2.2
  have hb2 : nq ≤ 5 := hW.1.2.1
  have hw3 := fun d (h : d < nd) => (hW.2.2 d h).1
  refine g_iconst (v := nI 0) hC dX2_deedsOf_0 rfl ?_
  refine g_istore_n (lv' := [(0, .ref hp), (1, .int a), (2, .int (nI 0))]) hC [1, 2, 0] dX2_deedsOf_1 rfl (by decide) rfl ?_
  refine g_iconst (v := nI 0) hC dX2_deedsOf_2 rfl ?_
  refine g_istore_n (lv' := [(0, .ref hp), (1, .int a), (2, .int (nI 0)), (3, .int (nI 0))]) hC [1, 2, 3, 0] dX2_deedsOf_3 rfl (by decide) rfl ?_
  have L4 : ∀ (n : Nat) (i : Nat) (acc : Nat), (i ≤ nd) → (acc = bts i (fun d => decide (nI (P 0 (P 3 d)) = a))) → nd - i < n → G p l e rm_X2_deedsOf s m args below meth cd D A 0 0 Q 4 [(hp, o2 r ti np nq nd), (r 1, .inl (cI, 5, .inl (fun k => nI (P 0 k)))), (r 4, .inl (cI, 5, .inl (fun k => nI (P 3 k))))] 4 [(0, .ref hp), (1, .int a), (2, .int (nI acc)), (3, .int (nI i))] [] := by
    intro n
    induction n with
    | zero => intro i acc hi hacc hn; exact absurd hn (Nat.not_lt_zero _)
    | succ n ih4 =>
      intro i acc hi hacc hn
      refine g_iload_n hC 3 dX2_deedsOf_4 rfl rfl ?_
      refine g_aload_n hC 0 dX2_deedsOf_5 rfl rfl ?_
      refine g_get (C := RX2) (T := TX2) (N := 11) (ci := 2) (v := .int (nI nd)) hC hi2 0 rfl rfl 10 (by decide) w1 (fun _ h => h) rfl dX2_deedsOf_6 ?_
      refine g_icmp_ge_n (a := i) (b := nd) hC (by omega) (by omega) 41 dX2_deedsOf_9 (by decide) (fun h9t => ?_) (fun h9f => ?_)
      · refine g_iload_n hC 2 dX2_deedsOf_41 rfl rfl ?_
        subst hQ
        refine g_iret (v := nI acc) hC () hr ?_ rfl dX2_deedsOf_42
        have e : i = nd := by omega
        rw [e] at hacc; rw [hacc]; rfl
      have hw3i := hw3 i (by omega)
      refine g_iload_n hC 2 dX2_deedsOf_12 rfl rfl ?_
      refine g_aload_n hC 0 dX2_deedsOf_13 rfl rfl ?_
      refine g_aload_n hC 0 dX2_deedsOf_14 rfl rfl ?_
      refine g_iload_n hC 3 dX2_deedsOf_15 rfl rfl ?_
      refine g_callVip (As := [.int (nI i)]) (rest := [.ref hp, .int (nI acc)]) hC (nI (P 3 i)) (c_X2_wantedBy l D cI cZ hp r ti np nq nd P i (by first | assumption | omega)) (cwV 1 hC.1.2.2.2.2 gX2_deedsOf_X2_wantedBy rfl rfl rfl dV_X2_wantedBy ⟨Nat.le_of_ble_eq_true rfl, Nat.le_of_ble_eq_true rfl⟩) rfl rfl rfl rfl (Nat.le_of_ble_eq_true rfl) dX2_deedsOf_16 ⟨Nat.le_of_ble_eq_true rfl, Nat.le_of_ble_eq_true rfl⟩ [0, 2] rfl rfl ?_
      refine g_callVip (As := [.int (nI (P 3 i))]) (rest := [.int (nI acc)]) hC (nI (P 0 (P 3 i))) (c_X2_ownerOf l D cI cZ hp r ti np nq nd P (P 3 i) (by first | assumption | omega)) (cwV 1 hC.1.2.2.2.2 gX2_deedsOf_X2_ownerOf rfl rfl rfl dV_X2_ownerOf ⟨Nat.le_of_ble_eq_true rfl, Nat.le_of_ble_eq_true rfl⟩) rfl rfl rfl rfl (Nat.le_of_ble_eq_true rfl) dX2_deedsOf_19 ⟨Nat.le_of_ble_eq_true rfl, Nat.le_of_ble_eq_true rfl⟩ [0, 1] rfl rfl ?_
      refine g_iload_n hC 1 dX2_deedsOf_22 rfl rfl ?_
      refine g_icmp_ne hC 32 dX2_deedsOf_23 (by decide) (fun h23t => ?_) (fun h23f => ?_)
      · refine g_iconst (v := nI 0) hC dX2_deedsOf_32 rfl ?_
        refine g_ior_n (a := acc) (b := 0) hC dX2_deedsOf_33 ?_
        refine g_istore_n (lv' := [(0, .ref hp), (1, .int a), (2, .int (nI (acc ||| 0))), (3, .int (nI i))]) hC [1, 2, 0, 3] dX2_deedsOf_34 rfl (by decide) rfl ?_
        refine g_iinc (v := nI (i + 1)) (lv' := [(0, .ref hp), (1, .int a), (2, .int (nI (acc ||| 0))), (3, .int (nI (i + 1)))]) hC 3 [1, 2, 3, 0] dX2_deedsOf_35 rfl (nI_add _ 1) (by decide) rfl ?_
        refine g_goto hC 4 dX2_deedsOf_38 (by decide) ?_
        refine ih4 (i + 1) (acc ||| 0) ?_ ?_ ?_
        · omega
        · rw [hacc]; exact bts_f (decide_eq_false h23t)
        · omega
      refine g_iconst (v := nI 1) hC dX2_deedsOf_26 rfl ?_
      refine g_iload_n hC 3 dX2_deedsOf_27 rfl rfl ?_
      refine g_shl1_n (b := i) hC (by omega) dX2_deedsOf_28 ?_
      refine g_goto hC 33 dX2_deedsOf_29 (by decide) ?_
      refine g_ior_n (a := acc) (b := (2 ^ i)) hC dX2_deedsOf_33 ?_
      refine g_istore_n (lv' := [(0, .ref hp), (1, .int a), (2, .int (nI (acc ||| (2 ^ i)))), (3, .int (nI i))]) hC [1, 2, 0, 3] dX2_deedsOf_34 rfl (by decide) rfl ?_
      refine g_iinc (v := nI (i + 1)) (lv' := [(0, .ref hp), (1, .int a), (2, .int (nI (acc ||| (2 ^ i)))), (3, .int (nI (i + 1)))]) hC 3 [1, 2, 3, 0] dX2_deedsOf_35 rfl (nI_add _ 1) (by decide) rfl ?_
      refine g_goto hC 4 dX2_deedsOf_38 (by decide) ?_
      refine ih4 (i + 1) (acc ||| (2 ^ i)) ?_ ?_ ?_
      · omega
      · rw [hacc]; exact bts_t (decide_eq_true h23f)
      · omega
  refine L4 _ 0 0 ?_ ?_ (Nat.lt_succ_self _)
  · omega
  · rfl

abbrev rm_X3_inTill : Room := { frames := 1, cells := 0, slots := 0, locals := 21 }
set_option maxRecDepth 100000 in
set_option maxHeartbeats 4000000 in
theorem c_X3_inTill (l : Launch) (D : va_G) (cI cZ : ClassId) (hs : Nat) (hp : Nat) (hc : Nat) (c : Nat → Int32) : CtI l yX3_inTill wsX3_inTill rm_X3_inTill D cI cZ [.ref hs] [(hs, .inr (3, [.ref hp, .ref hc])), (hc, .inl (cI, 20, .inl c))] (fun r (_ : Unit) => r = c 0) (fun (_ : Unit) => [(hs, .inr (3, [.ref hp, .ref hc])), (hc, .inl (cI, 20, .inl c))]) 0 0 := by
  refine g_startI (ret := (some .int)) (own := RX3) (lv0 := [(0, .ref hs)]) (by decide) rfl rfl (Nat.le_of_ble_eq_true rfl) rfl ?_
  intro p e s m args below meth cd A Q hin hr hQ hC
  have hi3 : ∀ w ∈ wsX30, w ∈ wsX3_inTill := fun _ h => List.mem_cons_of_mem _ (List.mem_append_right _ h)
  have w1 := hC.1.2.2.2.2 (.fieldLink "PluckBroker$State" 11 "PluckBroker$State" "cells" "[I") (List.mem_of_getElem? (i := 1) rfl)
  have w2 := hC.1.2.2.2.2 (.static ⟨"PluckBroker", "cell", "([II)I"⟩) (List.mem_of_getElem? (i := 2) rfl)
  have w3 := hC.1.2.2.2.2 (.initialized "PluckBroker") (List.mem_of_getElem? (i := 3) rfl)
  refine g_aload_n hC 0 dX3_inTill_0 rfl rfl ?_
  refine g_get (C := RX3) (T := TX3) (N := 2) (ci := 3) (v := .ref hc) hC hi3 0 rfl rfl 1 (by decide) w1 (fun _ h => h) rfl dX3_inTill_1 ?_
  refine g_iconst (v := nI 0) hC dX3_inTill_4 rfl ?_
  refine g_callSNip (As := [.ref hc, .int (nI 0)]) (rest := []) hC (c 0) (c_X5_cell l D cI cZ hc 20 c 0 (by first | assumption | omega) (by first | assumption | omega)) ⟨va_cnB 2 hC.1.2.2.2.2 gX3_inTill_X5_cell_n40 rfl rfl rfl (hC.2.2.1.m 9 rfl) w3 dS_X5_cell ⟨Nat.le_of_ble_eq_true rfl, Nat.le_of_ble_eq_true rfl⟩, w2, trivial⟩ rfl rfl (Nat.le_of_ble_eq_true rfl) dX3_inTill_5 ⟨Nat.le_of_ble_eq_true rfl, Nat.le_of_ble_eq_true rfl⟩ [1] rfl rfl ?_
  subst hQ
  refine g_iret (v := c 0) hC () hr ?_ rfl dX3_inTill_8
  rfl

abbrev rm_X3_today : Room := { frames := 1, cells := 0, slots := 0, locals := 21 }
set_option maxRecDepth 100000 in
set_option maxHeartbeats 4000000 in
theorem c_X3_today (l : Launch) (D : va_G) (cI cZ : ClassId) (hs : Nat) (hp : Nat) (hc : Nat) (c : Nat → Int32) : CtI l yX3_today wsX3_today rm_X3_today D cI cZ [.ref hs] [(hs, .inr (3, [.ref hp, .ref hc])), (hc, .inl (cI, 20, .inl c))] (fun r (_ : Unit) => r = c 1) (fun (_ : Unit) => [(hs, .inr (3, [.ref hp, .ref hc])), (hc, .inl (cI, 20, .inl c))]) 0 0 := by
  refine g_startI (ret := (some .int)) (own := RX3) (lv0 := [(0, .ref hs)]) (by decide) rfl rfl (Nat.le_of_ble_eq_true rfl) rfl ?_
  intro p e s m args below meth cd A Q hin hr hQ hC
  have hi3 : ∀ w ∈ wsX30, w ∈ wsX3_today := fun _ h => List.mem_cons_of_mem _ (List.mem_append_right _ h)
  have w1 := hC.1.2.2.2.2 (.fieldLink "PluckBroker$State" 11 "PluckBroker$State" "cells" "[I") (List.mem_of_getElem? (i := 1) rfl)
  have w2 := hC.1.2.2.2.2 (.static ⟨"PluckBroker", "cell", "([II)I"⟩) (List.mem_of_getElem? (i := 2) rfl)
  have w3 := hC.1.2.2.2.2 (.initialized "PluckBroker") (List.mem_of_getElem? (i := 3) rfl)
  refine g_aload_n hC 0 dX3_today_0 rfl rfl ?_
  refine g_get (C := RX3) (T := TX3) (N := 2) (ci := 3) (v := .ref hc) hC hi3 0 rfl rfl 1 (by decide) w1 (fun _ h => h) rfl dX3_today_1 ?_
  refine g_iconst (v := nI 1) hC dX3_today_4 rfl ?_
  refine g_callSNip (As := [.ref hc, .int (nI 1)]) (rest := []) hC (c 1) (c_X5_cell l D cI cZ hc 20 c 1 (by first | assumption | omega) (by first | assumption | omega)) ⟨va_cnB 2 hC.1.2.2.2.2 gX3_today_X5_cell_n40 rfl rfl rfl (hC.2.2.1.m 9 rfl) w3 dS_X5_cell ⟨Nat.le_of_ble_eq_true rfl, Nat.le_of_ble_eq_true rfl⟩, w2, trivial⟩ rfl rfl (Nat.le_of_ble_eq_true rfl) dX3_today_5 ⟨Nat.le_of_ble_eq_true rfl, Nat.le_of_ble_eq_true rfl⟩ [1] rfl rfl ?_
  subst hQ
  refine g_iret (v := c 1) hC () hr ?_ rfl dX3_today_8
  rfl

abbrev rm_X3_purseOf : Room := { frames := 1, cells := 0, slots := 0, locals := 21 }
set_option maxRecDepth 100000 in
set_option maxHeartbeats 4000000 in
theorem c_X3_purseOf (l : Launch) (D : va_G) (cI cZ : ClassId) (hs : Nat) (hp : Nat) (hc : Nat) (c : Nat → Int32) (k : Nat) (hk : k < 3) : CtI l yX3_purseOf wsX3_purseOf rm_X3_purseOf D cI cZ [.ref hs, .int (nI k)] [(hs, .inr (3, [.ref hp, .ref hc])), (hc, .inl (cI, 20, .inl c))] (fun r (_ : Unit) => r = c (2 + k)) (fun (_ : Unit) => [(hs, .inr (3, [.ref hp, .ref hc])), (hc, .inl (cI, 20, .inl c))]) 0 0 := by
  refine g_startI (ret := (some .int)) (own := RX3) (lv0 := [(0, .ref hs), (1, .int (nI k))]) (by decide) rfl rfl (Nat.le_of_ble_eq_true rfl) rfl ?_
  intro p e s m args below meth cd A Q hin hr hQ hC
  have hi3 : ∀ w ∈ wsX30, w ∈ wsX3_purseOf := fun _ h => List.mem_cons_of_mem _ (List.mem_append_right _ h)
  have w1 := hC.1.2.2.2.2 (.fieldLink "PluckBroker$State" 11 "PluckBroker$State" "cells" "[I") (List.mem_of_getElem? (i := 1) rfl)
  have w2 := hC.1.2.2.2.2 (.static ⟨"PluckBroker", "cell", "([II)I"⟩) (List.mem_of_getElem? (i := 2) rfl)
  have w3 := hC.1.2.2.2.2 (.initialized "PluckBroker") (List.mem_of_getElem? (i := 3) rfl)
  refine g_aload_n hC 0 dX3_purseOf_0 rfl rfl ?_
  refine g_get (C := RX3) (T := TX3) (N := 2) (ci := 3) (v := .ref hc) hC hi3 0 rfl rfl 1 (by decide) w1 (fun _ h => h) rfl dX3_purseOf_1 ?_
  refine g_iconst (v := nI 2) hC dX3_purseOf_4 rfl ?_
  refine g_iload_n hC 1 dX3_purseOf_5 rfl rfl ?_
  refine g_iadd_n (a := 2) (b := k) hC dX3_purseOf_6 ?_
  refine g_callSNip (As := [.ref hc, .int (nI (2 + k))]) (rest := []) hC (c (2 + k)) (c_X5_cell l D cI cZ hc 20 c (2 + k) (by first | assumption | omega) (by first | assumption | omega)) ⟨va_cnB 2 hC.1.2.2.2.2 gX3_purseOf_X5_cell_n40 rfl rfl rfl (hC.2.2.1.m 9 rfl) w3 dS_X5_cell ⟨Nat.le_of_ble_eq_true rfl, Nat.le_of_ble_eq_true rfl⟩, w2, trivial⟩ rfl rfl (Nat.le_of_ble_eq_true rfl) dX3_purseOf_7 ⟨Nat.le_of_ble_eq_true rfl, Nat.le_of_ble_eq_true rfl⟩ [1] rfl rfl ?_
  subst hQ
  refine g_iret (v := c (2 + k)) hC () hr ?_ rfl dX3_purseOf_10
  rfl

abbrev rm_X3_standingOf : Room := { frames := 1, cells := 0, slots := 0, locals := 21 }
set_option maxRecDepth 100000 in
set_option maxHeartbeats 4000000 in
theorem c_X3_standingOf (l : Launch) (D : va_G) (cI cZ : ClassId) (hs : Nat) (hp : Nat) (hc : Nat) (c : Nat → Int32) (k : Nat) (hk : k < 5) : CtI l yX3_standingOf wsX3_standingOf rm_X3_standingOf D cI cZ [.ref hs, .int (nI k)] [(hs, .inr (3, [.ref hp, .ref hc])), (hc, .inl (cI, 20, .inl c))] (fun r (_ : Unit) => r = c (5 + k)) (fun (_ : Unit) => [(hs, .inr (3, [.ref hp, .ref hc])), (hc, .inl (cI, 20, .inl c))]) 0 0 := by
  refine g_startI (ret := (some .int)) (own := RX3) (lv0 := [(0, .ref hs), (1, .int (nI k))]) (by decide) rfl rfl (Nat.le_of_ble_eq_true rfl) rfl ?_
  intro p e s m args below meth cd A Q hin hr hQ hC
  have hi3 : ∀ w ∈ wsX30, w ∈ wsX3_standingOf := fun _ h => List.mem_cons_of_mem _ (List.mem_append_right _ h)
  have w1 := hC.1.2.2.2.2 (.fieldLink "PluckBroker$State" 11 "PluckBroker$State" "cells" "[I") (List.mem_of_getElem? (i := 1) rfl)
  have w2 := hC.1.2.2.2.2 (.static ⟨"PluckBroker", "cell", "([II)I"⟩) (List.mem_of_getElem? (i := 2) rfl)
  have w3 := hC.1.2.2.2.2 (.initialized "PluckBroker") (List.mem_of_getElem? (i := 3) rfl)
  refine g_aload_n hC 0 dX3_standingOf_0 rfl rfl ?_
  refine g_get (C := RX3) (T := TX3) (N := 2) (ci := 3) (v := .ref hc) hC hi3 0 rfl rfl 1 (by decide) w1 (fun _ h => h) rfl dX3_standingOf_1 ?_
  refine g_iconst (v := nI 5) hC dX3_standingOf_4 rfl ?_
  refine g_iload_n hC 1 dX3_standingOf_5 rfl rfl ?_
  refine g_iadd_n (a := 5) (b := k) hC dX3_standingOf_6 ?_
  refine g_callSNip (As := [.ref hc, .int (nI (5 + k))]) (rest := []) hC (c (5 + k)) (c_X5_cell l D cI cZ hc 20 c (5 + k) (by first | assumption | omega) (by first | assumption | omega)) ⟨va_cnB 2 hC.1.2.2.2.2 gX3_standingOf_X5_cell_n40 rfl rfl rfl (hC.2.2.1.m 9 rfl) w3 dS_X5_cell ⟨Nat.le_of_ble_eq_true rfl, Nat.le_of_ble_eq_true rfl⟩, w2, trivial⟩ rfl rfl (Nat.le_of_ble_eq_true rfl) dX3_standingOf_7 ⟨Nat.le_of_ble_eq_true rfl, Nat.le_of_ble_eq_true rfl⟩ [1] rfl rfl ?_
  subst hQ
  refine g_iret (v := c (5 + k)) hC () hr ?_ rfl dX3_standingOf_10
  rfl

abbrev rm_X3_pledgedOn : Room := { frames := 1, cells := 0, slots := 0, locals := 21 }
set_option maxRecDepth 100000 in
set_option maxHeartbeats 4000000 in
theorem c_X3_pledgedOn (l : Launch) (D : va_G) (cI cZ : ClassId) (hs : Nat) (hp : Nat) (hc : Nat) (c : Nat → Int32) (k : Nat) (hk : k < 5) : CtI l yX3_pledgedOn wsX3_pledgedOn rm_X3_pledgedOn D cI cZ [.ref hs, .int (nI k)] [(hs, .inr (3, [.ref hp, .ref hc])), (hc, .inl (cI, 20, .inl c))] (fun r (_ : Unit) => r = c (10 + k)) (fun (_ : Unit) => [(hs, .inr (3, [.ref hp, .ref hc])), (hc, .inl (cI, 20, .inl c))]) 0 0 := by
  refine g_startI (ret := (some .int)) (own := RX3) (lv0 := [(0, .ref hs), (1, .int (nI k))]) (by decide) rfl rfl (Nat.le_of_ble_eq_true rfl) rfl ?_
  intro p e s m args below meth cd A Q hin hr hQ hC
  have hi3 : ∀ w ∈ wsX30, w ∈ wsX3_pledgedOn := fun _ h => List.mem_cons_of_mem _ (List.mem_append_right _ h)
  have w1 := hC.1.2.2.2.2 (.fieldLink "PluckBroker$State" 11 "PluckBroker$State" "cells" "[I") (List.mem_of_getElem? (i := 1) rfl)
  have w2 := hC.1.2.2.2.2 (.static ⟨"PluckBroker", "cell", "([II)I"⟩) (List.mem_of_getElem? (i := 2) rfl)
  have w3 := hC.1.2.2.2.2 (.initialized "PluckBroker") (List.mem_of_getElem? (i := 3) rfl)
  refine g_aload_n hC 0 dX3_pledgedOn_0 rfl rfl ?_
  refine g_get (C := RX3) (T := TX3) (N := 2) (ci := 3) (v := .ref hc) hC hi3 0 rfl rfl 1 (by decide) w1 (fun _ h => h) rfl dX3_pledgedOn_1 ?_
  refine g_bipush (v := nI 10) hC dX3_pledgedOn_4 (by decide +kernel) ?_
  refine g_iload_n hC 1 dX3_pledgedOn_6 rfl rfl ?_
  refine g_iadd_n (a := 10) (b := k) hC dX3_pledgedOn_7 ?_
  refine g_callSNip (As := [.ref hc, .int (nI (10 + k))]) (rest := []) hC (c (10 + k)) (c_X5_cell l D cI cZ hc 20 c (10 + k) (by first | assumption | omega) (by first | assumption | omega)) ⟨va_cnB 2 hC.1.2.2.2.2 gX3_pledgedOn_X5_cell_n40 rfl rfl rfl (hC.2.2.1.m 9 rfl) w3 dS_X5_cell ⟨Nat.le_of_ble_eq_true rfl, Nat.le_of_ble_eq_true rfl⟩, w2, trivial⟩ rfl rfl (Nat.le_of_ble_eq_true rfl) dX3_pledgedOn_8 ⟨Nat.le_of_ble_eq_true rfl, Nat.le_of_ble_eq_true rfl⟩ [1] rfl rfl ?_
  subst hQ
  refine g_iret (v := c (10 + k)) hC () hr ?_ rfl dX3_pledgedOn_11
  rfl

abbrev rm_X3_outcomeOf : Room := { frames := 1, cells := 0, slots := 0, locals := 21 }
set_option maxRecDepth 100000 in
set_option maxHeartbeats 4000000 in
theorem c_X3_outcomeOf (l : Launch) (D : va_G) (cI cZ : ClassId) (hs : Nat) (hp : Nat) (hc : Nat) (c : Nat → Int32) (k : Nat) (hk : k < 5) : CtI l yX3_outcomeOf wsX3_outcomeOf rm_X3_outcomeOf D cI cZ [.ref hs, .int (nI k)] [(hs, .inr (3, [.ref hp, .ref hc])), (hc, .inl (cI, 20, .inl c))] (fun r (_ : Unit) => r = c (15 + k)) (fun (_ : Unit) => [(hs, .inr (3, [.ref hp, .ref hc])), (hc, .inl (cI, 20, .inl c))]) 0 0 := by
  refine g_startI (ret := (some .int)) (own := RX3) (lv0 := [(0, .ref hs), (1, .int (nI k))]) (by decide) rfl rfl (Nat.le_of_ble_eq_true rfl) rfl ?_
  intro p e s m args below meth cd A Q hin hr hQ hC
  have hi3 : ∀ w ∈ wsX30, w ∈ wsX3_outcomeOf := fun _ h => List.mem_cons_of_mem _ (List.mem_append_right _ h)
  have w1 := hC.1.2.2.2.2 (.fieldLink "PluckBroker$State" 11 "PluckBroker$State" "cells" "[I") (List.mem_of_getElem? (i := 1) rfl)
  have w2 := hC.1.2.2.2.2 (.static ⟨"PluckBroker", "cell", "([II)I"⟩) (List.mem_of_getElem? (i := 2) rfl)
  have w3 := hC.1.2.2.2.2 (.initialized "PluckBroker") (List.mem_of_getElem? (i := 3) rfl)
  refine g_aload_n hC 0 dX3_outcomeOf_0 rfl rfl ?_
  refine g_get (C := RX3) (T := TX3) (N := 2) (ci := 3) (v := .ref hc) hC hi3 0 rfl rfl 1 (by decide) w1 (fun _ h => h) rfl dX3_outcomeOf_1 ?_
  refine g_bipush (v := nI 15) hC dX3_outcomeOf_4 (by decide +kernel) ?_
  refine g_iload_n hC 1 dX3_outcomeOf_6 rfl rfl ?_
  refine g_iadd_n (a := 15) (b := k) hC dX3_outcomeOf_7 ?_
  refine g_callSNip (As := [.ref hc, .int (nI (15 + k))]) (rest := []) hC (c (15 + k)) (c_X5_cell l D cI cZ hc 20 c (15 + k) (by first | assumption | omega) (by first | assumption | omega)) ⟨va_cnB 2 hC.1.2.2.2.2 gX3_outcomeOf_X5_cell_n40 rfl rfl rfl (hC.2.2.1.m 9 rfl) w3 dS_X5_cell ⟨Nat.le_of_ble_eq_true rfl, Nat.le_of_ble_eq_true rfl⟩, w2, trivial⟩ rfl rfl (Nat.le_of_ble_eq_true rfl) dX3_outcomeOf_8 ⟨Nat.le_of_ble_eq_true rfl, Nat.le_of_ble_eq_true rfl⟩ [1] rfl rfl ?_
  subst hQ
  refine g_iret (v := c (15 + k)) hC () hr ?_ rfl dX3_outcomeOf_11
  rfl

abbrev rm_X5_dueFor : Room := { frames := 0, cells := 0, slots := 0, locals := 0 }
set_option maxRecDepth 100000 in
set_option maxHeartbeats 4000000 in
theorem c_X5_dueFor (l : Launch) (D : va_G) (cI cZ : ClassId) (k : Int32) (w : Int32) (d : Int32) (o : Int32) : CtI l yX5_dueFor wsX5_dueFor rm_X5_dueFor D cI cZ [.int k, .int w, .int d, .int o] [] (fun r (_ : Unit) => r = dueF k w d o) (fun (_ : Unit) => []) 0 0 := by
  refine g_startI (ret := (some .int)) (own := RX5) (lv0 := [(0, .int k), (1, .int w), (2, .int d), (3, .int o)]) (by decide) rfl rfl (Nat.le_of_ble_eq_true rfl) rfl ?_
  intro p e s m args below meth cd A Q hin hr hQ hC
  refine g_iload_n hC 0 dX5_dueFor_0 rfl rfl ?_
  by_cases k1_1 : k = nI 1
  · subst k1_1
    refine g_tableIn (off := 27) hC 28 dX5_dueFor_1 (by decide +kernel) (by decide +kernel) (by decide +kernel) (by decide) ?_
    refine g_iload_n hC 1 dX5_dueFor_28 rfl rfl ?_
    refine g_iconst (v := nI 2) hC dX5_dueFor_29 rfl ?_
    refine g_iload_n hC 2 dX5_dueFor_30 rfl rfl ?_
    refine g_imul hC dX5_dueFor_31 ?_
    refine g_iadd hC dX5_dueFor_32 ?_
    subst hQ
    refine g_iret (v := w + ((nI 2) * d)) hC () hr ?_ rfl dX5_dueFor_33
    rw [dueF, if_pos rfl]
  by_cases k1_2 : k = nI 2
  · subst k1_2
    refine g_tableIn (off := 33) hC 34 dX5_dueFor_1 (by decide +kernel) (by decide +kernel) (by decide +kernel) (by decide) ?_
    refine g_iload_n hC 3 dX5_dueFor_34 rfl rfl ?_
    refine g_bipush (v := nI 7) hC dX5_dueFor_35 (by decide +kernel) ?_
    refine g_irem (x := o) (y := nI 7) hC dX5_dueFor_37 (by decide) ?_
    refine g_bipush (v := nI 6) hC dX5_dueFor_38 (by decide +kernel) ?_
    refine g_icmp_ne hC 47 dX5_dueFor_40 (by decide) (fun h40t => ?_) (fun h40f => ?_)
    · refine g_iload_n hC 1 dX5_dueFor_47 rfl rfl ?_
      refine g_iload_n hC 2 dX5_dueFor_48 rfl rfl ?_
      refine g_iadd hC dX5_dueFor_49 ?_
      subst hQ
      refine g_iret (v := w + d) hC () hr ?_ rfl dX5_dueFor_50
      rw [dueF, if_neg (by decide), if_pos rfl]; first | rw [if_pos h40f] | rw [if_neg h40t]
    refine g_iload_n hC 1 dX5_dueFor_43 rfl rfl ?_
    refine g_goto hC 50 dX5_dueFor_44 (by decide) ?_
    subst hQ
    refine g_iret (v := w) hC () hr ?_ rfl dX5_dueFor_50
    rw [dueF, if_neg (by decide), if_pos rfl]; first | rw [if_pos h40f] | rw [if_neg h40t]
  by_cases k1_3 : k = nI 3
  · subst k1_3
    refine g_tableIn (off := 50) hC 51 dX5_dueFor_1 (by decide +kernel) (by decide +kernel) (by decide +kernel) (by decide) ?_
    refine g_iload_n hC 1 dX5_dueFor_51 rfl rfl ?_
    subst hQ
    refine g_iret (v := w) hC () hr ?_ rfl dX5_dueFor_52
    rw [dueF, if_neg (by decide), if_neg (by decide), if_pos rfl]
  have z1_1 : k.toInt ≠ 1 := fun q => k1_1 (Int32.toInt_inj.mp (q.trans (by decide +kernel)))
  have z1_2 : k.toInt ≠ 2 := fun q => k1_2 (Int32.toInt_inj.mp (q.trans (by decide +kernel)))
  have z1_3 : k.toInt ≠ 3 := fun q => k1_3 (Int32.toInt_inj.mp (q.trans (by decide +kernel)))
  refine g_tableOut hC 53 dX5_dueFor_1 (by omega) (by decide) ?_
  refine g_iload_n hC 1 dX5_dueFor_53 rfl rfl ?_
  refine g_iload_n hC 2 dX5_dueFor_54 rfl rfl ?_
  refine g_iadd hC dX5_dueFor_55 ?_
  subst hQ
  refine g_iret (v := w + d) hC () hr ?_ rfl dX5_dueFor_56
  rw [dueF, if_neg k1_1, if_neg k1_2, if_neg k1_3]

abbrev rm_X3_owedFor : Room := { frames := 2, cells := 0, slots := 0, locals := 42 }
set_option maxRecDepth 100000 in
set_option maxHeartbeats 4000000 in
theorem c_X3_owedFor (l : Launch) (D : va_G) (cI cZ : ClassId) (hs : Nat) (hp : Nat) (hc : Nat) (c : Nat → Int32) (r : Nat → Nat) (ti : Int32) (np : Nat) (nq : Nat) (nd : Nat) (P : Nat → Nat → Nat) (k : Nat) (hk : k < 5) : CtI l yX3_owedFor wsX3_owedFor rm_X3_owedFor D cI cZ [.ref hs, .int (nI k)] [(hs, .inr (3, [.ref hp, .ref hc])), (hc, .inl (cI, 20, .inl c)), (hp, o2 r ti np nq nd), (r 1, .inl (cI, 5, .inl (fun k => nI (P 0 k)))), (r 2, .inl (cI, 5, .inl (fun k => nI (P 1 k)))), (r 3, .inl (cI, 5, .inl (fun k => nI (P 2 k)))), (r 4, .inl (cI, 5, .inl (fun k => nI (P 3 k)))), (r 5, .inl (cI, 5, .inl (fun k => nI (P 4 k)))), (r 6, .inl (cI, 5, .inl (fun k => nI (P 5 k))))] (fun r (_ : Unit) => r = owed P c k) (fun (_ : Unit) => [(hs, .inr (3, [.ref hp, .ref hc])), (hc, .inl (cI, 20, .inl c)), (hp, o2 r ti np nq nd), (r 1, .inl (cI, 5, .inl (fun k => nI (P 0 k)))), (r 2, .inl (cI, 5, .inl (fun k => nI (P 1 k)))), (r 3, .inl (cI, 5, .inl (fun k => nI (P 2 k)))), (r 4, .inl (cI, 5, .inl (fun k => nI (P 3 k)))), (r 5, .inl (cI, 5, .inl (fun k => nI (P 4 k)))), (r 6, .inl (cI, 5, .inl (fun k => nI (P 5 k))))]) 0 0 := by
  refine g_startI (ret := (some .int)) (own := RX3) (lv0 := [(0, .ref hs), (1, .int (nI k))]) (by decide) rfl rfl (Nat.le_of_ble_eq_true rfl) rfl ?_
  intro p e s m args below meth cd A Q hin hr hQ hC
  have hi3 : ∀ w ∈ wsX30, w ∈ wsX3_owedFor := fun _ h => List.mem_cons_of_mem _ (List.mem_append_left _ (List.mem_append_right _ h))
  have w1 := hC.1.2.2.2.2 (.fieldLink "PluckBroker$State" 15 "PluckBroker$State" "plan" "LPluckBroker$Plan;") (List.mem_of_getElem? (i := 1) rfl)
  have w9 := hC.1.2.2.2.2 (.initialized "PluckBroker") (List.mem_of_getElem? (i := 9) rfl)
  have w30 := hC.1.2.2.2.2 (.static ⟨"PluckBroker", "dueFor", "(IIII)I"⟩) (List.mem_of_getElem? (i := 30) rfl)
  refine g_aload_n hC 0 dX3_owedFor_0 rfl rfl ?_
  refine g_iload_n hC 1 dX3_owedFor_1 rfl rfl ?_
  refine g_callVip (As := [.int (nI k)]) (rest := []) hC (c (5 + k)) (c_X3_standingOf l D cI cZ hs hp hc c k (by first | assumption | omega)) (cwV 1 hC.1.2.2.2.2 gX3_owedFor_X3_standingOf rfl rfl rfl dV_X3_standingOf ⟨Nat.le_of_ble_eq_true rfl, Nat.le_of_ble_eq_true rfl⟩) rfl rfl rfl rfl (Nat.le_of_ble_eq_true rfl) dX3_owedFor_2 ⟨Nat.le_of_ble_eq_true rfl, Nat.le_of_ble_eq_true rfl⟩ [0, 1] rfl rfl ?_
  refine g_iconst (v := nI 1) hC dX3_owedFor_5 rfl ?_
  refine g_icmp_eq hC 11 dX3_owedFor_6 (by decide) (fun h6t => ?_) (fun h6f => ?_)
  · refine g_aload_n hC 0 dX3_owedFor_11 rfl rfl ?_
    refine g_get (C := RX3) (T := TX3) (N := 2) (ci := 3) (v := .ref hp) hC hi3 0 rfl rfl 0 (by decide) w1 (fun _ h => h) rfl dX3_owedFor_12 ?_
    refine g_iload_n hC 1 dX3_owedFor_15 rfl rfl ?_
    refine g_callVip (As := [.int (nI k)]) (rest := []) hC (nI (P 2 k)) (c_X2_kindOf l D cI cZ hp r ti np nq nd P k (by first | assumption | omega)) (cwV 1 hC.1.2.2.2.2 gX3_owedFor_X2_kindOf rfl rfl rfl dV_X2_kindOf ⟨Nat.le_of_ble_eq_true rfl, Nat.le_of_ble_eq_true rfl⟩) rfl rfl rfl rfl (Nat.le_of_ble_eq_true rfl) dX3_owedFor_16 ⟨Nat.le_of_ble_eq_true rfl, Nat.le_of_ble_eq_true rfl⟩ [2, 5] rfl rfl ?_
    refine g_aload_n hC 0 dX3_owedFor_19 rfl rfl ?_
    refine g_get (C := RX3) (T := TX3) (N := 2) (ci := 3) (v := .ref hp) hC hi3 0 rfl rfl 0 (by decide) w1 (fun _ h => h) rfl dX3_owedFor_20 ?_
    refine g_iload_n hC 1 dX3_owedFor_23 rfl rfl ?_
    refine g_callVip (As := [.int (nI k)]) (rest := [.int (nI (P 2 k))]) hC (nI (P 1 k)) (c_X2_worthOf l D cI cZ hp r ti np nq nd P k (by first | assumption | omega)) (cwV 1 hC.1.2.2.2.2 gX3_owedFor_X2_worthOf rfl rfl rfl dV_X2_worthOf ⟨Nat.le_of_ble_eq_true rfl, Nat.le_of_ble_eq_true rfl⟩) rfl rfl rfl rfl (Nat.le_of_ble_eq_true rfl) dX3_owedFor_24 ⟨Nat.le_of_ble_eq_true rfl, Nat.le_of_ble_eq_true rfl⟩ [2, 4] rfl rfl ?_
    refine g_aload_n hC 0 dX3_owedFor_27 rfl rfl ?_
    refine g_callVip (As := []) (rest := [.int (nI (P 1 k)), .int (nI (P 2 k))]) hC (c 1) (c_X3_today l D cI cZ hs hp hc c) (cwV 0 hC.1.2.2.2.2 gX3_owedFor_X3_today rfl rfl rfl dV_X3_today ⟨Nat.le_of_ble_eq_true rfl, Nat.le_of_ble_eq_true rfl⟩) rfl rfl rfl rfl (Nat.le_of_ble_eq_true rfl) dX3_owedFor_28 ⟨Nat.le_of_ble_eq_true rfl, Nat.le_of_ble_eq_true rfl⟩ [0, 1] rfl rfl ?_
    refine g_aload_n hC 0 dX3_owedFor_31 rfl rfl ?_
    refine g_iload_n hC 1 dX3_owedFor_32 rfl rfl ?_
    refine g_callVip (As := [.int (nI k)]) (rest := [.int (c 1), .int (nI (P 1 k)), .int (nI (P 2 k))]) hC (c (10 + k)) (c_X3_pledgedOn l D cI cZ hs hp hc c k (by first | assumption | omega)) (cwV 1 hC.1.2.2.2.2 gX3_owedFor_X3_pledgedOn rfl rfl rfl dV_X3_pledgedOn ⟨Nat.le_of_ble_eq_true rfl, Nat.le_of_ble_eq_true rfl⟩) rfl rfl rfl rfl (Nat.le_of_ble_eq_true rfl) dX3_owedFor_33 ⟨Nat.le_of_ble_eq_true rfl, Nat.le_of_ble_eq_true rfl⟩ [0, 1] rfl rfl ?_
    refine g_isub hC dX3_owedFor_36 ?_
    refine g_aload_n hC 0 dX3_owedFor_37 rfl rfl ?_
    refine g_callVip (As := []) (rest := [.int ((c 1) - (c (10 + k))), .int (nI (P 1 k)), .int (nI (P 2 k))]) hC (c 1) (c_X3_today l D cI cZ hs hp hc c) (cwV 0 hC.1.2.2.2.2 gX3_owedFor_X3_today rfl rfl rfl dV_X3_today ⟨Nat.le_of_ble_eq_true rfl, Nat.le_of_ble_eq_true rfl⟩) rfl rfl rfl rfl (Nat.le_of_ble_eq_true rfl) dX3_owedFor_38 ⟨Nat.le_of_ble_eq_true rfl, Nat.le_of_ble_eq_true rfl⟩ [0, 1] rfl rfl ?_
    refine g_callSNip (As := [.int (nI (P 2 k)), .int (nI (P 1 k)), .int ((c 1) - (c (10 + k))), .int (c 1)]) (rest := []) hC (dueF (nI (P 2 k)) (nI (P 1 k)) ((c 1) - (c (10 + k))) (c 1)) (c_X5_dueFor l D cI cZ (nI (P 2 k)) (nI (P 1 k)) ((c 1) - (c (10 + k))) (c 1)) ⟨va_cnB 4 hC.1.2.2.2.2 gX3_owedFor_X5_dueFor_n72 rfl rfl rfl (hC.2.2.1.m 10 rfl) w9 dS_X5_dueFor ⟨Nat.le_of_ble_eq_true rfl, Nat.le_of_ble_eq_true rfl⟩, w30, trivial⟩ rfl rfl (Nat.le_of_ble_eq_true rfl) dX3_owedFor_41 ⟨Nat.le_of_ble_eq_true rfl, Nat.le_of_ble_eq_true rfl⟩ [] rfl rfl ?_
    subst hQ
    refine g_iret (v := dueF (nI (P 2 k)) (nI (P 1 k)) ((c 1) - (c (10 + k))) (c 1)) hC () hr ?_ rfl dX3_owedFor_44
    rw [owed, if_pos h6t]
  refine g_iconst (v := nI 0) hC dX3_owedFor_9 rfl ?_
  subst hQ
  refine g_iret (v := nI 0) hC () hr ?_ rfl dX3_owedFor_10
  rw [owed, if_neg h6f]

abbrev rm_X3_inAllPurses : Room := { frames := 2, cells := 0, slots := 0, locals := 42 }
set_option maxRecDepth 100000 in
set_option maxHeartbeats 4000000 in
theorem c_X3_inAllPurses (l : Launch) (D : va_G) (cI cZ : ClassId) (hs : Nat) (hp : Nat) (hc : Nat) (c : Nat → Int32) (r : Nat → Nat) (ti : Int32) (np : Nat) (nq : Nat) (nd : Nat) (hb : np ≤ 3) : CtI l yX3_inAllPurses wsX3_inAllPurses rm_X3_inAllPurses D cI cZ [.ref hs] [(hs, .inr (3, [.ref hp, .ref hc])), (hc, .inl (cI, 20, .inl c)), (hp, o2 r ti np nq nd)] (fun r (_ : Unit) => r = sumP c np) (fun (_ : Unit) => [(hs, .inr (3, [.ref hp, .ref hc])), (hc, .inl (cI, 20, .inl c)), (hp, o2 r ti np nq nd)]) 0 0 := by
  refine g_startI (ret := (some .int)) (own := RX3) (lv0 := [(0, .ref hs)]) (by decide) rfl rfl (Nat.le_of_ble_eq_true rfl) rfl ?_
  intro p e s m args below meth cd A Q hin hr hQ hC
  have hi2 : ∀ w ∈ wsX20, w ∈ wsX3_inAllPurses := fun _ h => List.mem_cons_of_mem _ (List.mem_append_right _ h)
  have hi3 : ∀ w ∈ wsX30, w ∈ wsX3_inAllPurses := fun _ h => List.mem_cons_of_mem _ (List.mem_append_left _ (List.mem_append_right _ h))
  have w1 := hC.1.2.2.2.2 (.fieldLink "PluckBroker$State" 15 "PluckBroker$State" "plan" "LPluckBroker$Plan;") (List.mem_of_getElem? (i := 1) rfl)
  refine g_iconst (v := nI 0) hC dX3_inAllPurses_0 rfl ?_
  refine g_istore_n (lv' := [(0, .ref hs), (1, .int (nI 0))]) hC [1, 0] dX3_inAllPurses_1 rfl (by decide) rfl ?_
  refine g_iconst (v := nI 0) hC dX3_inAllPurses_2 rfl ?_
  refine g_istore_n (lv' := [(0, .ref hs), (1, .int (nI 0)), (2, .int (nI 0))]) hC [1, 2, 0] dX3_inAllPurses_3 rfl (by decide) rfl ?_
  have L4 : ∀ (n : Nat) (i : Nat) (x : Int32), (i ≤ np) → (x = sumP c i) → np - i < n → G p l e rm_X3_inAllPurses s m args below meth cd D A 0 0 Q 3 [(hs, .inr (3, [.ref hp, .ref hc])), (hc, .inl (cI, 20, .inl c)), (hp, o2 r ti np nq nd)] 4 [(0, .ref hs), (1, .int x), (2, .int (nI i))] [] := by
    intro n
    induction n with
    | zero => intro i x hi hx hn; exact absurd hn (Nat.not_lt_zero _)
    | succ n ih4 =>
      intro i x hi hx hn
      refine g_iload_n hC 2 dX3_inAllPurses_4 rfl rfl ?_
      refine g_aload_n hC 0 dX3_inAllPurses_5 rfl rfl ?_
      refine g_get (C := RX3) (T := TX3) (N := 2) (ci := 3) (v := .ref hp) hC hi3 0 rfl rfl 0 (by decide) w1 (fun _ h => h) rfl dX3_inAllPurses_6 ?_
      refine g_getN (C := RX2) (T := TX2) (N := 11) (ci := 2) (v := .int (nI np)) hC hi2 2 rfl rfl 8 (by decide) (hC.2.2.1.f 3 rfl) (fun _ h => h) rfl dX3_inAllPurses_9 ?_
      refine g_icmp_ge_n (a := i) (b := np) hC (by omega) (by omega) 29 dX3_inAllPurses_12 (by decide) (fun h12t => ?_) (fun h12f => ?_)
      · refine g_iload_n hC 1 dX3_inAllPurses_29 rfl rfl ?_
        subst hQ
        refine g_iret (v := x) hC () hr ?_ rfl dX3_inAllPurses_30
        have e : i = np := by omega
        rw [e] at hx; exact hx
      refine g_iload_n hC 1 dX3_inAllPurses_15 rfl rfl ?_
      refine g_aload_n hC 0 dX3_inAllPurses_16 rfl rfl ?_
      refine g_iload_n hC 2 dX3_inAllPurses_17 rfl rfl ?_
      refine g_callVip (As := [.int (nI i)]) (rest := [.int x]) hC (c (2 + i)) (c_X3_purseOf l D cI cZ hs hp hc c i (by first | assumption | omega)) (cwV 1 hC.1.2.2.2.2 gX3_inAllPurses_X3_purseOf rfl rfl rfl dV_X3_purseOf ⟨Nat.le_of_ble_eq_true rfl, Nat.le_of_ble_eq_true rfl⟩) rfl rfl rfl rfl (Nat.le_of_ble_eq_true rfl) dX3_inAllPurses_18 ⟨Nat.le_of_ble_eq_true rfl, Nat.le_of_ble_eq_true rfl⟩ [0, 1] rfl rfl ?_
      refine g_iadd hC dX3_inAllPurses_21 ?_
      refine g_istore_n (lv' := [(0, .ref hs), (1, .int (x + (c (2 + i)))), (2, .int (nI i))]) hC [1, 0, 2] dX3_inAllPurses_22 rfl (by decide) rfl ?_
      refine g_iinc (v := nI (i + 1)) (lv' := [(0, .ref hs), (1, .int (x + (c (2 + i)))), (2, .int (nI (i + 1)))]) hC 2 [1, 2, 0] dX3_inAllPurses_23 rfl (nI_add _ 1) (by decide) rfl ?_
      refine g_goto hC 4 dX3_inAllPurses_26 (by decide) ?_
      refine ih4 (i + 1) (x + (c (2 + i))) ?_ ?_ ?_
      · omega
      · rw [hx]; rfl
      · omega
  refine L4 _ 0 (nI 0) ?_ ?_ (Nat.lt_succ_self _)
  · omega
  · rfl

abbrev rm_X3_qualitiesThatAre : Room := { frames := 2, cells := 0, slots := 0, locals := 42 }
set_option maxRecDepth 100000 in
set_option maxHeartbeats 4000000 in
theorem c_X3_qualitiesThatAre (l : Launch) (D : va_G) (cI cZ : ClassId) (hs : Nat) (hp : Nat) (hc : Nat) (c : Nat → Int32) (r : Nat → Nat) (ti : Int32) (np : Nat) (nq : Nat) (nd : Nat) (a : Int32) (hb : nq ≤ 5) : CtI l yX3_qualitiesThatAre wsX3_qualitiesThatAre rm_X3_qualitiesThatAre D cI cZ [.ref hs, .int a] [(hs, .inr (3, [.ref hp, .ref hc])), (hc, .inl (cI, 20, .inl c)), (hp, o2 r ti np nq nd)] (fun r (_ : Unit) => r = nI (thatAre nq c a)) (fun (_ : Unit) => [(hs, .inr (3, [.ref hp, .ref hc])), (hc, .inl (cI, 20, .inl c)), (hp, o2 r ti np nq nd)]) 0 0 := by
  refine g_startI (ret := (some .int)) (own := RX3) (lv0 := [(0, .ref hs), (1, .int a)]) (by decide) rfl rfl (Nat.le_of_ble_eq_true rfl) rfl ?_
  intro p e s m args below meth cd A Q hin hr hQ hC
  have hi2 : ∀ w ∈ wsX20, w ∈ wsX3_qualitiesThatAre := fun _ h => List.mem_cons_of_mem _ (List.mem_append_right _ h)
  have hi3 : ∀ w ∈ wsX30, w ∈ wsX3_qualitiesThatAre := fun _ h => List.mem_cons_of_mem _ (List.mem_append_left _ (List.mem_append_right _ h))
  have w1 := hC.1.2.2.2.2 (.fieldLink "PluckBroker$State" 15 "PluckBroker$State" "plan" "LPluckBroker$Plan;") (List.mem_of_getElem? (i := 1) rfl)
  refine g_iconst (v := nI 0) hC dX3_qualitiesThatAre_0 rfl ?_
  refine g_istore_n (lv' := [(0, .ref hs), (1, .int a), (2, .int (nI 0))]) hC [1, 2, 0] dX3_qualitiesThatAre_1 rfl (by decide) rfl ?_
  refine g_iconst (v := nI 0) hC dX3_qualitiesThatAre_2 rfl ?_
  refine g_istore_n (lv' := [(0, .ref hs), (1, .int a), (2, .int (nI 0)), (3, .int (nI 0))]) hC [1, 2, 3, 0] dX3_qualitiesThatAre_3 rfl (by decide) rfl ?_
  have L4 : ∀ (n : Nat) (i : Nat) (acc : Nat), (i ≤ nq) → (acc = bts i (fun q => decide (c (5 + q) = a))) → nq - i < n → G p l e rm_X3_qualitiesThatAre s m args below meth cd D A 0 0 Q 4 [(hs, .inr (3, [.ref hp, .ref hc])), (hc, .inl (cI, 20, .inl c)), (hp, o2 r ti np nq nd)] 4 [(0, .ref hs), (1, .int a), (2, .int (nI acc)), (3, .int (nI i))] [] := by
    intro n
    induction n with
    | zero => intro i acc hi hacc hn; exact absurd hn (Nat.not_lt_zero _)
    | succ n ih4 =>
      intro i acc hi hacc hn
      refine g_iload_n hC 3 dX3_qualitiesThatAre_4 rfl rfl ?_
      refine g_aload_n hC 0 dX3_qualitiesThatAre_5 rfl rfl ?_
      refine g_get (C := RX3) (T := TX3) (N := 2) (ci := 3) (v := .ref hp) hC hi3 0 rfl rfl 0 (by decide) w1 (fun _ h => h) rfl dX3_qualitiesThatAre_6 ?_
      refine g_getN (C := RX2) (T := TX2) (N := 11) (ci := 2) (v := .int (nI nq)) hC hi2 2 rfl rfl 9 (by decide) (hC.2.2.1.f 8 rfl) (fun _ h => h) rfl dX3_qualitiesThatAre_9 ?_
      refine g_icmp_ge_n (a := i) (b := nq) hC (by omega) (by omega) 40 dX3_qualitiesThatAre_12 (by decide) (fun h12t => ?_) (fun h12f => ?_)
      · refine g_iload_n hC 2 dX3_qualitiesThatAre_40 rfl rfl ?_
        subst hQ
        refine g_iret (v := nI acc) hC () hr ?_ rfl dX3_qualitiesThatAre_41
        have e : i = nq := by omega
        rw [e] at hacc; rw [hacc]; rfl
      refine g_iload_n hC 2 dX3_qualitiesThatAre_15 rfl rfl ?_
      refine g_aload_n hC 0 dX3_qualitiesThatAre_16 rfl rfl ?_
      refine g_iload_n hC 3 dX3_qualitiesThatAre_17 rfl rfl ?_
      refine g_callVip (As := [.int (nI i)]) (rest := [.int (nI acc)]) hC (c (5 + i)) (c_X3_standingOf l D cI cZ hs hp hc c i (by first | assumption | omega)) (cwV 1 hC.1.2.2.2.2 gX3_qualitiesThatAre_X3_standingOf rfl rfl rfl dV_X3_standingOf ⟨Nat.le_of_ble_eq_true rfl, Nat.le_of_ble_eq_true rfl⟩) rfl rfl rfl rfl (Nat.le_of_ble_eq_true rfl) dX3_qualitiesThatAre_18 ⟨Nat.le_of_ble_eq_true rfl, Nat.le_of_ble_eq_true rfl⟩ [0, 1] rfl rfl ?_
      refine g_iload_n hC 1 dX3_qualitiesThatAre_21 rfl rfl ?_
      refine g_icmp_ne hC 31 dX3_qualitiesThatAre_22 (by decide) (fun h22t => ?_) (fun h22f => ?_)
      · refine g_iconst (v := nI 0) hC dX3_qualitiesThatAre_31 rfl ?_
        refine g_ior_n (a := acc) (b := 0) hC dX3_qualitiesThatAre_32 ?_
        refine g_istore_n (lv' := [(0, .ref hs), (1, .int a), (2, .int (nI (acc ||| 0))), (3, .int (nI i))]) hC [1, 2, 0, 3] dX3_qualitiesThatAre_33 rfl (by decide) rfl ?_
        refine g_iinc (v := nI (i + 1)) (lv' := [(0, .ref hs), (1, .int a), (2, .int (nI (acc ||| 0))), (3, .int (nI (i + 1)))]) hC 3 [1, 2, 3, 0] dX3_qualitiesThatAre_34 rfl (nI_add _ 1) (by decide) rfl ?_
        refine g_goto hC 4 dX3_qualitiesThatAre_37 (by decide) ?_
        refine ih4 (i + 1) (acc ||| 0) ?_ ?_ ?_
        · omega
        · rw [hacc]; exact bts_f (decide_eq_false h22t)
        · omega
      refine g_iconst (v := nI 1) hC dX3_qualitiesThatAre_25 rfl ?_
      refine g_iload_n hC 3 dX3_qualitiesThatAre_26 rfl rfl ?_
      refine g_shl1_n (b := i) hC (by omega) dX3_qualitiesThatAre_27 ?_
      refine g_goto hC 32 dX3_qualitiesThatAre_28 (by decide) ?_
      refine g_ior_n (a := acc) (b := (2 ^ i)) hC dX3_qualitiesThatAre_32 ?_
      refine g_istore_n (lv' := [(0, .ref hs), (1, .int a), (2, .int (nI (acc ||| (2 ^ i)))), (3, .int (nI i))]) hC [1, 2, 0, 3] dX3_qualitiesThatAre_33 rfl (by decide) rfl ?_
      refine g_iinc (v := nI (i + 1)) (lv' := [(0, .ref hs), (1, .int a), (2, .int (nI (acc ||| (2 ^ i)))), (3, .int (nI (i + 1)))]) hC 3 [1, 2, 3, 0] dX3_qualitiesThatAre_34 rfl (nI_add _ 1) (by decide) rfl ?_
      refine g_goto hC 4 dX3_qualitiesThatAre_37 (by decide) ?_
      refine ih4 (i + 1) (acc ||| (2 ^ i)) ?_ ?_ ?_
      · omega
      · rw [hacc]; exact bts_t (decide_eq_true h22f)
      · omega
  refine L4 _ 0 0 ?_ ?_ (Nat.lt_succ_self _)
  · omega
  · rfl

abbrev rm_X3_deedsThatAre : Room := { frames := 2, cells := 0, slots := 0, locals := 42 }
set_option maxRecDepth 100000 in
set_option maxHeartbeats 4000000 in
theorem c_X3_deedsThatAre (l : Launch) (D : va_G) (cI cZ : ClassId) (hs : Nat) (hp : Nat) (hc : Nat) (c : Nat → Int32) (r : Nat → Nat) (ti : Int32) (np : Nat) (nq : Nat) (nd : Nat) (a : Int32) (hb : nd ≤ 5) : CtI l yX3_deedsThatAre wsX3_deedsThatAre rm_X3_deedsThatAre D cI cZ [.ref hs, .int a] [(hs, .inr (3, [.ref hp, .ref hc])), (hc, .inl (cI, 20, .inl c)), (hp, o2 r ti np nq nd)] (fun r (_ : Unit) => r = nI (deedsThat nd c a)) (fun (_ : Unit) => [(hs, .inr (3, [.ref hp, .ref hc])), (hc, .inl (cI, 20, .inl c)), (hp, o2 r ti np nq nd)]) 0 0 := by
  refine g_startI (ret := (some .int)) (own := RX3) (lv0 := [(0, .ref hs), (1, .int a)]) (by decide) rfl rfl (Nat.le_of_ble_eq_true rfl) rfl ?_
  intro p e s m args below meth cd A Q hin hr hQ hC
  have hi2 : ∀ w ∈ wsX20, w ∈ wsX3_deedsThatAre := fun _ h => List.mem_cons_of_mem _ (List.mem_append_right _ h)
  have hi3 : ∀ w ∈ wsX30, w ∈ wsX3_deedsThatAre := fun _ h => List.mem_cons_of_mem _ (List.mem_append_left _ (List.mem_append_right _ h))
  have w1 := hC.1.2.2.2.2 (.fieldLink "PluckBroker$State" 15 "PluckBroker$State" "plan" "LPluckBroker$Plan;") (List.mem_of_getElem? (i := 1) rfl)
  refine g_iconst (v := nI 0) hC dX3_deedsThatAre_0 rfl ?_
  refine g_istore_n (lv' := [(0, .ref hs), (1, .int a), (2, .int (nI 0))]) hC [1, 2, 0] dX3_deedsThatAre_1 rfl (by decide) rfl ?_
  refine g_iconst (v := nI 0) hC dX3_deedsThatAre_2 rfl ?_
  refine g_istore_n (lv' := [(0, .ref hs), (1, .int a), (2, .int (nI 0)), (3, .int (nI 0))]) hC [1, 2, 3, 0] dX3_deedsThatAre_3 rfl (by decide) rfl ?_
  have L4 : ∀ (n : Nat) (i : Nat) (acc : Nat), (i ≤ nd) → (acc = bts i (fun d => decide (c (15 + d) = a))) → nd - i < n → G p l e rm_X3_deedsThatAre s m args below meth cd D A 0 0 Q 4 [(hs, .inr (3, [.ref hp, .ref hc])), (hc, .inl (cI, 20, .inl c)), (hp, o2 r ti np nq nd)] 4 [(0, .ref hs), (1, .int a), (2, .int (nI acc)), (3, .int (nI i))] [] := by
    intro n
    induction n with
    | zero => intro i acc hi hacc hn; exact absurd hn (Nat.not_lt_zero _)
    | succ n ih4 =>
      intro i acc hi hacc hn
      refine g_iload_n hC 3 dX3_deedsThatAre_4 rfl rfl ?_
      refine g_aload_n hC 0 dX3_deedsThatAre_5 rfl rfl ?_
      refine g_get (C := RX3) (T := TX3) (N := 2) (ci := 3) (v := .ref hp) hC hi3 0 rfl rfl 0 (by decide) w1 (fun _ h => h) rfl dX3_deedsThatAre_6 ?_
      refine g_getN (C := RX2) (T := TX2) (N := 11) (ci := 2) (v := .int (nI nd)) hC hi2 2 rfl rfl 10 (by decide) (hC.2.2.1.f 11 rfl) (fun _ h => h) rfl dX3_deedsThatAre_9 ?_
      refine g_icmp_ge_n (a := i) (b := nd) hC (by omega) (by omega) 40 dX3_deedsThatAre_12 (by decide) (fun h12t => ?_) (fun h12f => ?_)
      · refine g_iload_n hC 2 dX3_deedsThatAre_40 rfl rfl ?_
        subst hQ
        refine g_iret (v := nI acc) hC () hr ?_ rfl dX3_deedsThatAre_41
        have e : i = nd := by omega
        rw [e] at hacc; rw [hacc]; rfl
      refine g_iload_n hC 2 dX3_deedsThatAre_15 rfl rfl ?_
      refine g_aload_n hC 0 dX3_deedsThatAre_16 rfl rfl ?_
      refine g_iload_n hC 3 dX3_deedsThatAre_17 rfl rfl ?_
      refine g_callVip (As := [.int (nI i)]) (rest := [.int (nI acc)]) hC (c (15 + i)) (c_X3_outcomeOf l D cI cZ hs hp hc c i (by first | assumption | omega)) (cwV 1 hC.1.2.2.2.2 gX3_deedsThatAre_X3_outcomeOf rfl rfl rfl dV_X3_outcomeOf ⟨Nat.le_of_ble_eq_true rfl, Nat.le_of_ble_eq_true rfl⟩) rfl rfl rfl rfl (Nat.le_of_ble_eq_true rfl) dX3_deedsThatAre_18 ⟨Nat.le_of_ble_eq_true rfl, Nat.le_of_ble_eq_true rfl⟩ [0, 1] rfl rfl ?_
      refine g_iload_n hC 1 dX3_deedsThatAre_21 rfl rfl ?_
      refine g_icmp_ne hC 31 dX3_deedsThatAre_22 (by decide) (fun h22t => ?_) (fun h22f => ?_)
      · refine g_iconst (v := nI 0) hC dX3_deedsThatAre_31 rfl ?_
        refine g_ior_n (a := acc) (b := 0) hC dX3_deedsThatAre_32 ?_
        refine g_istore_n (lv' := [(0, .ref hs), (1, .int a), (2, .int (nI (acc ||| 0))), (3, .int (nI i))]) hC [1, 2, 0, 3] dX3_deedsThatAre_33 rfl (by decide) rfl ?_
        refine g_iinc (v := nI (i + 1)) (lv' := [(0, .ref hs), (1, .int a), (2, .int (nI (acc ||| 0))), (3, .int (nI (i + 1)))]) hC 3 [1, 2, 3, 0] dX3_deedsThatAre_34 rfl (nI_add _ 1) (by decide) rfl ?_
        refine g_goto hC 4 dX3_deedsThatAre_37 (by decide) ?_
        refine ih4 (i + 1) (acc ||| 0) ?_ ?_ ?_
        · omega
        · rw [hacc]; exact bts_f (decide_eq_false h22t)
        · omega
      refine g_iconst (v := nI 1) hC dX3_deedsThatAre_25 rfl ?_
      refine g_iload_n hC 3 dX3_deedsThatAre_26 rfl rfl ?_
      refine g_shl1_n (b := i) hC (by omega) dX3_deedsThatAre_27 ?_
      refine g_goto hC 32 dX3_deedsThatAre_28 (by decide) ?_
      refine g_ior_n (a := acc) (b := (2 ^ i)) hC dX3_deedsThatAre_32 ?_
      refine g_istore_n (lv' := [(0, .ref hs), (1, .int a), (2, .int (nI (acc ||| (2 ^ i)))), (3, .int (nI i))]) hC [1, 2, 0, 3] dX3_deedsThatAre_33 rfl (by decide) rfl ?_
      refine g_iinc (v := nI (i + 1)) (lv' := [(0, .ref hs), (1, .int a), (2, .int (nI (acc ||| (2 ^ i)))), (3, .int (nI (i + 1)))]) hC 3 [1, 2, 3, 0] dX3_deedsThatAre_34 rfl (nI_add _ 1) (by decide) rfl ?_
      refine g_goto hC 4 dX3_deedsThatAre_37 (by decide) ?_
      refine ih4 (i + 1) (acc ||| (2 ^ i)) ?_ ?_ ?_
      · omega
      · rw [hacc]; exact bts_t (decide_eq_true h22f)
      · omega
  refine L4 _ 0 0 ?_ ?_ (Nat.lt_succ_self _)
  · omega
  · rfl

abbrev rm_X3_canPledge : Room := { frames := 2, cells := 0, slots := 0, locals := 42 }
set_option maxRecDepth 100000 in
set_option maxHeartbeats 4000000 in
theorem c_X3_canPledge (l : Launch) (D : va_G) (cI cZ : ClassId) (hs : Nat) (hp : Nat) (hc : Nat) (c : Nat → Int32) (r : Nat → Nat) (ti : Int32) (np : Nat) (nq : Nat) (nd : Nat) (P : Nat → Nat → Nat) (k : Nat) (hW : WFP np nq nd P) (hk : k < nq) : CtI l yX3_canPledge wsX3_canPledge rm_X3_canPledge D cI cZ [.ref hs, .int (nI k)] [(hs, .inr (3, [.ref hp, .ref hc])), (hc, .inl (cI, 20, .inl c)), (hp, o2 r ti np nq nd), (r 1, .inl (cI, 5, .inl (fun k => nI (P 0 k)))), (r 2, .inl (cI, 5, .inl (fun k => nI (P 1 k)))), (r 3, .inl (cI, 5, .inl (fun k => nI (P 2 k)))), (r 4, .inl (cI, 5, .inl (fun k => nI (P 3 k)))), (r 5, .inl (cI, 5, .inl (fun k => nI (P 4 k)))), (r 6, .inl (cI, 5, .inl (fun k => nI (P 5 k))))] (fun r (_ : Unit) => r = bI (canP P c k)) (fun (_ : Unit) => [(hs, .inr (3, [.ref hp, .ref hc])), (hc, .inl (cI, 20, .inl c)), (hp, o2 r ti np nq nd), (r 1, .inl (cI, 5, .inl (fun k => nI (P 0 k)))), (r 2, .inl (cI, 5, .inl (fun k => nI (P 1 k)))), (r 3, .inl (cI, 5, .inl (fun k => nI (P 2 k)))), (r 4, .inl (cI, 5, .inl (fun k => nI (P 3 k)))), (r 5, .inl (cI, 5, .inl (fun k => nI (P 4 k)))), (r 6, .inl (cI, 5, .inl (fun k => nI (P 5 k))))]) 0 0 := by
  refine g_startI (ret := (some .boolean)) (own := RX3) (lv0 := [(0, .ref hs), (1, .int (nI k))]) (by decide) rfl rfl (Nat.le_of_ble_eq_true rfl) rfl ?_
  intro p e s m args below meth cd A Q hin hr hQ hC
  have hi3 : ∀ w ∈ wsX30, w ∈ wsX3_canPledge := fun _ h => List.mem_cons_of_mem _ (List.mem_append_left _ (List.mem_append_right _ h))
  have w1 := hC.1.2.2.2.2 (.fieldLink "PluckBroker$State" 15 "PluckBroker$State" "plan" "LPluckBroker$Plan;") (List.mem_of_getElem? (i := 1) rfl)
  obtain ⟨⟨hnp, hnq, hnd⟩, hq4, hd5⟩ := id hW
  have hk5 : k < 5 := by omega
  have ho3 : P 0 k < 3 := by have := (hq4 k hk).1; omega
  refine g_aload_n hC 0 dX3_canPledge_0 rfl rfl ?_
  refine g_get (C := RX3) (T := TX3) (N := 2) (ci := 3) (v := .ref hp) hC hi3 0 rfl rfl 0 (by decide) w1 (fun _ h => h) rfl dX3_canPledge_1 ?_
  refine g_iload_n hC 1 dX3_canPledge_4 rfl rfl ?_
  refine g_callVip (As := [.int (nI k)]) (rest := []) hC (bI (inR (nI k) nq)) (c_X2_hasQuality l D cI cZ hp r ti np nq nd (nI k) hnq) (cwV 1 hC.1.2.2.2.2 gX3_canPledge_X2_hasQuality rfl rfl rfl dV_X2_hasQuality ⟨Nat.le_of_ble_eq_true rfl, Nat.le_of_ble_eq_true rfl⟩) rfl rfl rfl rfl (Nat.le_of_ble_eq_true rfl) dX3_canPledge_5 ⟨Nat.le_of_ble_eq_true rfl, Nat.le_of_ble_eq_true rfl⟩ [2] rfl rfl ?_
  refine g_if_eq_b hC 38 dX3_canPledge_8 (by decide) (fun h8t => ?_) (fun h8f => ?_)
  · exact absurd (inR_k (by omega) hk) h8t
  refine g_aload_n hC 0 dX3_canPledge_11 rfl rfl ?_
  refine g_iload_n hC 1 dX3_canPledge_12 rfl rfl ?_
  refine g_callVip (As := [.int (nI k)]) (rest := []) hC (c (5 + k)) (c_X3_standingOf l D cI cZ hs hp hc c k (by first | assumption | omega)) (cwV 1 hC.1.2.2.2.2 gX3_canPledge_X3_standingOf rfl rfl rfl dV_X3_standingOf ⟨Nat.le_of_ble_eq_true rfl, Nat.le_of_ble_eq_true rfl⟩) rfl rfl rfl rfl (Nat.le_of_ble_eq_true rfl) dX3_canPledge_13 ⟨Nat.le_of_ble_eq_true rfl, Nat.le_of_ble_eq_true rfl⟩ [0, 1] rfl rfl ?_
  refine g_if_ne hC 38 dX3_canPledge_16 (by decide) (fun h16t => ?_) (fun h16f => ?_)
  · refine g_iconst (v := nI 0) hC dX3_canPledge_38 rfl ?_
    subst hQ
    refine g_zret (v := nI 0) hC () hr (by decide +kernel) ?_ rfl dX3_canPledge_39
    refine (bI_f (fun q => h16t ?_)).symm
    exact q.1
  refine g_aload_n hC 0 dX3_canPledge_19 rfl rfl ?_
  refine g_callVip (As := []) (rest := []) hC (c 0) (c_X3_inTill l D cI cZ hs hp hc c) (cwV 0 hC.1.2.2.2.2 gX3_canPledge_X3_inTill rfl rfl rfl dV_X3_inTill ⟨Nat.le_of_ble_eq_true rfl, Nat.le_of_ble_eq_true rfl⟩) rfl rfl rfl rfl (Nat.le_of_ble_eq_true rfl) dX3_canPledge_20 ⟨Nat.le_of_ble_eq_true rfl, Nat.le_of_ble_eq_true rfl⟩ [0, 1] rfl rfl ?_
  refine g_aload_n hC 0 dX3_canPledge_23 rfl rfl ?_
  refine g_get (C := RX3) (T := TX3) (N := 2) (ci := 3) (v := .ref hp) hC hi3 0 rfl rfl 0 (by decide) w1 (fun _ h => h) rfl dX3_canPledge_24 ?_
  refine g_iload_n hC 1 dX3_canPledge_27 rfl rfl ?_
  refine g_callVip (As := [.int (nI k)]) (rest := [.int (c 0)]) hC (nI (P 1 k)) (c_X2_worthOf l D cI cZ hp r ti np nq nd P k (by first | assumption | omega)) (cwV 1 hC.1.2.2.2.2 gX3_canPledge_X2_worthOf rfl rfl rfl dV_X2_worthOf ⟨Nat.le_of_ble_eq_true rfl, Nat.le_of_ble_eq_true rfl⟩) rfl rfl rfl rfl (Nat.le_of_ble_eq_true rfl) dX3_canPledge_28 ⟨Nat.le_of_ble_eq_true rfl, Nat.le_of_ble_eq_true rfl⟩ [2, 4] rfl rfl ?_
  refine g_icmp_lt hC 38 dX3_canPledge_31 (by decide) (fun h31t => ?_) (fun h31f => ?_)
  · refine g_iconst (v := nI 0) hC dX3_canPledge_38 rfl ?_
    subst hQ
    refine g_zret (v := nI 0) hC () hr (by decide +kernel) ?_ rfl dX3_canPledge_39
    exact (bI_f (fun q => absurd q.2 (Int32.not_le.mpr h31t))).symm
  refine g_iconst (v := nI 1) hC dX3_canPledge_34 rfl ?_
  refine g_goto hC 39 dX3_canPledge_35 (by decide) ?_
  subst hQ
  refine g_zret (v := nI 1) hC () hr (by decide +kernel) ?_ rfl dX3_canPledge_39
  exact (bI_t ⟨h16f, Int32.not_lt.mp h31f⟩).symm

abbrev rm_X3_canPledge_no : Room := { frames := 1, cells := 0, slots := 0, locals := 21 }
set_option maxRecDepth 100000 in
set_option maxHeartbeats 4000000 in
theorem c_X3_canPledge_no (l : Launch) (D : va_G) (cI cZ : ClassId) (hs : Nat) (hp : Nat) (hc : Nat) (c : Nat → Int32) (r : Nat → Nat) (ti : Int32) (np : Nat) (nq : Nat) (nd : Nat) (P : Nat → Nat → Nat) (a : Int32) (hW : WFP np nq nd P) (ha : ¬ inR a nq) : CtI l yX3_canPledge wsX3_canPledge rm_X3_canPledge_no D cI cZ [.ref hs, .int a] [(hs, .inr (3, [.ref hp, .ref hc])), (hc, .inl (cI, 20, .inl c)), (hp, o2 r ti np nq nd), (r 1, .inl (cI, 5, .inl (fun k => nI (P 0 k)))), (r 2, .inl (cI, 5, .inl (fun k => nI (P 1 k)))), (r 3, .inl (cI, 5, .inl (fun k => nI (P 2 k)))), (r 4, .inl (cI, 5, .inl (fun k => nI (P 3 k)))), (r 5, .inl (cI, 5, .inl (fun k => nI (P 4 k)))), (r 6, .inl (cI, 5, .inl (fun k => nI (P 5 k))))] (fun r (_ : Unit) => r = nI 0) (fun (_ : Unit) => [(hs, .inr (3, [.ref hp, .ref hc])), (hc, .inl (cI, 20, .inl c)), (hp, o2 r ti np nq nd), (r 1, .inl (cI, 5, .inl (fun k => nI (P 0 k)))), (r 2, .inl (cI, 5, .inl (fun k => nI (P 1 k)))), (r 3, .inl (cI, 5, .inl (fun k => nI (P 2 k)))), (r 4, .inl (cI, 5, .inl (fun k => nI (P 3 k)))), (r 5, .inl (cI, 5, .inl (fun k => nI (P 4 k)))), (r 6, .inl (cI, 5, .inl (fun k => nI (P 5 k))))]) 0 0 := by
  refine g_startI (ret := (some .boolean)) (own := RX3) (lv0 := [(0, .ref hs), (1, .int a)]) (by decide) rfl rfl (Nat.le_of_ble_eq_true rfl) rfl ?_
  intro p e s m args below meth cd A Q hin hr hQ hC
  have hi3 : ∀ w ∈ wsX30, w ∈ wsX3_canPledge := fun _ h => List.mem_cons_of_mem _ (List.mem_append_left _ (List.mem_append_right _ h))
  have w1 := hC.1.2.2.2.2 (.fieldLink "PluckBroker$State" 15 "PluckBroker$State" "plan" "LPluckBroker$Plan;") (List.mem_of_getElem? (i := 1) rfl)
  obtain ⟨⟨hnp, hnq, hnd⟩, hq4, hd5⟩ := id hW
  refine g_aload_n hC 0 dX3_canPledge_0 rfl rfl ?_
  refine g_get (C := RX3) (T := TX3) (N := 2) (ci := 3) (v := .ref hp) hC hi3 0 rfl rfl 0 (by decide) w1 (fun _ h => h) rfl dX3_canPledge_1 ?_
  refine g_iload_n hC 1 dX3_canPledge_4 rfl rfl ?_
  refine g_callVip (As := [.int a]) (rest := []) hC (bI (inR a nq)) (c_X2_hasQuality l D cI cZ hp r ti np nq nd a hnq) (cwV 1 hC.1.2.2.2.2 gX3_canPledge_X2_hasQuality rfl rfl rfl dV_X2_hasQuality ⟨Nat.le_of_ble_eq_true rfl, Nat.le_of_ble_eq_true rfl⟩) rfl rfl rfl rfl (Nat.le_of_ble_eq_true rfl) dX3_canPledge_5 ⟨Nat.le_of_ble_eq_true rfl, Nat.le_of_ble_eq_true rfl⟩ [2] rfl rfl ?_
  refine g_if_eq_b hC 38 dX3_canPledge_8 (by decide) (fun h8t => ?_) (fun h8f => ?_)
  · refine g_iconst (v := nI 0) hC dX3_canPledge_38 rfl ?_
    subst hQ
    refine g_zret (v := nI 0) hC () hr (by decide +kernel) ?_ rfl dX3_canPledge_39
    rfl
  exact absurd h8f ha

abbrev rm_X3_canRedeem : Room := { frames := 3, cells := 0, slots := 0, locals := 63 }
set_option maxRecDepth 100000 in
set_option maxHeartbeats 4000000 in
theorem c_X3_canRedeem (l : Launch) (D : va_G) (cI cZ : ClassId) (hs : Nat) (hp : Nat) (hc : Nat) (c : Nat → Int32) (r : Nat → Nat) (ti : Int32) (np : Nat) (nq : Nat) (nd : Nat) (P : Nat → Nat → Nat) (k : Nat) (hW : WFP np nq nd P) (hk : k < nq) : CtI l yX3_canRedeem wsX3_canRedeem rm_X3_canRedeem D cI cZ [.ref hs, .int (nI k)] [(hs, .inr (3, [.ref hp, .ref hc])), (hc, .inl (cI, 20, .inl c)), (hp, o2 r ti np nq nd), (r 1, .inl (cI, 5, .inl (fun k => nI (P 0 k)))), (r 2, .inl (cI, 5, .inl (fun k => nI (P 1 k)))), (r 3, .inl (cI, 5, .inl (fun k => nI (P 2 k)))), (r 4, .inl (cI, 5, .inl (fun k => nI (P 3 k)))), (r 5, .inl (cI, 5, .inl (fun k => nI (P 4 k)))), (r 6, .inl (cI, 5, .inl (fun k => nI (P 5 k))))] (fun r (_ : Unit) => r = bI (canR P c k)) (fun (_ : Unit) => [(hs, .inr (3, [.ref hp, .ref hc])), (hc, .inl (cI, 20, .inl c)), (hp, o2 r ti np nq nd), (r 1, .inl (cI, 5, .inl (fun k => nI (P 0 k)))), (r 2, .inl (cI, 5, .inl (fun k => nI (P 1 k)))), (r 3, .inl (cI, 5, .inl (fun k => nI (P 2 k)))), (r 4, .inl (cI, 5, .inl (fun k => nI (P 3 k)))), (r 5, .inl (cI, 5, .inl (fun k => nI (P 4 k)))), (r 6, .inl (cI, 5, .inl (fun k => nI (P 5 k))))]) 0 0 := by
  refine g_startI (ret := (some .boolean)) (own := RX3) (lv0 := [(0, .ref hs), (1, .int (nI k))]) (by decide) rfl rfl (Nat.le_of_ble_eq_true rfl) rfl ?_
  intro p e s m args below meth cd A Q hin hr hQ hC
  have hi3 : ∀ w ∈ wsX30, w ∈ wsX3_canRedeem := fun _ h => List.mem_cons_of_mem _ (List.mem_append_left _ (List.mem_append_right _ h))
  have w1 := hC.1.2.2.2.2 (.fieldLink "PluckBroker$State" 15 "PluckBroker$State" "plan" "LPluckBroker$Plan;") (List.mem_of_getElem? (i := 1) rfl)
  obtain ⟨⟨hnp, hnq, hnd⟩, hq4, hd5⟩ := id hW
  have hk5 : k < 5 := by omega
  have ho3 : P 0 k < 3 := by have := (hq4 k hk).1; omega
  refine g_aload_n hC 0 dX3_canRedeem_0 rfl rfl ?_
  refine g_get (C := RX3) (T := TX3) (N := 2) (ci := 3) (v := .ref hp) hC hi3 0 rfl rfl 0 (by decide) w1 (fun _ h => h) rfl dX3_canRedeem_1 ?_
  refine g_iload_n hC 1 dX3_canRedeem_4 rfl rfl ?_
  refine g_callVip (As := [.int (nI k)]) (rest := []) hC (bI (inR (nI k) nq)) (c_X2_hasQuality l D cI cZ hp r ti np nq nd (nI k) hnq) (cwV 1 hC.1.2.2.2.2 gX3_canRedeem_X2_hasQuality rfl rfl rfl dV_X2_hasQuality ⟨Nat.le_of_ble_eq_true rfl, Nat.le_of_ble_eq_true rfl⟩) rfl rfl rfl rfl (Nat.le_of_ble_eq_true rfl) dX3_canRedeem_5 ⟨Nat.le_of_ble_eq_true rfl, Nat.le_of_ble_eq_true rfl⟩ [2] rfl rfl ?_
  refine g_if_eq_b hC 44 dX3_canRedeem_8 (by decide) (fun h8t => ?_) (fun h8f => ?_)
  · exact absurd (inR_k (by omega) hk) h8t
  refine g_aload_n hC 0 dX3_canRedeem_11 rfl rfl ?_
  refine g_iload_n hC 1 dX3_canRedeem_12 rfl rfl ?_
  refine g_callVip (As := [.int (nI k)]) (rest := []) hC (c (5 + k)) (c_X3_standingOf l D cI cZ hs hp hc c k (by first | assumption | omega)) (cwV 1 hC.1.2.2.2.2 gX3_canRedeem_X3_standingOf rfl rfl rfl dV_X3_standingOf ⟨Nat.le_of_ble_eq_true rfl, Nat.le_of_ble_eq_true rfl⟩) rfl rfl rfl rfl (Nat.le_of_ble_eq_true rfl) dX3_canRedeem_13 ⟨Nat.le_of_ble_eq_true rfl, Nat.le_of_ble_eq_true rfl⟩ [0, 1] rfl rfl ?_
  refine g_iconst (v := nI 1) hC dX3_canRedeem_16 rfl ?_
  refine g_icmp_ne hC 44 dX3_canRedeem_17 (by decide) (fun h17t => ?_) (fun h17f => ?_)
  · refine g_iconst (v := nI 0) hC dX3_canRedeem_44 rfl ?_
    subst hQ
    refine g_zret (v := nI 0) hC () hr (by decide +kernel) ?_ rfl dX3_canRedeem_45
    refine (bI_f (fun q => h17t ?_)).symm
    exact q.1
  refine g_aload_n hC 0 dX3_canRedeem_20 rfl rfl ?_
  refine g_aload_n hC 0 dX3_canRedeem_21 rfl rfl ?_
  refine g_get (C := RX3) (T := TX3) (N := 2) (ci := 3) (v := .ref hp) hC hi3 0 rfl rfl 0 (by decide) w1 (fun _ h => h) rfl dX3_canRedeem_22 ?_
  refine g_iload_n hC 1 dX3_canRedeem_25 rfl rfl ?_
  refine g_callVip (As := [.int (nI k)]) (rest := [.ref hs]) hC (nI (P 0 k)) (c_X2_ownerOf l D cI cZ hp r ti np nq nd P k (by first | assumption | omega)) (cwV 1 hC.1.2.2.2.2 gX3_canRedeem_X2_ownerOf rfl rfl rfl dV_X2_ownerOf ⟨Nat.le_of_ble_eq_true rfl, Nat.le_of_ble_eq_true rfl⟩) rfl rfl rfl rfl (Nat.le_of_ble_eq_true rfl) dX3_canRedeem_26 ⟨Nat.le_of_ble_eq_true rfl, Nat.le_of_ble_eq_true rfl⟩ [2, 3] rfl rfl ?_
  refine g_callVip (As := [.int (nI (P 0 k))]) (rest := []) hC (c (2 + (P 0 k))) (c_X3_purseOf l D cI cZ hs hp hc c (P 0 k) (by first | assumption | omega)) (cwV 1 hC.1.2.2.2.2 gX3_canRedeem_X3_purseOf rfl rfl rfl dV_X3_purseOf ⟨Nat.le_of_ble_eq_true rfl, Nat.le_of_ble_eq_true rfl⟩) rfl rfl rfl rfl (Nat.le_of_ble_eq_true rfl) dX3_canRedeem_29 ⟨Nat.le_of_ble_eq_true rfl, Nat.le_of_ble_eq_true rfl⟩ [0, 1] rfl rfl ?_
  refine g_aload_n hC 0 dX3_canRedeem_32 rfl rfl ?_
  refine g_iload_n hC 1 dX3_canRedeem_33 rfl rfl ?_
  refine g_callVip (As := [.int (nI k)]) (rest := [.int (c (2 + (P 0 k)))]) hC (owed P c k) (c_X3_owedFor l D cI cZ hs hp hc c r ti np nq nd P k (by first | assumption | omega)) (cwV 1 hC.1.2.2.2.2 gX3_canRedeem_X3_owedFor rfl rfl rfl dV_X3_owedFor ⟨Nat.le_of_ble_eq_true rfl, Nat.le_of_ble_eq_true rfl⟩) rfl rfl rfl rfl (Nat.le_of_ble_eq_true rfl) dX3_canRedeem_34 ⟨Nat.le_of_ble_eq_true rfl, Nat.le_of_ble_eq_true rfl⟩ [0, 1, 2, 3, 4, 5, 6, 7, 8] rfl rfl ?_
  refine g_icmp_lt hC 44 dX3_canRedeem_37 (by decide) (fun h37t => ?_) (fun h37f => ?_)
  · refine g_iconst (v := nI 0) hC dX3_canRedeem_44 rfl ?_
    subst hQ
    refine g_zret (v := nI 0) hC () hr (by decide +kernel) ?_ rfl dX3_canRedeem_45
    exact (bI_f (fun q => absurd q.2 (Int32.not_le.mpr h37t))).symm
  refine g_iconst (v := nI 1) hC dX3_canRedeem_40 rfl ?_
  refine g_goto hC 45 dX3_canRedeem_41 (by decide) ?_
  subst hQ
  refine g_zret (v := nI 1) hC () hr (by decide +kernel) ?_ rfl dX3_canRedeem_45
  exact (bI_t ⟨h17f, Int32.not_lt.mp h37f⟩).symm

abbrev rm_X3_canRedeem_no : Room := { frames := 1, cells := 0, slots := 0, locals := 21 }
set_option maxRecDepth 100000 in
set_option maxHeartbeats 4000000 in
theorem c_X3_canRedeem_no (l : Launch) (D : va_G) (cI cZ : ClassId) (hs : Nat) (hp : Nat) (hc : Nat) (c : Nat → Int32) (r : Nat → Nat) (ti : Int32) (np : Nat) (nq : Nat) (nd : Nat) (P : Nat → Nat → Nat) (a : Int32) (hW : WFP np nq nd P) (ha : ¬ inR a nq) : CtI l yX3_canRedeem wsX3_canRedeem rm_X3_canRedeem_no D cI cZ [.ref hs, .int a] [(hs, .inr (3, [.ref hp, .ref hc])), (hc, .inl (cI, 20, .inl c)), (hp, o2 r ti np nq nd), (r 1, .inl (cI, 5, .inl (fun k => nI (P 0 k)))), (r 2, .inl (cI, 5, .inl (fun k => nI (P 1 k)))), (r 3, .inl (cI, 5, .inl (fun k => nI (P 2 k)))), (r 4, .inl (cI, 5, .inl (fun k => nI (P 3 k)))), (r 5, .inl (cI, 5, .inl (fun k => nI (P 4 k)))), (r 6, .inl (cI, 5, .inl (fun k => nI (P 5 k))))] (fun r (_ : Unit) => r = nI 0) (fun (_ : Unit) => [(hs, .inr (3, [.ref hp, .ref hc])), (hc, .inl (cI, 20, .inl c)), (hp, o2 r ti np nq nd), (r 1, .inl (cI, 5, .inl (fun k => nI (P 0 k)))), (r 2, .inl (cI, 5, .inl (fun k => nI (P 1 k)))), (r 3, .inl (cI, 5, .inl (fun k => nI (P 2 k)))), (r 4, .inl (cI, 5, .inl (fun k => nI (P 3 k)))), (r 5, .inl (cI, 5, .inl (fun k => nI (P 4 k)))), (r 6, .inl (cI, 5, .inl (fun k => nI (P 5 k))))]) 0 0 := by
  refine g_startI (ret := (some .boolean)) (own := RX3) (lv0 := [(0, .ref hs), (1, .int a)]) (by decide) rfl rfl (Nat.le_of_ble_eq_true rfl) rfl ?_
  intro p e s m args below meth cd A Q hin hr hQ hC
  have hi3 : ∀ w ∈ wsX30, w ∈ wsX3_canRedeem := fun _ h => List.mem_cons_of_mem _ (List.mem_append_left _ (List.mem_append_right _ h))
  have w1 := hC.1.2.2.2.2 (.fieldLink "PluckBroker$State" 15 "PluckBroker$State" "plan" "LPluckBroker$Plan;") (List.mem_of_getElem? (i := 1) rfl)
  obtain ⟨⟨hnp, hnq, hnd⟩, hq4, hd5⟩ := id hW
  refine g_aload_n hC 0 dX3_canRedeem_0 rfl rfl ?_
  refine g_get (C := RX3) (T := TX3) (N := 2) (ci := 3) (v := .ref hp) hC hi3 0 rfl rfl 0 (by decide) w1 (fun _ h => h) rfl dX3_canRedeem_1 ?_
  refine g_iload_n hC 1 dX3_canRedeem_4 rfl rfl ?_
  refine g_callVip (As := [.int a]) (rest := []) hC (bI (inR a nq)) (c_X2_hasQuality l D cI cZ hp r ti np nq nd a hnq) (cwV 1 hC.1.2.2.2.2 gX3_canRedeem_X2_hasQuality rfl rfl rfl dV_X2_hasQuality ⟨Nat.le_of_ble_eq_true rfl, Nat.le_of_ble_eq_true rfl⟩) rfl rfl rfl rfl (Nat.le_of_ble_eq_true rfl) dX3_canRedeem_5 ⟨Nat.le_of_ble_eq_true rfl, Nat.le_of_ble_eq_true rfl⟩ [2] rfl rfl ?_
  refine g_if_eq_b hC 44 dX3_canRedeem_8 (by decide) (fun h8t => ?_) (fun h8f => ?_)
  · refine g_iconst (v := nI 0) hC dX3_canRedeem_44 rfl ?_
    subst hQ
    refine g_zret (v := nI 0) hC () hr (by decide +kernel) ?_ rfl dX3_canRedeem_45
    rfl
  exact absurd h8f ha

abbrev rm_X3_pay : Room := { frames := 1, cells := 0, slots := 0, locals := 22 }
set_option maxRecDepth 100000 in
set_option maxHeartbeats 4000000 in
theorem c_X3_pay (l : Launch) (D : va_G) (cI cZ : ClassId) (hs : Nat) (hp : Nat) (hc : Nat) (c : Nat → Int32) (k : Nat) (v : Int32) (hk : k < 3) : CtV l yX3_pay wsX3_pay rm_X3_pay D cI cZ [.ref hs, .int (nI k), .int v] [(hs, .inr (3, [.ref hp, .ref hc])), (hc, .inl (cI, 20, .inl c))] (fun (_ : Unit) => True) (fun (_ : Unit) => [(hs, .inr (3, [.ref hp, .ref hc])), (hc, .inl (cI, 20, .inl (payF c k v)))]) 0 0 := by
  refine g_startV (ret := none) (own := RX3) (lv0 := [(0, .ref hs), (1, .int (nI k)), (2, .int v)]) (by decide) rfl rfl (Nat.le_of_ble_eq_true rfl) rfl ?_
  intro p e s m args below meth cd A Q hin hr hQ hC
  have hi3 : ∀ w ∈ wsX30, w ∈ wsX3_pay := fun _ h => List.mem_cons_of_mem _ (List.mem_append_right _ h)
  have w1 := hC.1.2.2.2.2 (.fieldLink "PluckBroker$State" 11 "PluckBroker$State" "cells" "[I") (List.mem_of_getElem? (i := 1) rfl)
  have w2 := hC.1.2.2.2.2 (.static ⟨"PluckBroker", "cell", "([II)I"⟩) (List.mem_of_getElem? (i := 2) rfl)
  have w3 := hC.1.2.2.2.2 (.initialized "PluckBroker") (List.mem_of_getElem? (i := 3) rfl)
  have w5 := hC.1.2.2.2.2 (.static ⟨"PluckBroker", "put", "([III)V"⟩) (List.mem_of_getElem? (i := 5) rfl)
  refine g_aload_n hC 0 dX3_pay_0 rfl rfl ?_
  refine g_get (C := RX3) (T := TX3) (N := 2) (ci := 3) (v := .ref hc) hC hi3 0 rfl rfl 1 (by decide) w1 (fun _ h => h) rfl dX3_pay_1 ?_
  refine g_iconst (v := nI 2) hC dX3_pay_4 rfl ?_
  refine g_iload_n hC 1 dX3_pay_5 rfl rfl ?_
  refine g_iadd_n (a := 2) (b := k) hC dX3_pay_6 ?_
  refine g_aload_n hC 0 dX3_pay_7 rfl rfl ?_
  refine g_get (C := RX3) (T := TX3) (N := 2) (ci := 3) (v := .ref hc) hC hi3 0 rfl rfl 1 (by decide) w1 (fun _ h => h) rfl dX3_pay_8 ?_
  refine g_iconst (v := nI 2) hC dX3_pay_11 rfl ?_
  refine g_iload_n hC 1 dX3_pay_12 rfl rfl ?_
  refine g_iadd_n (a := 2) (b := k) hC dX3_pay_13 ?_
  refine g_callSNip (As := [.ref hc, .int (nI (2 + k))]) (rest := [.int (nI (2 + k)), .ref hc]) hC (c (2 + k)) (c_X5_cell l D cI cZ hc 20 c (2 + k) (by first | assumption | omega) (by first | assumption | omega)) ⟨va_cnB 2 hC.1.2.2.2.2 gX3_pay_X5_cell_n40 rfl rfl rfl (hC.2.2.1.m 9 rfl) w3 dS_X5_cell ⟨Nat.le_of_ble_eq_true rfl, Nat.le_of_ble_eq_true rfl⟩, w2, trivial⟩ rfl rfl (Nat.le_of_ble_eq_true rfl) dX3_pay_14 ⟨Nat.le_of_ble_eq_true rfl, Nat.le_of_ble_eq_true rfl⟩ [1] rfl rfl ?_
  refine g_iload_n hC 2 dX3_pay_17 rfl rfl ?_
  refine g_iadd hC dX3_pay_18 ?_
  refine g_callSNv (As := [.ref hc, .int (nI (2 + k)), .int ((c (2 + k)) + v)]) (rest := []) hC (c_X5_put l D cI cZ hc 20 c (2 + k) ((c (2 + k)) + v) (by first | assumption | omega) (by first | assumption | omega)) ⟨va_cnB 3 hC.1.2.2.2.2 gX3_pay_X5_put_n25 rfl rfl rfl (hC.2.2.1.m 7 rfl) w3 dS_X5_put ⟨Nat.le_of_ble_eq_true rfl, Nat.le_of_ble_eq_true rfl⟩, w5, trivial⟩ rfl rfl (Nat.le_of_ble_eq_true rfl) dX3_pay_19 ⟨Nat.le_of_ble_eq_true rfl, Nat.le_of_ble_eq_true rfl⟩ [1] [0] [0, 1] (fun (_ : Unit) => [(hs, .inr (3, [.ref hp, .ref hc])), (hc, .inl (cI, 20, .inl (upd c (2 + k) ((c (2 + k)) + v))))]) rfl rfl rfl (fun _ => rfl) (fun z19 hp19 => ?_)
  refine g_is (ws2 := [(hs, .inr (3, [.ref hp, .ref hc])), (hc, .inl (cI, 20, .inl (upd c (2 + k) ((c (2 + k)) + v))))]) (lv2 := [(0, .ref hs), (1, .int (nI k)), (2, .int v)]) (st2 := []) rfl rfl rfl ?_
  subst hQ
  refine g_vret hC () hr ?_ rfl dX3_pay_22
  trivial

abbrev rm_X3_tryPledge : Room := { frames := 3, cells := 0, slots := 0, locals := 63 }
set_option maxRecDepth 100000 in
set_option maxHeartbeats 4000000 in
theorem c_X3_tryPledge (l : Launch) (D : va_G) (cI cZ : ClassId) (hs : Nat) (hp : Nat) (hc : Nat) (c : Nat → Int32) (r : Nat → Nat) (ti : Int32) (np : Nat) (nq : Nat) (nd : Nat) (P : Nat → Nat → Nat) (k : Nat) (hW : WFP np nq nd P) (hk : k < nq) : CtI l yX3_tryPledge wsX3_tryPledge rm_X3_tryPledge D cI cZ [.ref hs, .int (nI k)] [(hs, .inr (3, [.ref hp, .ref hc])), (hc, .inl (cI, 20, .inl c)), (hp, o2 r ti np nq nd), (r 1, .inl (cI, 5, .inl (fun k => nI (P 0 k)))), (r 2, .inl (cI, 5, .inl (fun k => nI (P 1 k)))), (r 3, .inl (cI, 5, .inl (fun k => nI (P 2 k)))), (r 4, .inl (cI, 5, .inl (fun k => nI (P 3 k)))), (r 5, .inl (cI, 5, .inl (fun k => nI (P 4 k)))), (r 6, .inl (cI, 5, .inl (fun k => nI (P 5 k))))] (fun r (_ : Unit) => r = bI (canP P c k)) (fun (_ : Unit) => [(hs, .inr (3, [.ref hp, .ref hc])), (hc, .inl (cI, 20, .inl (tryP P c k))), (hp, o2 r ti np nq nd), (r 1, .inl (cI, 5, .inl (fun k => nI (P 0 k)))), (r 2, .inl (cI, 5, .inl (fun k => nI (P 1 k)))), (r 3, .inl (cI, 5, .inl (fun k => nI (P 2 k)))), (r 4, .inl (cI, 5, .inl (fun k => nI (P 3 k)))), (r 5, .inl (cI, 5, .inl (fun k => nI (P 4 k)))), (r 6, .inl (cI, 5, .inl (fun k => nI (P 5 k))))]) 0 0 := by
  refine g_startI (ret := (some .boolean)) (own := RX3) (lv0 := [(0, .ref hs), (1, .int (nI k))]) (by decide) rfl rfl (Nat.le_of_ble_eq_true rfl) rfl ?_
  intro p e s m args below meth cd A Q hin hr hQ hC
  have hi3 : ∀ w ∈ wsX30, w ∈ wsX3_tryPledge := fun _ h => List.mem_cons_of_mem _ (List.mem_append_left _ (List.mem_append_right _ h))
  have w1 := hC.1.2.2.2.2 (.fieldLink "PluckBroker$State" 15 "PluckBroker$State" "plan" "LPluckBroker$Plan;") (List.mem_of_getElem? (i := 1) rfl)
  have w2 := hC.1.2.2.2.2 (.fieldLink "PluckBroker$State" 11 "PluckBroker$State" "cells" "[I") (List.mem_of_getElem? (i := 2) rfl)
  have w19 := hC.1.2.2.2.2 (.initialized "PluckBroker") (List.mem_of_getElem? (i := 19) rfl)
  have w39 := hC.1.2.2.2.2 (.static ⟨"PluckBroker", "put", "([III)V"⟩) (List.mem_of_getElem? (i := 39) rfl)
  obtain ⟨⟨hnp, hnq, hnd⟩, hq4, hd5⟩ := id hW
  have hk5 : k < 5 := by omega
  have ho3 : P 0 k < 3 := by have := (hq4 k hk).1; omega
  refine g_aload_n hC 0 dX3_tryPledge_0 rfl rfl ?_
  refine g_iload_n hC 1 dX3_tryPledge_1 rfl rfl ?_
  refine g_callVip (As := [.int (nI k)]) (rest := []) hC (bI (canP P c k)) (c_X3_canPledge l D cI cZ hs hp hc c r ti np nq nd P k (by first | assumption | omega) (by first | assumption | omega)) (cwV 1 hC.1.2.2.2.2 gX3_tryPledge_X3_canPledge rfl rfl rfl dV_X3_canPledge ⟨Nat.le_of_ble_eq_true rfl, Nat.le_of_ble_eq_true rfl⟩) rfl rfl rfl rfl (Nat.le_of_ble_eq_true rfl) dX3_tryPledge_2 ⟨Nat.le_of_ble_eq_true rfl, Nat.le_of_ble_eq_true rfl⟩ [0, 1, 2, 3, 4, 5, 6, 7, 8] rfl rfl ?_
  refine g_if_ne_b hC 10 dX3_tryPledge_5 (by decide) (fun h5t => ?_) (fun h5f => ?_)
  · refine g_aload_n hC 0 dX3_tryPledge_10 rfl rfl ?_
    refine g_aload_n hC 0 dX3_tryPledge_11 rfl rfl ?_
    refine g_get (C := RX3) (T := TX3) (N := 2) (ci := 3) (v := .ref hp) hC hi3 0 rfl rfl 0 (by decide) w1 (fun _ h => h) rfl dX3_tryPledge_12 ?_
    refine g_iload_n hC 1 dX3_tryPledge_15 rfl rfl ?_
    refine g_callVip (As := [.int (nI k)]) (rest := [.ref hs]) hC (nI (P 0 k)) (c_X2_ownerOf l D cI cZ hp r ti np nq nd P k (by first | assumption | omega)) (cwV 1 hC.1.2.2.2.2 gX3_tryPledge_X2_ownerOf rfl rfl rfl dV_X2_ownerOf ⟨Nat.le_of_ble_eq_true rfl, Nat.le_of_ble_eq_true rfl⟩) rfl rfl rfl rfl (Nat.le_of_ble_eq_true rfl) dX3_tryPledge_16 ⟨Nat.le_of_ble_eq_true rfl, Nat.le_of_ble_eq_true rfl⟩ [2, 3] rfl rfl ?_
    refine g_aload_n hC 0 dX3_tryPledge_19 rfl rfl ?_
    refine g_get (C := RX3) (T := TX3) (N := 2) (ci := 3) (v := .ref hp) hC hi3 0 rfl rfl 0 (by decide) w1 (fun _ h => h) rfl dX3_tryPledge_20 ?_
    refine g_iload_n hC 1 dX3_tryPledge_23 rfl rfl ?_
    refine g_callVip (As := [.int (nI k)]) (rest := [.int (nI (P 0 k)), .ref hs]) hC (nI (P 1 k)) (c_X2_worthOf l D cI cZ hp r ti np nq nd P k (by first | assumption | omega)) (cwV 1 hC.1.2.2.2.2 gX3_tryPledge_X2_worthOf rfl rfl rfl dV_X2_worthOf ⟨Nat.le_of_ble_eq_true rfl, Nat.le_of_ble_eq_true rfl⟩) rfl rfl rfl rfl (Nat.le_of_ble_eq_true rfl) dX3_tryPledge_24 ⟨Nat.le_of_ble_eq_true rfl, Nat.le_of_ble_eq_true rfl⟩ [2, 4] rfl rfl ?_
    refine g_callVv (As := [.int (nI (P 0 k)), .int (nI (P 1 k))]) (rest := []) hC (c_X3_pay l D cI cZ hs hp hc c (P 0 k) (nI (P 1 k)) (by first | assumption | omega)) (cwV 2 hC.1.2.2.2.2 gX3_tryPledge_X3_pay rfl rfl rfl dV_X3_pay ⟨Nat.le_of_ble_eq_true rfl, Nat.le_of_ble_eq_true rfl⟩) rfl rfl rfl rfl (Nat.le_of_ble_eq_true rfl) dX3_tryPledge_27 ⟨Nat.le_of_ble_eq_true rfl, Nat.le_of_ble_eq_true rfl⟩ [0, 1] [2, 3, 4, 5, 6, 7, 8] [7, 8, 0, 1, 2, 3, 4, 5, 6] (fun (_ : Unit) => [(hs, .inr (3, [.ref hp, .ref hc])), (hc, .inl (cI, 20, .inl (payF c (P 0 k) (nI (P 1 k))))), (hp, o2 r ti np nq nd), (r 1, .inl (cI, 5, .inl (fun k => nI (P 0 k)))), (r 2, .inl (cI, 5, .inl (fun k => nI (P 1 k)))), (r 3, .inl (cI, 5, .inl (fun k => nI (P 2 k)))), (r 4, .inl (cI, 5, .inl (fun k => nI (P 3 k)))), (r 5, .inl (cI, 5, .inl (fun k => nI (P 4 k)))), (r 6, .inl (cI, 5, .inl (fun k => nI (P 5 k))))]) rfl rfl rfl (fun _ => rfl) (fun z27 hp27 => ?_)
    refine g_is (ws2 := [(hs, .inr (3, [.ref hp, .ref hc])), (hc, .inl (cI, 20, .inl (payF c (P 0 k) (nI (P 1 k))))), (hp, o2 r ti np nq nd), (r 1, .inl (cI, 5, .inl (fun k => nI (P 0 k)))), (r 2, .inl (cI, 5, .inl (fun k => nI (P 1 k)))), (r 3, .inl (cI, 5, .inl (fun k => nI (P 2 k)))), (r 4, .inl (cI, 5, .inl (fun k => nI (P 3 k)))), (r 5, .inl (cI, 5, .inl (fun k => nI (P 4 k)))), (r 6, .inl (cI, 5, .inl (fun k => nI (P 5 k))))]) (lv2 := [(0, .ref hs), (1, .int (nI k))]) (st2 := []) rfl rfl rfl ?_
    refine g_aload_n hC 0 dX3_tryPledge_30 rfl rfl ?_
    refine g_get (C := RX3) (T := TX3) (N := 2) (ci := 3) (v := .ref hc) hC hi3 0 rfl rfl 1 (by decide) w2 (fun _ h => h) rfl dX3_tryPledge_31 ?_
    refine g_iconst (v := nI 0) hC dX3_tryPledge_34 rfl ?_
    refine g_aload_n hC 0 dX3_tryPledge_35 rfl rfl ?_
    refine g_callVip (As := []) (rest := [.int (nI 0), .ref hc]) hC ((payF c (P 0 k) (nI (P 1 k))) 0) (c_X3_inTill l D cI cZ hs hp hc (payF c (P 0 k) (nI (P 1 k)))) (cwV 0 hC.1.2.2.2.2 gX3_tryPledge_X3_inTill rfl rfl rfl dV_X3_inTill ⟨Nat.le_of_ble_eq_true rfl, Nat.le_of_ble_eq_true rfl⟩) rfl rfl rfl rfl (Nat.le_of_ble_eq_true rfl) dX3_tryPledge_36 ⟨Nat.le_of_ble_eq_true rfl, Nat.le_of_ble_eq_true rfl⟩ [0, 1] rfl rfl ?_
    refine g_top (y := c 0) (payF_ne _ _ (by omega)) ?_
    refine g_aload_n hC 0 dX3_tryPledge_39 rfl rfl ?_
    refine g_get (C := RX3) (T := TX3) (N := 2) (ci := 3) (v := .ref hp) hC hi3 0 rfl rfl 0 (by decide) w1 (fun _ h => h) rfl dX3_tryPledge_40 ?_
    refine g_iload_n hC 1 dX3_tryPledge_43 rfl rfl ?_
    refine g_callVip (As := [.int (nI k)]) (rest := [.int (c 0), .int (nI 0), .ref hc]) hC (nI (P 1 k)) (c_X2_worthOf l D cI cZ hp r ti np nq nd P k (by first | assumption | omega)) (cwV 1 hC.1.2.2.2.2 gX3_tryPledge_X2_worthOf rfl rfl rfl dV_X2_worthOf ⟨Nat.le_of_ble_eq_true rfl, Nat.le_of_ble_eq_true rfl⟩) rfl rfl rfl rfl (Nat.le_of_ble_eq_true rfl) dX3_tryPledge_44 ⟨Nat.le_of_ble_eq_true rfl, Nat.le_of_ble_eq_true rfl⟩ [2, 4] rfl rfl ?_
    refine g_isub hC dX3_tryPledge_47 ?_
    refine g_callSNv (As := [.ref hc, .int (nI 0), .int ((c 0) - (nI (P 1 k)))]) (rest := []) hC (c_X5_put l D cI cZ hc 20 (payF c (P 0 k) (nI (P 1 k))) 0 ((c 0) - (nI (P 1 k))) (by first | assumption | omega) (by first | assumption | omega)) ⟨va_cnB 3 hC.1.2.2.2.2 gX3_tryPledge_X5_put_n25 rfl rfl rfl (hC.2.2.1.m 7 rfl) w19 dS_X5_put ⟨Nat.le_of_ble_eq_true rfl, Nat.le_of_ble_eq_true rfl⟩, w39, trivial⟩ rfl rfl (Nat.le_of_ble_eq_true rfl) dX3_tryPledge_48 ⟨Nat.le_of_ble_eq_true rfl, Nat.le_of_ble_eq_true rfl⟩ [1] [0, 2, 3, 4, 5, 6, 7, 8] [0, 8, 1, 2, 3, 4, 5, 6, 7] (fun (_ : Unit) => [(hs, .inr (3, [.ref hp, .ref hc])), (hc, .inl (cI, 20, .inl (upd (payF c (P 0 k) (nI (P 1 k))) 0 ((c 0) - (nI (P 1 k)))))), (hp, o2 r ti np nq nd), (r 1, .inl (cI, 5, .inl (fun k => nI (P 0 k)))), (r 2, .inl (cI, 5, .inl (fun k => nI (P 1 k)))), (r 3, .inl (cI, 5, .inl (fun k => nI (P 2 k)))), (r 4, .inl (cI, 5, .inl (fun k => nI (P 3 k)))), (r 5, .inl (cI, 5, .inl (fun k => nI (P 4 k)))), (r 6, .inl (cI, 5, .inl (fun k => nI (P 5 k))))]) rfl rfl rfl (fun _ => rfl) (fun z48 hp48 => ?_)
    refine g_is (ws2 := [(hs, .inr (3, [.ref hp, .ref hc])), (hc, .inl (cI, 20, .inl (upd (payF c (P 0 k) (nI (P 1 k))) 0 ((c 0) - (nI (P 1 k)))))), (hp, o2 r ti np nq nd), (r 1, .inl (cI, 5, .inl (fun k => nI (P 0 k)))), (r 2, .inl (cI, 5, .inl (fun k => nI (P 1 k)))), (r 3, .inl (cI, 5, .inl (fun k => nI (P 2 k)))), (r 4, .inl (cI, 5, .inl (fun k => nI (P 3 k)))), (r 5, .inl (cI, 5, .inl (fun k => nI (P 4 k)))), (r 6, .inl (cI, 5, .inl (fun k => nI (P 5 k))))]) (lv2 := [(0, .ref hs), (1, .int (nI k))]) (st2 := []) rfl rfl rfl ?_
    refine g_aload_n hC 0 dX3_tryPledge_51 rfl rfl ?_
    refine g_get (C := RX3) (T := TX3) (N := 2) (ci := 3) (v := .ref hc) hC hi3 0 rfl rfl 1 (by decide) w2 (fun _ h => h) rfl dX3_tryPledge_52 ?_
    refine g_iconst (v := nI 5) hC dX3_tryPledge_55 rfl ?_
    refine g_iload_n hC 1 dX3_tryPledge_56 rfl rfl ?_
    refine g_iadd_n (a := 5) (b := k) hC dX3_tryPledge_57 ?_
    refine g_iconst (v := nI 1) hC dX3_tryPledge_58 rfl ?_
    refine g_callSNv (As := [.ref hc, .int (nI (5 + k)), .int (nI 1)]) (rest := []) hC (c_X5_put l D cI cZ hc 20 (upd (payF c (P 0 k) (nI (P 1 k))) 0 ((c 0) - (nI (P 1 k)))) (5 + k) (nI 1) (by first | assumption | omega) (by first | assumption | omega)) ⟨va_cnB 3 hC.1.2.2.2.2 gX3_tryPledge_X5_put_n25 rfl rfl rfl (hC.2.2.1.m 7 rfl) w19 dS_X5_put ⟨Nat.le_of_ble_eq_true rfl, Nat.le_of_ble_eq_true rfl⟩, w39, trivial⟩ rfl rfl (Nat.le_of_ble_eq_true rfl) dX3_tryPledge_59 ⟨Nat.le_of_ble_eq_true rfl, Nat.le_of_ble_eq_true rfl⟩ [1] [0, 2, 3, 4, 5, 6, 7, 8] [0, 8, 1, 2, 3, 4, 5, 6, 7] (fun (_ : Unit) => [(hs, .inr (3, [.ref hp, .ref hc])), (hc, .inl (cI, 20, .inl (upd (upd (payF c (P 0 k) (nI (P 1 k))) 0 ((c 0) - (nI (P 1 k)))) (5 + k) (nI 1)))), (hp, o2 r ti np nq nd), (r 1, .inl (cI, 5, .inl (fun k => nI (P 0 k)))), (r 2, .inl (cI, 5, .inl (fun k => nI (P 1 k)))), (r 3, .inl (cI, 5, .inl (fun k => nI (P 2 k)))), (r 4, .inl (cI, 5, .inl (fun k => nI (P 3 k)))), (r 5, .inl (cI, 5, .inl (fun k => nI (P 4 k)))), (r 6, .inl (cI, 5, .inl (fun k => nI (P 5 k))))]) rfl rfl rfl (fun _ => rfl) (fun z59 hp59 => ?_)
    refine g_is (ws2 := [(hs, .inr (3, [.ref hp, .ref hc])), (hc, .inl (cI, 20, .inl (upd (upd (payF c (P 0 k) (nI (P 1 k))) 0 ((c 0) - (nI (P 1 k)))) (5 + k) (nI 1)))), (hp, o2 r ti np nq nd), (r 1, .inl (cI, 5, .inl (fun k => nI (P 0 k)))), (r 2, .inl (cI, 5, .inl (fun k => nI (P 1 k)))), (r 3, .inl (cI, 5, .inl (fun k => nI (P 2 k)))), (r 4, .inl (cI, 5, .inl (fun k => nI (P 3 k)))), (r 5, .inl (cI, 5, .inl (fun k => nI (P 4 k)))), (r 6, .inl (cI, 5, .inl (fun k => nI (P 5 k))))]) (lv2 := [(0, .ref hs), (1, .int (nI k))]) (st2 := []) rfl rfl rfl ?_
    refine g_aload_n hC 0 dX3_tryPledge_62 rfl rfl ?_
    refine g_get (C := RX3) (T := TX3) (N := 2) (ci := 3) (v := .ref hc) hC hi3 0 rfl rfl 1 (by decide) w2 (fun _ h => h) rfl dX3_tryPledge_63 ?_
    refine g_bipush (v := nI 10) hC dX3_tryPledge_66 (by decide +kernel) ?_
    refine g_iload_n hC 1 dX3_tryPledge_68 rfl rfl ?_
    refine g_iadd_n (a := 10) (b := k) hC dX3_tryPledge_69 ?_
    refine g_aload_n hC 0 dX3_tryPledge_70 rfl rfl ?_
    refine g_callVip (As := []) (rest := [.int (nI (10 + k)), .ref hc]) hC ((upd (upd (payF c (P 0 k) (nI (P 1 k))) 0 ((c 0) - (nI (P 1 k)))) (5 + k) (nI 1)) 1) (c_X3_today l D cI cZ hs hp hc (upd (upd (payF c (P 0 k) (nI (P 1 k))) 0 ((c 0) - (nI (P 1 k)))) (5 + k) (nI 1))) (cwV 0 hC.1.2.2.2.2 gX3_tryPledge_X3_today rfl rfl rfl dV_X3_today ⟨Nat.le_of_ble_eq_true rfl, Nat.le_of_ble_eq_true rfl⟩) rfl rfl rfl rfl (Nat.le_of_ble_eq_true rfl) dX3_tryPledge_71 ⟨Nat.le_of_ble_eq_true rfl, Nat.le_of_ble_eq_true rfl⟩ [0, 1] rfl rfl ?_
    refine g_top (y := c 1) (by rw [upd_ne _ _ (by omega), upd_ne _ _ (by omega), payF_ne _ _ (by omega)]) ?_
    refine g_callSNv (As := [.ref hc, .int (nI (10 + k)), .int (c 1)]) (rest := []) hC (c_X5_put l D cI cZ hc 20 (upd (upd (payF c (P 0 k) (nI (P 1 k))) 0 ((c 0) - (nI (P 1 k)))) (5 + k) (nI 1)) (10 + k) (c 1) (by first | assumption | omega) (by first | assumption | omega)) ⟨va_cnB 3 hC.1.2.2.2.2 gX3_tryPledge_X5_put_n25 rfl rfl rfl (hC.2.2.1.m 7 rfl) w19 dS_X5_put ⟨Nat.le_of_ble_eq_true rfl, Nat.le_of_ble_eq_true rfl⟩, w39, trivial⟩ rfl rfl (Nat.le_of_ble_eq_true rfl) dX3_tryPledge_74 ⟨Nat.le_of_ble_eq_true rfl, Nat.le_of_ble_eq_true rfl⟩ [1] [0, 2, 3, 4, 5, 6, 7, 8] [0, 8, 1, 2, 3, 4, 5, 6, 7] (fun (_ : Unit) => [(hs, .inr (3, [.ref hp, .ref hc])), (hc, .inl (cI, 20, .inl (upd (upd (upd (payF c (P 0 k) (nI (P 1 k))) 0 ((c 0) - (nI (P 1 k)))) (5 + k) (nI 1)) (10 + k) (c 1)))), (hp, o2 r ti np nq nd), (r 1, .inl (cI, 5, .inl (fun k => nI (P 0 k)))), (r 2, .inl (cI, 5, .inl (fun k => nI (P 1 k)))), (r 3, .inl (cI, 5, .inl (fun k => nI (P 2 k)))), (r 4, .inl (cI, 5, .inl (fun k => nI (P 3 k)))), (r 5, .inl (cI, 5, .inl (fun k => nI (P 4 k)))), (r 6, .inl (cI, 5, .inl (fun k => nI (P 5 k))))]) rfl rfl rfl (fun _ => rfl) (fun z74 hp74 => ?_)
    refine g_is (ws2 := [(hs, .inr (3, [.ref hp, .ref hc])), (hc, .inl (cI, 20, .inl (upd (upd (upd (payF c (P 0 k) (nI (P 1 k))) 0 ((c 0) - (nI (P 1 k)))) (5 + k) (nI 1)) (10 + k) (c 1)))), (hp, o2 r ti np nq nd), (r 1, .inl (cI, 5, .inl (fun k => nI (P 0 k)))), (r 2, .inl (cI, 5, .inl (fun k => nI (P 1 k)))), (r 3, .inl (cI, 5, .inl (fun k => nI (P 2 k)))), (r 4, .inl (cI, 5, .inl (fun k => nI (P 3 k)))), (r 5, .inl (cI, 5, .inl (fun k => nI (P 4 k)))), (r 6, .inl (cI, 5, .inl (fun k => nI (P 5 k))))]) (lv2 := [(0, .ref hs), (1, .int (nI k))]) (st2 := []) rfl rfl rfl ?_
    have ecell : (upd (upd (upd (payF c (P 0 k) (nI (P 1 k))) 0 ((c 0) - (nI (P 1 k)))) (5 + k) (nI 1)) (10 + k) (c 1)) = (tryP P c k) := by rw [tryP, if_pos h5t]; rfl
    refine g_ws (ws2 := [(hs, .inr (3, [.ref hp, .ref hc])), (hc, .inl (cI, 20, .inl (tryP P c k))), (hp, o2 r ti np nq nd), (r 1, .inl (cI, 5, .inl (fun k => nI (P 0 k)))), (r 2, .inl (cI, 5, .inl (fun k => nI (P 1 k)))), (r 3, .inl (cI, 5, .inl (fun k => nI (P 2 k)))), (r 4, .inl (cI, 5, .inl (fun k => nI (P 3 k)))), (r 5, .inl (cI, 5, .inl (fun k => nI (P 4 k)))), (r 6, .inl (cI, 5, .inl (fun k => nI (P 5 k))))]) (congrArg (fun zz : Nat → Int32 => ([(hs, .inr (3, [.ref hp, .ref hc])), (hc, .inl (cI, 20, .inl zz)), (hp, o2 r ti np nq nd), (r 1, .inl (cI, 5, .inl (fun k => nI (P 0 k)))), (r 2, .inl (cI, 5, .inl (fun k => nI (P 1 k)))), (r 3, .inl (cI, 5, .inl (fun k => nI (P 2 k)))), (r 4, .inl (cI, 5, .inl (fun k => nI (P 3 k)))), (r 5, .inl (cI, 5, .inl (fun k => nI (P 4 k)))), (r 6, .inl (cI, 5, .inl (fun k => nI (P 5 k))))] : va_W)) ecell) ?_
    refine g_iconst (v := nI 1) hC dX3_tryPledge_77 rfl ?_
    subst hQ
    refine g_zret (v := nI 1) hC () hr (by decide +kernel) ?_ rfl dX3_tryPledge_78
    exact (bI_t h5t).symm
  have ecell : c = (tryP P c k) := by rw [tryP, if_neg h5f]
  refine g_ws (ws2 := [(hs, .inr (3, [.ref hp, .ref hc])), (hc, .inl (cI, 20, .inl (tryP P c k))), (hp, o2 r ti np nq nd), (r 1, .inl (cI, 5, .inl (fun k => nI (P 0 k)))), (r 2, .inl (cI, 5, .inl (fun k => nI (P 1 k)))), (r 3, .inl (cI, 5, .inl (fun k => nI (P 2 k)))), (r 4, .inl (cI, 5, .inl (fun k => nI (P 3 k)))), (r 5, .inl (cI, 5, .inl (fun k => nI (P 4 k)))), (r 6, .inl (cI, 5, .inl (fun k => nI (P 5 k))))]) (congrArg (fun zz : Nat → Int32 => ([(hs, .inr (3, [.ref hp, .ref hc])), (hc, .inl (cI, 20, .inl zz)), (hp, o2 r ti np nq nd), (r 1, .inl (cI, 5, .inl (fun k => nI (P 0 k)))), (r 2, .inl (cI, 5, .inl (fun k => nI (P 1 k)))), (r 3, .inl (cI, 5, .inl (fun k => nI (P 2 k)))), (r 4, .inl (cI, 5, .inl (fun k => nI (P 3 k)))), (r 5, .inl (cI, 5, .inl (fun k => nI (P 4 k)))), (r 6, .inl (cI, 5, .inl (fun k => nI (P 5 k))))] : va_W)) ecell) ?_
  refine g_iconst (v := nI 0) hC dX3_tryPledge_8 rfl ?_
  subst hQ
  refine g_zret (v := nI 0) hC () hr (by decide +kernel) ?_ rfl dX3_tryPledge_9
  exact (bI_f h5f).symm

abbrev rm_X3_tryPledge_no : Room := { frames := 2, cells := 0, slots := 0, locals := 42 }
set_option maxRecDepth 100000 in
set_option maxHeartbeats 4000000 in
theorem c_X3_tryPledge_no (l : Launch) (D : va_G) (cI cZ : ClassId) (hs : Nat) (hp : Nat) (hc : Nat) (c : Nat → Int32) (r : Nat → Nat) (ti : Int32) (np : Nat) (nq : Nat) (nd : Nat) (P : Nat → Nat → Nat) (a : Int32) (hW : WFP np nq nd P) (ha : ¬ inR a nq) : CtI l yX3_tryPledge wsX3_tryPledge rm_X3_tryPledge_no D cI cZ [.ref hs, .int a] [(hs, .inr (3, [.ref hp, .ref hc])), (hc, .inl (cI, 20, .inl c)), (hp, o2 r ti np nq nd), (r 1, .inl (cI, 5, .inl (fun k => nI (P 0 k)))), (r 2, .inl (cI, 5, .inl (fun k => nI (P 1 k)))), (r 3, .inl (cI, 5, .inl (fun k => nI (P 2 k)))), (r 4, .inl (cI, 5, .inl (fun k => nI (P 3 k)))), (r 5, .inl (cI, 5, .inl (fun k => nI (P 4 k)))), (r 6, .inl (cI, 5, .inl (fun k => nI (P 5 k))))] (fun r (_ : Unit) => r = nI 0) (fun (_ : Unit) => [(hs, .inr (3, [.ref hp, .ref hc])), (hc, .inl (cI, 20, .inl c)), (hp, o2 r ti np nq nd), (r 1, .inl (cI, 5, .inl (fun k => nI (P 0 k)))), (r 2, .inl (cI, 5, .inl (fun k => nI (P 1 k)))), (r 3, .inl (cI, 5, .inl (fun k => nI (P 2 k)))), (r 4, .inl (cI, 5, .inl (fun k => nI (P 3 k)))), (r 5, .inl (cI, 5, .inl (fun k => nI (P 4 k)))), (r 6, .inl (cI, 5, .inl (fun k => nI (P 5 k))))]) 0 0 := by
  refine g_startI (ret := (some .boolean)) (own := RX3) (lv0 := [(0, .ref hs), (1, .int a)]) (by decide) rfl rfl (Nat.le_of_ble_eq_true rfl) rfl ?_
  intro p e s m args below meth cd A Q hin hr hQ hC
  refine g_aload_n hC 0 dX3_tryPledge_0 rfl rfl ?_
  refine g_iload_n hC 1 dX3_tryPledge_1 rfl rfl ?_
  refine g_callVip (As := [.int a]) (rest := []) hC (nI 0) (c_X3_canPledge_no l D cI cZ hs hp hc c r ti np nq nd P a (by first | assumption | omega) (by first | assumption | omega)) (cwV 1 hC.1.2.2.2.2 gX3_tryPledge_X3_canPledge rfl rfl rfl dV_X3_canPledge ⟨Nat.le_of_ble_eq_true rfl, Nat.le_of_ble_eq_true rfl⟩) rfl rfl rfl rfl (Nat.le_of_ble_eq_true rfl) dX3_tryPledge_2 ⟨Nat.le_of_ble_eq_true rfl, Nat.le_of_ble_eq_true rfl⟩ [0, 1, 2, 3, 4, 5, 6, 7, 8] rfl rfl ?_
  refine g_if_ne_n (a := 0) hC (by omega) 10 dX3_tryPledge_5 (by decide) (fun q => absurd q (by decide)) (fun _ => ?_)
  refine g_iconst (v := nI 0) hC dX3_tryPledge_8 rfl ?_
  subst hQ
  refine g_zret (v := nI 0) hC () hr (by decide +kernel) ?_ rfl dX3_tryPledge_9
  rfl

abbrev rm_X3_tryRedeem : Room := { frames := 4, cells := 0, slots := 0, locals := 84 }
set_option maxRecDepth 100000 in
set_option maxHeartbeats 4000000 in
theorem c_X3_tryRedeem (l : Launch) (D : va_G) (cI cZ : ClassId) (hs : Nat) (hp : Nat) (hc : Nat) (c : Nat → Int32) (r : Nat → Nat) (ti : Int32) (np : Nat) (nq : Nat) (nd : Nat) (P : Nat → Nat → Nat) (k : Nat) (hW : WFP np nq nd P) (hk : k < nq) : CtI l yX3_tryRedeem wsX3_tryRedeem rm_X3_tryRedeem D cI cZ [.ref hs, .int (nI k)] [(hs, .inr (3, [.ref hp, .ref hc])), (hc, .inl (cI, 20, .inl c)), (hp, o2 r ti np nq nd), (r 1, .inl (cI, 5, .inl (fun k => nI (P 0 k)))), (r 2, .inl (cI, 5, .inl (fun k => nI (P 1 k)))), (r 3, .inl (cI, 5, .inl (fun k => nI (P 2 k)))), (r 4, .inl (cI, 5, .inl (fun k => nI (P 3 k)))), (r 5, .inl (cI, 5, .inl (fun k => nI (P 4 k)))), (r 6, .inl (cI, 5, .inl (fun k => nI (P 5 k))))] (fun r (_ : Unit) => r = bI (canR P c k)) (fun (_ : Unit) => [(hs, .inr (3, [.ref hp, .ref hc])), (hc, .inl (cI, 20, .inl (tryR P c k))), (hp, o2 r ti np nq nd), (r 1, .inl (cI, 5, .inl (fun k => nI (P 0 k)))), (r 2, .inl (cI, 5, .inl (fun k => nI (P 1 k)))), (r 3, .inl (cI, 5, .inl (fun k => nI (P 2 k)))), (r 4, .inl (cI, 5, .inl (fun k => nI (P 3 k)))), (r 5, .inl (cI, 5, .inl (fun k => nI (P 4 k)))), (r 6, .inl (cI, 5, .inl (fun k => nI (P 5 k))))]) 0 0 := by
  refine g_startI (ret := (some .boolean)) (own := RX3) (lv0 := [(0, .ref hs), (1, .int (nI k))]) (by decide) rfl rfl (Nat.le_of_ble_eq_true rfl) rfl ?_
  intro p e s m args below meth cd A Q hin hr hQ hC
  have hi3 : ∀ w ∈ wsX30, w ∈ wsX3_tryRedeem := fun _ h => List.mem_cons_of_mem _ (List.mem_append_left _ (List.mem_append_right _ h))
  have w1 := hC.1.2.2.2.2 (.fieldLink "PluckBroker$State" 15 "PluckBroker$State" "plan" "LPluckBroker$Plan;") (List.mem_of_getElem? (i := 1) rfl)
  have w2 := hC.1.2.2.2.2 (.fieldLink "PluckBroker$State" 11 "PluckBroker$State" "cells" "[I") (List.mem_of_getElem? (i := 2) rfl)
  have w19 := hC.1.2.2.2.2 (.initialized "PluckBroker") (List.mem_of_getElem? (i := 19) rfl)
  have w58 := hC.1.2.2.2.2 (.static ⟨"PluckBroker", "put", "([III)V"⟩) (List.mem_of_getElem? (i := 58) rfl)
  obtain ⟨⟨hnp, hnq, hnd⟩, hq4, hd5⟩ := id hW
  have hk5 : k < 5 := by omega
  have ho3 : P 0 k < 3 := by have := (hq4 k hk).1; omega
  refine g_aload_n hC 0 dX3_tryRedeem_0 rfl rfl ?_
  refine g_iload_n hC 1 dX3_tryRedeem_1 rfl rfl ?_
  refine g_callVip (As := [.int (nI k)]) (rest := []) hC (bI (canR P c k)) (c_X3_canRedeem l D cI cZ hs hp hc c r ti np nq nd P k (by first | assumption | omega) (by first | assumption | omega)) (cwV 1 hC.1.2.2.2.2 gX3_tryRedeem_X3_canRedeem rfl rfl rfl dV_X3_canRedeem ⟨Nat.le_of_ble_eq_true rfl, Nat.le_of_ble_eq_true rfl⟩) rfl rfl rfl rfl (Nat.le_of_ble_eq_true rfl) dX3_tryRedeem_2 ⟨Nat.le_of_ble_eq_true rfl, Nat.le_of_ble_eq_true rfl⟩ [0, 1, 2, 3, 4, 5, 6, 7, 8] rfl rfl ?_
  refine g_if_ne_b hC 10 dX3_tryRedeem_5 (by decide) (fun h5t => ?_) (fun h5f => ?_)
  · refine g_aload_n hC 0 dX3_tryRedeem_10 rfl rfl ?_
    refine g_iload_n hC 1 dX3_tryRedeem_11 rfl rfl ?_
    refine g_callVip (As := [.int (nI k)]) (rest := []) hC (owed P c k) (c_X3_owedFor l D cI cZ hs hp hc c r ti np nq nd P k (by first | assumption | omega)) (cwV 1 hC.1.2.2.2.2 gX3_tryRedeem_X3_owedFor rfl rfl rfl dV_X3_owedFor ⟨Nat.le_of_ble_eq_true rfl, Nat.le_of_ble_eq_true rfl⟩) rfl rfl rfl rfl (Nat.le_of_ble_eq_true rfl) dX3_tryRedeem_12 ⟨Nat.le_of_ble_eq_true rfl, Nat.le_of_ble_eq_true rfl⟩ [0, 1, 2, 3, 4, 5, 6, 7, 8] rfl rfl ?_
    refine g_istore_n (lv' := [(0, .ref hs), (1, .int (nI k)), (2, .int (owed P c k))]) hC [1, 2, 0] dX3_tryRedeem_15 rfl (by decide) rfl ?_
    refine g_aload_n hC 0 dX3_tryRedeem_16 rfl rfl ?_
    refine g_aload_n hC 0 dX3_tryRedeem_17 rfl rfl ?_
    refine g_get (C := RX3) (T := TX3) (N := 2) (ci := 3) (v := .ref hp) hC hi3 0 rfl rfl 0 (by decide) w1 (fun _ h => h) rfl dX3_tryRedeem_18 ?_
    refine g_iload_n hC 1 dX3_tryRedeem_21 rfl rfl ?_
    refine g_callVip (As := [.int (nI k)]) (rest := [.ref hs]) hC (nI (P 0 k)) (c_X2_ownerOf l D cI cZ hp r ti np nq nd P k (by first | assumption | omega)) (cwV 1 hC.1.2.2.2.2 gX3_tryRedeem_X2_ownerOf rfl rfl rfl dV_X2_ownerOf ⟨Nat.le_of_ble_eq_true rfl, Nat.le_of_ble_eq_true rfl⟩) rfl rfl rfl rfl (Nat.le_of_ble_eq_true rfl) dX3_tryRedeem_22 ⟨Nat.le_of_ble_eq_true rfl, Nat.le_of_ble_eq_true rfl⟩ [2, 3] rfl rfl ?_
    refine g_iload_n hC 2 dX3_tryRedeem_25 rfl rfl ?_
    refine g_ineg hC dX3_tryRedeem_26 ?_
    refine g_callVv (As := [.int (nI (P 0 k)), .int (-(owed P c k))]) (rest := []) hC (c_X3_pay l D cI cZ hs hp hc c (P 0 k) (-(owed P c k)) (by first | assumption | omega)) (cwV 2 hC.1.2.2.2.2 gX3_tryRedeem_X3_pay rfl rfl rfl dV_X3_pay ⟨Nat.le_of_ble_eq_true rfl, Nat.le_of_ble_eq_true rfl⟩) rfl rfl rfl rfl (Nat.le_of_ble_eq_true rfl) dX3_tryRedeem_27 ⟨Nat.le_of_ble_eq_true rfl, Nat.le_of_ble_eq_true rfl⟩ [0, 1] [2, 3, 4, 5, 6, 7, 8] [7, 8, 0, 1, 2, 3, 4, 5, 6] (fun (_ : Unit) => [(hs, .inr (3, [.ref hp, .ref hc])), (hc, .inl (cI, 20, .inl (payF c (P 0 k) (-(owed P c k))))), (hp, o2 r ti np nq nd), (r 1, .inl (cI, 5, .inl (fun k => nI (P 0 k)))), (r 2, .inl (cI, 5, .inl (fun k => nI (P 1 k)))), (r 3, .inl (cI, 5, .inl (fun k => nI (P 2 k)))), (r 4, .inl (cI, 5, .inl (fun k => nI (P 3 k)))), (r 5, .inl (cI, 5, .inl (fun k => nI (P 4 k)))), (r 6, .inl (cI, 5, .inl (fun k => nI (P 5 k))))]) rfl rfl rfl (fun _ => rfl) (fun z27 hp27 => ?_)
    refine g_is (ws2 := [(hs, .inr (3, [.ref hp, .ref hc])), (hc, .inl (cI, 20, .inl (payF c (P 0 k) (-(owed P c k))))), (hp, o2 r ti np nq nd), (r 1, .inl (cI, 5, .inl (fun k => nI (P 0 k)))), (r 2, .inl (cI, 5, .inl (fun k => nI (P 1 k)))), (r 3, .inl (cI, 5, .inl (fun k => nI (P 2 k)))), (r 4, .inl (cI, 5, .inl (fun k => nI (P 3 k)))), (r 5, .inl (cI, 5, .inl (fun k => nI (P 4 k)))), (r 6, .inl (cI, 5, .inl (fun k => nI (P 5 k))))]) (lv2 := [(0, .ref hs), (1, .int (nI k)), (2, .int (owed P c k))]) (st2 := []) rfl rfl rfl ?_
    refine g_aload_n hC 0 dX3_tryRedeem_30 rfl rfl ?_
    refine g_get (C := RX3) (T := TX3) (N := 2) (ci := 3) (v := .ref hc) hC hi3 0 rfl rfl 1 (by decide) w2 (fun _ h => h) rfl dX3_tryRedeem_31 ?_
    refine g_iconst (v := nI 0) hC dX3_tryRedeem_34 rfl ?_
    refine g_aload_n hC 0 dX3_tryRedeem_35 rfl rfl ?_
    refine g_callVip (As := []) (rest := [.int (nI 0), .ref hc]) hC ((payF c (P 0 k) (-(owed P c k))) 0) (c_X3_inTill l D cI cZ hs hp hc (payF c (P 0 k) (-(owed P c k)))) (cwV 0 hC.1.2.2.2.2 gX3_tryRedeem_X3_inTill rfl rfl rfl dV_X3_inTill ⟨Nat.le_of_ble_eq_true rfl, Nat.le_of_ble_eq_true rfl⟩) rfl rfl rfl rfl (Nat.le_of_ble_eq_true rfl) dX3_tryRedeem_36 ⟨Nat.le_of_ble_eq_true rfl, Nat.le_of_ble_eq_true rfl⟩ [0, 1] rfl rfl ?_
    refine g_top (y := c 0) (payF_ne _ _ (by omega)) ?_
    refine g_iload_n hC 2 dX3_tryRedeem_39 rfl rfl ?_
    refine g_iadd hC dX3_tryRedeem_40 ?_
    refine g_callSNv (As := [.ref hc, .int (nI 0), .int ((c 0) + (owed P c k))]) (rest := []) hC (c_X5_put l D cI cZ hc 20 (payF c (P 0 k) (-(owed P c k))) 0 ((c 0) + (owed P c k)) (by first | assumption | omega) (by first | assumption | omega)) ⟨va_cnB 3 hC.1.2.2.2.2 gX3_tryRedeem_X5_put_n25 rfl rfl rfl (hC.2.2.1.m 7 rfl) w19 dS_X5_put ⟨Nat.le_of_ble_eq_true rfl, Nat.le_of_ble_eq_true rfl⟩, w58, trivial⟩ rfl rfl (Nat.le_of_ble_eq_true rfl) dX3_tryRedeem_41 ⟨Nat.le_of_ble_eq_true rfl, Nat.le_of_ble_eq_true rfl⟩ [1] [0, 2, 3, 4, 5, 6, 7, 8] [0, 8, 1, 2, 3, 4, 5, 6, 7] (fun (_ : Unit) => [(hs, .inr (3, [.ref hp, .ref hc])), (hc, .inl (cI, 20, .inl (upd (payF c (P 0 k) (-(owed P c k))) 0 ((c 0) + (owed P c k))))), (hp, o2 r ti np nq nd), (r 1, .inl (cI, 5, .inl (fun k => nI (P 0 k)))), (r 2, .inl (cI, 5, .inl (fun k => nI (P 1 k)))), (r 3, .inl (cI, 5, .inl (fun k => nI (P 2 k)))), (r 4, .inl (cI, 5, .inl (fun k => nI (P 3 k)))), (r 5, .inl (cI, 5, .inl (fun k => nI (P 4 k)))), (r 6, .inl (cI, 5, .inl (fun k => nI (P 5 k))))]) rfl rfl rfl (fun _ => rfl) (fun z41 hp41 => ?_)
    refine g_is (ws2 := [(hs, .inr (3, [.ref hp, .ref hc])), (hc, .inl (cI, 20, .inl (upd (payF c (P 0 k) (-(owed P c k))) 0 ((c 0) + (owed P c k))))), (hp, o2 r ti np nq nd), (r 1, .inl (cI, 5, .inl (fun k => nI (P 0 k)))), (r 2, .inl (cI, 5, .inl (fun k => nI (P 1 k)))), (r 3, .inl (cI, 5, .inl (fun k => nI (P 2 k)))), (r 4, .inl (cI, 5, .inl (fun k => nI (P 3 k)))), (r 5, .inl (cI, 5, .inl (fun k => nI (P 4 k)))), (r 6, .inl (cI, 5, .inl (fun k => nI (P 5 k))))]) (lv2 := [(0, .ref hs), (1, .int (nI k)), (2, .int (owed P c k))]) (st2 := []) rfl rfl rfl ?_
    refine g_aload_n hC 0 dX3_tryRedeem_44 rfl rfl ?_
    refine g_get (C := RX3) (T := TX3) (N := 2) (ci := 3) (v := .ref hc) hC hi3 0 rfl rfl 1 (by decide) w2 (fun _ h => h) rfl dX3_tryRedeem_45 ?_
    refine g_iconst (v := nI 5) hC dX3_tryRedeem_48 rfl ?_
    refine g_iload_n hC 1 dX3_tryRedeem_49 rfl rfl ?_
    refine g_iadd_n (a := 5) (b := k) hC dX3_tryRedeem_50 ?_
    refine g_iconst (v := nI 0) hC dX3_tryRedeem_51 rfl ?_
    refine g_callSNv (As := [.ref hc, .int (nI (5 + k)), .int (nI 0)]) (rest := []) hC (c_X5_put l D cI cZ hc 20 (upd (payF c (P 0 k) (-(owed P c k))) 0 ((c 0) + (owed P c k))) (5 + k) (nI 0) (by first | assumption | omega) (by first | assumption | omega)) ⟨va_cnB 3 hC.1.2.2.2.2 gX3_tryRedeem_X5_put_n25 rfl rfl rfl (hC.2.2.1.m 7 rfl) w19 dS_X5_put ⟨Nat.le_of_ble_eq_true rfl, Nat.le_of_ble_eq_true rfl⟩, w58, trivial⟩ rfl rfl (Nat.le_of_ble_eq_true rfl) dX3_tryRedeem_52 ⟨Nat.le_of_ble_eq_true rfl, Nat.le_of_ble_eq_true rfl⟩ [1] [0, 2, 3, 4, 5, 6, 7, 8] [0, 8, 1, 2, 3, 4, 5, 6, 7] (fun (_ : Unit) => [(hs, .inr (3, [.ref hp, .ref hc])), (hc, .inl (cI, 20, .inl (upd (upd (payF c (P 0 k) (-(owed P c k))) 0 ((c 0) + (owed P c k))) (5 + k) (nI 0)))), (hp, o2 r ti np nq nd), (r 1, .inl (cI, 5, .inl (fun k => nI (P 0 k)))), (r 2, .inl (cI, 5, .inl (fun k => nI (P 1 k)))), (r 3, .inl (cI, 5, .inl (fun k => nI (P 2 k)))), (r 4, .inl (cI, 5, .inl (fun k => nI (P 3 k)))), (r 5, .inl (cI, 5, .inl (fun k => nI (P 4 k)))), (r 6, .inl (cI, 5, .inl (fun k => nI (P 5 k))))]) rfl rfl rfl (fun _ => rfl) (fun z52 hp52 => ?_)
    refine g_is (ws2 := [(hs, .inr (3, [.ref hp, .ref hc])), (hc, .inl (cI, 20, .inl (upd (upd (payF c (P 0 k) (-(owed P c k))) 0 ((c 0) + (owed P c k))) (5 + k) (nI 0)))), (hp, o2 r ti np nq nd), (r 1, .inl (cI, 5, .inl (fun k => nI (P 0 k)))), (r 2, .inl (cI, 5, .inl (fun k => nI (P 1 k)))), (r 3, .inl (cI, 5, .inl (fun k => nI (P 2 k)))), (r 4, .inl (cI, 5, .inl (fun k => nI (P 3 k)))), (r 5, .inl (cI, 5, .inl (fun k => nI (P 4 k)))), (r 6, .inl (cI, 5, .inl (fun k => nI (P 5 k))))]) (lv2 := [(0, .ref hs), (1, .int (nI k)), (2, .int (owed P c k))]) (st2 := []) rfl rfl rfl ?_
    have ecell : (upd (upd (payF c (P 0 k) (-(owed P c k))) 0 ((c 0) + (owed P c k))) (5 + k) (nI 0)) = (tryR P c k) := by rw [tryR, if_pos h5t]; rfl
    refine g_ws (ws2 := [(hs, .inr (3, [.ref hp, .ref hc])), (hc, .inl (cI, 20, .inl (tryR P c k))), (hp, o2 r ti np nq nd), (r 1, .inl (cI, 5, .inl (fun k => nI (P 0 k)))), (r 2, .inl (cI, 5, .inl (fun k => nI (P 1 k)))), (r 3, .inl (cI, 5, .inl (fun k => nI (P 2 k)))), (r 4, .inl (cI, 5, .inl (fun k => nI (P 3 k)))), (r 5, .inl (cI, 5, .inl (fun k => nI (P 4 k)))), (r 6, .inl (cI, 5, .inl (fun k => nI (P 5 k))))]) (congrArg (fun zz : Nat → Int32 => ([(hs, .inr (3, [.ref hp, .ref hc])), (hc, .inl (cI, 20, .inl zz)), (hp, o2 r ti np nq nd), (r 1, .inl (cI, 5, .inl (fun k => nI (P 0 k)))), (r 2, .inl (cI, 5, .inl (fun k => nI (P 1 k)))), (r 3, .inl (cI, 5, .inl (fun k => nI (P 2 k)))), (r 4, .inl (cI, 5, .inl (fun k => nI (P 3 k)))), (r 5, .inl (cI, 5, .inl (fun k => nI (P 4 k)))), (r 6, .inl (cI, 5, .inl (fun k => nI (P 5 k))))] : va_W)) ecell) ?_
    refine g_iconst (v := nI 1) hC dX3_tryRedeem_55 rfl ?_
    subst hQ
    refine g_zret (v := nI 1) hC () hr (by decide +kernel) ?_ rfl dX3_tryRedeem_56
    exact (bI_t h5t).symm
  have ecell : c = (tryR P c k) := by rw [tryR, if_neg h5f]
  refine g_ws (ws2 := [(hs, .inr (3, [.ref hp, .ref hc])), (hc, .inl (cI, 20, .inl (tryR P c k))), (hp, o2 r ti np nq nd), (r 1, .inl (cI, 5, .inl (fun k => nI (P 0 k)))), (r 2, .inl (cI, 5, .inl (fun k => nI (P 1 k)))), (r 3, .inl (cI, 5, .inl (fun k => nI (P 2 k)))), (r 4, .inl (cI, 5, .inl (fun k => nI (P 3 k)))), (r 5, .inl (cI, 5, .inl (fun k => nI (P 4 k)))), (r 6, .inl (cI, 5, .inl (fun k => nI (P 5 k))))]) (congrArg (fun zz : Nat → Int32 => ([(hs, .inr (3, [.ref hp, .ref hc])), (hc, .inl (cI, 20, .inl zz)), (hp, o2 r ti np nq nd), (r 1, .inl (cI, 5, .inl (fun k => nI (P 0 k)))), (r 2, .inl (cI, 5, .inl (fun k => nI (P 1 k)))), (r 3, .inl (cI, 5, .inl (fun k => nI (P 2 k)))), (r 4, .inl (cI, 5, .inl (fun k => nI (P 3 k)))), (r 5, .inl (cI, 5, .inl (fun k => nI (P 4 k)))), (r 6, .inl (cI, 5, .inl (fun k => nI (P 5 k))))] : va_W)) ecell) ?_
  refine g_iconst (v := nI 0) hC dX3_tryRedeem_8 rfl ?_
  subst hQ
  refine g_zret (v := nI 0) hC () hr (by decide +kernel) ?_ rfl dX3_tryRedeem_9
  exact (bI_f h5f).symm

abbrev rm_X3_tryRedeem_no : Room := { frames := 2, cells := 0, slots := 0, locals := 42 }
set_option maxRecDepth 100000 in
set_option maxHeartbeats 4000000 in
theorem c_X3_tryRedeem_no (l : Launch) (D : va_G) (cI cZ : ClassId) (hs : Nat) (hp : Nat) (hc : Nat) (c : Nat → Int32) (r : Nat → Nat) (ti : Int32) (np : Nat) (nq : Nat) (nd : Nat) (P : Nat → Nat → Nat) (a : Int32) (hW : WFP np nq nd P) (ha : ¬ inR a nq) : CtI l yX3_tryRedeem wsX3_tryRedeem rm_X3_tryRedeem_no D cI cZ [.ref hs, .int a] [(hs, .inr (3, [.ref hp, .ref hc])), (hc, .inl (cI, 20, .inl c)), (hp, o2 r ti np nq nd), (r 1, .inl (cI, 5, .inl (fun k => nI (P 0 k)))), (r 2, .inl (cI, 5, .inl (fun k => nI (P 1 k)))), (r 3, .inl (cI, 5, .inl (fun k => nI (P 2 k)))), (r 4, .inl (cI, 5, .inl (fun k => nI (P 3 k)))), (r 5, .inl (cI, 5, .inl (fun k => nI (P 4 k)))), (r 6, .inl (cI, 5, .inl (fun k => nI (P 5 k))))] (fun r (_ : Unit) => r = nI 0) (fun (_ : Unit) => [(hs, .inr (3, [.ref hp, .ref hc])), (hc, .inl (cI, 20, .inl c)), (hp, o2 r ti np nq nd), (r 1, .inl (cI, 5, .inl (fun k => nI (P 0 k)))), (r 2, .inl (cI, 5, .inl (fun k => nI (P 1 k)))), (r 3, .inl (cI, 5, .inl (fun k => nI (P 2 k)))), (r 4, .inl (cI, 5, .inl (fun k => nI (P 3 k)))), (r 5, .inl (cI, 5, .inl (fun k => nI (P 4 k)))), (r 6, .inl (cI, 5, .inl (fun k => nI (P 5 k))))]) 0 0 := by
  refine g_startI (ret := (some .boolean)) (own := RX3) (lv0 := [(0, .ref hs), (1, .int a)]) (by decide) rfl rfl (Nat.le_of_ble_eq_true rfl) rfl ?_
  intro p e s m args below meth cd A Q hin hr hQ hC
  refine g_aload_n hC 0 dX3_tryRedeem_0 rfl rfl ?_
  refine g_iload_n hC 1 dX3_tryRedeem_1 rfl rfl ?_
  refine g_callVip (As := [.int a]) (rest := []) hC (nI 0) (c_X3_canRedeem_no l D cI cZ hs hp hc c r ti np nq nd P a (by first | assumption | omega) (by first | assumption | omega)) (cwV 1 hC.1.2.2.2.2 gX3_tryRedeem_X3_canRedeem rfl rfl rfl dV_X3_canRedeem ⟨Nat.le_of_ble_eq_true rfl, Nat.le_of_ble_eq_true rfl⟩) rfl rfl rfl rfl (Nat.le_of_ble_eq_true rfl) dX3_tryRedeem_2 ⟨Nat.le_of_ble_eq_true rfl, Nat.le_of_ble_eq_true rfl⟩ [0, 1, 2, 3, 4, 5, 6, 7, 8] rfl rfl ?_
  refine g_if_ne_n (a := 0) hC (by omega) 10 dX3_tryRedeem_5 (by decide) (fun q => absurd q (by decide)) (fun _ => ?_)
  refine g_iconst (v := nI 0) hC dX3_tryRedeem_8 rfl ?_
  subst hQ
  refine g_zret (v := nI 0) hC () hr (by decide +kernel) ?_ rfl dX3_tryRedeem_9
  rfl

abbrev rm_X3_tryGive : Room := { frames := 2, cells := 0, slots := 0, locals := 44 }
set_option maxRecDepth 100000 in
set_option maxHeartbeats 4000000 in
theorem c_X3_tryGive (l : Launch) (D : va_G) (cI cZ : ClassId) (hs : Nat) (hp : Nat) (hc : Nat) (c : Nat → Int32) (r : Nat → Nat) (ti : Int32) (np : Nat) (nq : Nat) (nd : Nat) (k : Nat) (v : Int32) (hk : k < np) (hnp : np ≤ 3) : CtI l yX3_tryGive wsX3_tryGive rm_X3_tryGive D cI cZ [.ref hs, .int (nI k), .int v] [(hs, .inr (3, [.ref hp, .ref hc])), (hc, .inl (cI, 20, .inl c)), (hp, o2 r ti np nq nd)] (fun r (_ : Unit) => r = bI (okG v)) (fun (_ : Unit) => [(hs, .inr (3, [.ref hp, .ref hc])), (hc, .inl (cI, 20, .inl (tryG c k v))), (hp, o2 r ti np nq nd)]) 0 0 := by
  refine g_startI (ret := (some .boolean)) (own := RX3) (lv0 := [(0, .ref hs), (1, .int (nI k)), (2, .int v)]) (by decide) rfl rfl (Nat.le_of_ble_eq_true rfl) rfl ?_
  intro p e s m args below meth cd A Q hin hr hQ hC
  have hi3 : ∀ w ∈ wsX30, w ∈ wsX3_tryGive := fun _ h => List.mem_cons_of_mem _ (List.mem_append_left _ (List.mem_append_right _ h))
  have w1 := hC.1.2.2.2.2 (.fieldLink "PluckBroker$State" 15 "PluckBroker$State" "plan" "LPluckBroker$Plan;") (List.mem_of_getElem? (i := 1) rfl)
  refine g_aload_n hC 0 dX3_tryGive_0 rfl rfl ?_
  refine g_get (C := RX3) (T := TX3) (N := 2) (ci := 3) (v := .ref hp) hC hi3 0 rfl rfl 0 (by decide) w1 (fun _ h => h) rfl dX3_tryGive_1 ?_
  refine g_iload_n hC 1 dX3_tryGive_4 rfl rfl ?_
  refine g_callVip (As := [.int (nI k)]) (rest := []) hC (bI (inR (nI k) np)) (c_X2_hasPerson l D cI cZ hp r ti np nq nd (nI k) (by first | assumption | omega)) (cwV 1 hC.1.2.2.2.2 gX3_tryGive_X2_hasPerson rfl rfl rfl dV_X2_hasPerson ⟨Nat.le_of_ble_eq_true rfl, Nat.le_of_ble_eq_true rfl⟩) rfl rfl rfl rfl (Nat.le_of_ble_eq_true rfl) dX3_tryGive_5 ⟨Nat.le_of_ble_eq_true rfl, Nat.le_of_ble_eq_true rfl⟩ [2] rfl rfl ?_
  refine g_if_eq_b hC 22 dX3_tryGive_8 (by decide) (fun h8t => ?_) (fun h8f => ?_)
  · exact absurd (inR_k (by omega) hk) h8t
  refine g_iload_n hC 2 dX3_tryGive_11 rfl rfl ?_
  refine g_iconst (v := nI 1) hC dX3_tryGive_12 rfl ?_
  refine g_icmp_lt hC 22 dX3_tryGive_13 (by decide) (fun h13t => ?_) (fun h13f => ?_)
  · have ecell : c = (tryG c k v) := by rw [tryG, if_neg (fun q => absurd q.1 (Int32.not_le.mpr h13t))]
    refine g_ws (ws2 := [(hs, .inr (3, [.ref hp, .ref hc])), (hc, .inl (cI, 20, .inl (tryG c k v))), (hp, o2 r ti np nq nd)]) (congrArg (fun zz : Nat → Int32 => ([(hs, .inr (3, [.ref hp, .ref hc])), (hc, .inl (cI, 20, .inl zz)), (hp, o2 r ti np nq nd)] : va_W)) ecell) ?_
    refine g_iconst (v := nI 0) hC dX3_tryGive_22 rfl ?_
    subst hQ
    refine g_zret (v := nI 0) hC () hr (by decide +kernel) ?_ rfl dX3_tryGive_23
    exact (bI_f (fun q => absurd q.1 (Int32.not_le.mpr h13t))).symm
  refine g_iload_n hC 2 dX3_tryGive_16 rfl rfl ?_
  refine g_bipush (v := nI 9) hC dX3_tryGive_17 (by decide +kernel) ?_
  refine g_icmp_le hC 24 dX3_tryGive_19 (by decide) (fun h19t => ?_) (fun h19f => ?_)
  · refine g_aload_n hC 0 dX3_tryGive_24 rfl rfl ?_
    refine g_iload_n hC 1 dX3_tryGive_25 rfl rfl ?_
    refine g_iload_n hC 2 dX3_tryGive_26 rfl rfl ?_
    refine g_callVv (As := [.int (nI k), .int v]) (rest := []) hC (c_X3_pay l D cI cZ hs hp hc c k v (by first | assumption | omega)) (cwV 2 hC.1.2.2.2.2 gX3_tryGive_X3_pay rfl rfl rfl dV_X3_pay ⟨Nat.le_of_ble_eq_true rfl, Nat.le_of_ble_eq_true rfl⟩) rfl rfl rfl rfl (Nat.le_of_ble_eq_true rfl) dX3_tryGive_27 ⟨Nat.le_of_ble_eq_true rfl, Nat.le_of_ble_eq_true rfl⟩ [0, 1] [2] [1, 2, 0] (fun (_ : Unit) => [(hs, .inr (3, [.ref hp, .ref hc])), (hc, .inl (cI, 20, .inl (payF c k v))), (hp, o2 r ti np nq nd)]) rfl rfl rfl (fun _ => rfl) (fun z27 hp27 => ?_)
    refine g_is (ws2 := [(hs, .inr (3, [.ref hp, .ref hc])), (hc, .inl (cI, 20, .inl (payF c k v))), (hp, o2 r ti np nq nd)]) (lv2 := [(0, .ref hs), (1, .int (nI k)), (2, .int v)]) (st2 := []) rfl rfl rfl ?_
    have ecell : (payF c k v) = (tryG c k v) := by rw [tryG, if_pos ⟨Int32.not_lt.mp h13f, h19t⟩]
    refine g_ws (ws2 := [(hs, .inr (3, [.ref hp, .ref hc])), (hc, .inl (cI, 20, .inl (tryG c k v))), (hp, o2 r ti np nq nd)]) (congrArg (fun zz : Nat → Int32 => ([(hs, .inr (3, [.ref hp, .ref hc])), (hc, .inl (cI, 20, .inl zz)), (hp, o2 r ti np nq nd)] : va_W)) ecell) ?_
    refine g_iconst (v := nI 1) hC dX3_tryGive_30 rfl ?_
    subst hQ
    refine g_zret (v := nI 1) hC () hr (by decide +kernel) ?_ rfl dX3_tryGive_31
    exact (bI_t ⟨Int32.not_lt.mp h13f, h19t⟩).symm
  have ecell : c = (tryG c k v) := by rw [tryG, if_neg (fun q => absurd q.2 (Int32.not_le.mpr (Int32.not_le.mp h19f)))]
  refine g_ws (ws2 := [(hs, .inr (3, [.ref hp, .ref hc])), (hc, .inl (cI, 20, .inl (tryG c k v))), (hp, o2 r ti np nq nd)]) (congrArg (fun zz : Nat → Int32 => ([(hs, .inr (3, [.ref hp, .ref hc])), (hc, .inl (cI, 20, .inl zz)), (hp, o2 r ti np nq nd)] : va_W)) ecell) ?_
  refine g_iconst (v := nI 0) hC dX3_tryGive_22 rfl ?_
  subst hQ
  refine g_zret (v := nI 0) hC () hr (by decide +kernel) ?_ rfl dX3_tryGive_23
  exact (bI_f (fun q => absurd q.2 h19f)).symm

abbrev rm_X3_tryGive_no : Room := { frames := 1, cells := 0, slots := 0, locals := 21 }
set_option maxRecDepth 100000 in
set_option maxHeartbeats 4000000 in
theorem c_X3_tryGive_no (l : Launch) (D : va_G) (cI cZ : ClassId) (hs : Nat) (hp : Nat) (hc : Nat) (c : Nat → Int32) (r : Nat → Nat) (ti : Int32) (np : Nat) (nq : Nat) (nd : Nat) (a : Int32) (v : Int32) (ha : ¬ inR a np) (hnp : np ≤ 3) : CtI l yX3_tryGive wsX3_tryGive rm_X3_tryGive_no D cI cZ [.ref hs, .int a, .int v] [(hs, .inr (3, [.ref hp, .ref hc])), (hc, .inl (cI, 20, .inl c)), (hp, o2 r ti np nq nd)] (fun r (_ : Unit) => r = nI 0) (fun (_ : Unit) => [(hs, .inr (3, [.ref hp, .ref hc])), (hc, .inl (cI, 20, .inl c)), (hp, o2 r ti np nq nd)]) 0 0 := by
  refine g_startI (ret := (some .boolean)) (own := RX3) (lv0 := [(0, .ref hs), (1, .int a), (2, .int v)]) (by decide) rfl rfl (Nat.le_of_ble_eq_true rfl) rfl ?_
  intro p e s m args below meth cd A Q hin hr hQ hC
  have hi3 : ∀ w ∈ wsX30, w ∈ wsX3_tryGive := fun _ h => List.mem_cons_of_mem _ (List.mem_append_left _ (List.mem_append_right _ h))
  have w1 := hC.1.2.2.2.2 (.fieldLink "PluckBroker$State" 15 "PluckBroker$State" "plan" "LPluckBroker$Plan;") (List.mem_of_getElem? (i := 1) rfl)
  refine g_aload_n hC 0 dX3_tryGive_0 rfl rfl ?_
  refine g_get (C := RX3) (T := TX3) (N := 2) (ci := 3) (v := .ref hp) hC hi3 0 rfl rfl 0 (by decide) w1 (fun _ h => h) rfl dX3_tryGive_1 ?_
  refine g_iload_n hC 1 dX3_tryGive_4 rfl rfl ?_
  refine g_callVip (As := [.int a]) (rest := []) hC (bI (inR a np)) (c_X2_hasPerson l D cI cZ hp r ti np nq nd a (by first | assumption | omega)) (cwV 1 hC.1.2.2.2.2 gX3_tryGive_X2_hasPerson rfl rfl rfl dV_X2_hasPerson ⟨Nat.le_of_ble_eq_true rfl, Nat.le_of_ble_eq_true rfl⟩) rfl rfl rfl rfl (Nat.le_of_ble_eq_true rfl) dX3_tryGive_5 ⟨Nat.le_of_ble_eq_true rfl, Nat.le_of_ble_eq_true rfl⟩ [2] rfl rfl ?_
  refine g_if_eq_b hC 22 dX3_tryGive_8 (by decide) (fun h8t => ?_) (fun h8f => ?_)
  · refine g_iconst (v := nI 0) hC dX3_tryGive_22 rfl ?_
    subst hQ
    refine g_zret (v := nI 0) hC () hr (by decide +kernel) ?_ rfl dX3_tryGive_23
    rfl
  exact absurd h8f ha

abbrev rm_X3_tryDeed : Room := { frames := 2, cells := 0, slots := 0, locals := 44 }
set_option maxRecDepth 100000 in
set_option maxHeartbeats 4000000 in
theorem c_X3_tryDeed (l : Launch) (D : va_G) (cI cZ : ClassId) (hs : Nat) (hp : Nat) (hc : Nat) (c : Nat → Int32) (r : Nat → Nat) (ti : Int32) (np : Nat) (nq : Nat) (nd : Nat) (P : Nat → Nat → Nat) (k : Nat) (hW : WFP np nq nd P) (hk : k < nd) : CtI l yX3_tryDeed wsX3_tryDeed rm_X3_tryDeed D cI cZ [.ref hs, .int (nI k)] [(hs, .inr (3, [.ref hp, .ref hc])), (hc, .inl (cI, 20, .inl c)), (hp, o2 r ti np nq nd), (r 1, .inl (cI, 5, .inl (fun k => nI (P 0 k)))), (r 2, .inl (cI, 5, .inl (fun k => nI (P 1 k)))), (r 3, .inl (cI, 5, .inl (fun k => nI (P 2 k)))), (r 4, .inl (cI, 5, .inl (fun k => nI (P 3 k)))), (r 5, .inl (cI, 5, .inl (fun k => nI (P 4 k)))), (r 6, .inl (cI, 5, .inl (fun k => nI (P 5 k))))] (fun r (_ : Unit) => r = bI (c (5 + P 3 k) = nI 0)) (fun (_ : Unit) => [(hs, .inr (3, [.ref hp, .ref hc])), (hc, .inl (cI, 20, .inl (deedF P c k))), (hp, o2 r ti np nq nd), (r 1, .inl (cI, 5, .inl (fun k => nI (P 0 k)))), (r 2, .inl (cI, 5, .inl (fun k => nI (P 1 k)))), (r 3, .inl (cI, 5, .inl (fun k => nI (P 2 k)))), (r 4, .inl (cI, 5, .inl (fun k => nI (P 3 k)))), (r 5, .inl (cI, 5, .inl (fun k => nI (P 4 k)))), (r 6, .inl (cI, 5, .inl (fun k => nI (P 5 k))))]) 0 0 := by
  refine g_startI (ret := (some .boolean)) (own := RX3) (lv0 := [(0, .ref hs), (1, .int (nI k))]) (by decide) rfl rfl (Nat.le_of_ble_eq_true rfl) rfl ?_
  intro p e s m args below meth cd A Q hin hr hQ hC
  have hi3 : ∀ w ∈ wsX30, w ∈ wsX3_tryDeed := fun _ h => List.mem_cons_of_mem _ (List.mem_append_left _ (List.mem_append_right _ h))
  have w1 := hC.1.2.2.2.2 (.fieldLink "PluckBroker$State" 15 "PluckBroker$State" "plan" "LPluckBroker$Plan;") (List.mem_of_getElem? (i := 1) rfl)
  have w2 := hC.1.2.2.2.2 (.fieldLink "PluckBroker$State" 11 "PluckBroker$State" "cells" "[I") (List.mem_of_getElem? (i := 2) rfl)
  have w10 := hC.1.2.2.2.2 (.initialized "PluckBroker") (List.mem_of_getElem? (i := 10) rfl)
  have w17 := hC.1.2.2.2.2 (.static ⟨"PluckBroker", "put", "([III)V"⟩) (List.mem_of_getElem? (i := 17) rfl)
  obtain ⟨⟨hnp, hnq, hnd⟩, hq4, hd5⟩ := id hW
  have hd1 := (hd5 k hk).1
  have ho3 := (hq4 _ hd1).1
  refine g_aload_n hC 0 dX3_tryDeed_0 rfl rfl ?_
  refine g_get (C := RX3) (T := TX3) (N := 2) (ci := 3) (v := .ref hp) hC hi3 0 rfl rfl 0 (by decide) w1 (fun _ h => h) rfl dX3_tryDeed_1 ?_
  refine g_iload_n hC 1 dX3_tryDeed_4 rfl rfl ?_
  refine g_callVip (As := [.int (nI k)]) (rest := []) hC (nI (P 3 k)) (c_X2_wantedBy l D cI cZ hp r ti np nq nd P k (by first | assumption | omega)) (cwV 1 hC.1.2.2.2.2 gX3_tryDeed_X2_wantedBy rfl rfl rfl dV_X2_wantedBy ⟨Nat.le_of_ble_eq_true rfl, Nat.le_of_ble_eq_true rfl⟩) rfl rfl rfl rfl (Nat.le_of_ble_eq_true rfl) dX3_tryDeed_5 ⟨Nat.le_of_ble_eq_true rfl, Nat.le_of_ble_eq_true rfl⟩ [2, 6] rfl rfl ?_
  refine g_istore_n (lv' := [(0, .ref hs), (1, .int (nI k)), (2, .int (nI (P 3 k)))]) hC [1, 2, 0] dX3_tryDeed_8 rfl (by decide) rfl ?_
  refine g_aload_n hC 0 dX3_tryDeed_9 rfl rfl ?_
  refine g_iload_n hC 2 dX3_tryDeed_10 rfl rfl ?_
  refine g_callVip (As := [.int (nI (P 3 k))]) (rest := []) hC (c (5 + (P 3 k))) (c_X3_standingOf l D cI cZ hs hp hc c (P 3 k) (by first | assumption | omega)) (cwV 1 hC.1.2.2.2.2 gX3_tryDeed_X3_standingOf rfl rfl rfl dV_X3_standingOf ⟨Nat.le_of_ble_eq_true rfl, Nat.le_of_ble_eq_true rfl⟩) rfl rfl rfl rfl (Nat.le_of_ble_eq_true rfl) dX3_tryDeed_11 ⟨Nat.le_of_ble_eq_true rfl, Nat.le_of_ble_eq_true rfl⟩ [0, 1] rfl rfl ?_
  refine g_if_eq hC 31 dX3_tryDeed_14 (by decide) (fun h14t => ?_) (fun h14f => ?_)
  · refine g_aload_n hC 0 dX3_tryDeed_31 rfl rfl ?_
    refine g_get (C := RX3) (T := TX3) (N := 2) (ci := 3) (v := .ref hc) hC hi3 0 rfl rfl 1 (by decide) w2 (fun _ h => h) rfl dX3_tryDeed_32 ?_
    refine g_bipush (v := nI 15) hC dX3_tryDeed_35 (by decide +kernel) ?_
    refine g_iload_n hC 1 dX3_tryDeed_37 rfl rfl ?_
    refine g_iadd_n (a := 15) (b := k) hC dX3_tryDeed_38 ?_
    refine g_iconst (v := nI 1) hC dX3_tryDeed_39 rfl ?_
    refine g_callSNv (As := [.ref hc, .int (nI (15 + k)), .int (nI 1)]) (rest := []) hC (c_X5_put l D cI cZ hc 20 c (15 + k) (nI 1) (by first | assumption | omega) (by first | assumption | omega)) ⟨va_cnB 3 hC.1.2.2.2.2 gX3_tryDeed_X5_put_n25 rfl rfl rfl (hC.2.2.1.m 7 rfl) w10 dS_X5_put ⟨Nat.le_of_ble_eq_true rfl, Nat.le_of_ble_eq_true rfl⟩, w17, trivial⟩ rfl rfl (Nat.le_of_ble_eq_true rfl) dX3_tryDeed_40 ⟨Nat.le_of_ble_eq_true rfl, Nat.le_of_ble_eq_true rfl⟩ [1] [0, 2, 3, 4, 5, 6, 7, 8] [0, 8, 1, 2, 3, 4, 5, 6, 7] (fun (_ : Unit) => [(hs, .inr (3, [.ref hp, .ref hc])), (hc, .inl (cI, 20, .inl (upd c (15 + k) (nI 1)))), (hp, o2 r ti np nq nd), (r 1, .inl (cI, 5, .inl (fun k => nI (P 0 k)))), (r 2, .inl (cI, 5, .inl (fun k => nI (P 1 k)))), (r 3, .inl (cI, 5, .inl (fun k => nI (P 2 k)))), (r 4, .inl (cI, 5, .inl (fun k => nI (P 3 k)))), (r 5, .inl (cI, 5, .inl (fun k => nI (P 4 k)))), (r 6, .inl (cI, 5, .inl (fun k => nI (P 5 k))))]) rfl rfl rfl (fun _ => rfl) (fun z40 hp40 => ?_)
    refine g_is (ws2 := [(hs, .inr (3, [.ref hp, .ref hc])), (hc, .inl (cI, 20, .inl (upd c (15 + k) (nI 1)))), (hp, o2 r ti np nq nd), (r 1, .inl (cI, 5, .inl (fun k => nI (P 0 k)))), (r 2, .inl (cI, 5, .inl (fun k => nI (P 1 k)))), (r 3, .inl (cI, 5, .inl (fun k => nI (P 2 k)))), (r 4, .inl (cI, 5, .inl (fun k => nI (P 3 k)))), (r 5, .inl (cI, 5, .inl (fun k => nI (P 4 k)))), (r 6, .inl (cI, 5, .inl (fun k => nI (P 5 k))))]) (lv2 := [(0, .ref hs), (1, .int (nI k)), (2, .int (nI (P 3 k)))]) (st2 := []) rfl rfl rfl ?_
    refine g_aload_n hC 0 dX3_tryDeed_43 rfl rfl ?_
    refine g_aload_n hC 0 dX3_tryDeed_44 rfl rfl ?_
    refine g_get (C := RX3) (T := TX3) (N := 2) (ci := 3) (v := .ref hp) hC hi3 0 rfl rfl 0 (by decide) w1 (fun _ h => h) rfl dX3_tryDeed_45 ?_
    refine g_iload_n hC 2 dX3_tryDeed_48 rfl rfl ?_
    refine g_callVip (As := [.int (nI (P 3 k))]) (rest := [.ref hs]) hC (nI (P 0 (P 3 k))) (c_X2_ownerOf l D cI cZ hp r ti np nq nd P (P 3 k) (by first | assumption | omega)) (cwV 1 hC.1.2.2.2.2 gX3_tryDeed_X2_ownerOf rfl rfl rfl dV_X2_ownerOf ⟨Nat.le_of_ble_eq_true rfl, Nat.le_of_ble_eq_true rfl⟩) rfl rfl rfl rfl (Nat.le_of_ble_eq_true rfl) dX3_tryDeed_49 ⟨Nat.le_of_ble_eq_true rfl, Nat.le_of_ble_eq_true rfl⟩ [2, 3] rfl rfl ?_
    refine g_aload_n hC 0 dX3_tryDeed_52 rfl rfl ?_
    refine g_get (C := RX3) (T := TX3) (N := 2) (ci := 3) (v := .ref hp) hC hi3 0 rfl rfl 0 (by decide) w1 (fun _ h => h) rfl dX3_tryDeed_53 ?_
    refine g_iload_n hC 1 dX3_tryDeed_56 rfl rfl ?_
    refine g_callVip (As := [.int (nI k)]) (rest := [.int (nI (P 0 (P 3 k))), .ref hs]) hC (nI (P 5 k)) (c_X2_rewardOf l D cI cZ hp r ti np nq nd P k (by first | assumption | omega)) (cwV 1 hC.1.2.2.2.2 gX3_tryDeed_X2_rewardOf rfl rfl rfl dV_X2_rewardOf ⟨Nat.le_of_ble_eq_true rfl, Nat.le_of_ble_eq_true rfl⟩) rfl rfl rfl rfl (Nat.le_of_ble_eq_true rfl) dX3_tryDeed_57 ⟨Nat.le_of_ble_eq_true rfl, Nat.le_of_ble_eq_true rfl⟩ [2, 8] rfl rfl ?_
    refine g_callVv (As := [.int (nI (P 0 (P 3 k))), .int (nI (P 5 k))]) (rest := []) hC (c_X3_pay l D cI cZ hs hp hc (upd c (15 + k) (nI 1)) (P 0 (P 3 k)) (nI (P 5 k)) (by first | assumption | omega)) (cwV 2 hC.1.2.2.2.2 gX3_tryDeed_X3_pay rfl rfl rfl dV_X3_pay ⟨Nat.le_of_ble_eq_true rfl, Nat.le_of_ble_eq_true rfl⟩) rfl rfl rfl rfl (Nat.le_of_ble_eq_true rfl) dX3_tryDeed_60 ⟨Nat.le_of_ble_eq_true rfl, Nat.le_of_ble_eq_true rfl⟩ [0, 1] [2, 3, 4, 5, 6, 7, 8] [7, 8, 0, 1, 2, 3, 4, 5, 6] (fun (_ : Unit) => [(hs, .inr (3, [.ref hp, .ref hc])), (hc, .inl (cI, 20, .inl (payF (upd c (15 + k) (nI 1)) (P 0 (P 3 k)) (nI (P 5 k))))), (hp, o2 r ti np nq nd), (r 1, .inl (cI, 5, .inl (fun k => nI (P 0 k)))), (r 2, .inl (cI, 5, .inl (fun k => nI (P 1 k)))), (r 3, .inl (cI, 5, .inl (fun k => nI (P 2 k)))), (r 4, .inl (cI, 5, .inl (fun k => nI (P 3 k)))), (r 5, .inl (cI, 5, .inl (fun k => nI (P 4 k)))), (r 6, .inl (cI, 5, .inl (fun k => nI (P 5 k))))]) rfl rfl rfl (fun _ => rfl) (fun z60 hp60 => ?_)
    refine g_is (ws2 := [(hs, .inr (3, [.ref hp, .ref hc])), (hc, .inl (cI, 20, .inl (payF (upd c (15 + k) (nI 1)) (P 0 (P 3 k)) (nI (P 5 k))))), (hp, o2 r ti np nq nd), (r 1, .inl (cI, 5, .inl (fun k => nI (P 0 k)))), (r 2, .inl (cI, 5, .inl (fun k => nI (P 1 k)))), (r 3, .inl (cI, 5, .inl (fun k => nI (P 2 k)))), (r 4, .inl (cI, 5, .inl (fun k => nI (P 3 k)))), (r 5, .inl (cI, 5, .inl (fun k => nI (P 4 k)))), (r 6, .inl (cI, 5, .inl (fun k => nI (P 5 k))))]) (lv2 := [(0, .ref hs), (1, .int (nI k)), (2, .int (nI (P 3 k)))]) (st2 := []) rfl rfl rfl ?_
    have ecell : (payF (upd c (15 + k) (nI 1)) (P 0 (P 3 k)) (nI (P 5 k))) = (deedF P c k) := by rw [deedF, if_pos h14t]
    refine g_ws (ws2 := [(hs, .inr (3, [.ref hp, .ref hc])), (hc, .inl (cI, 20, .inl (deedF P c k))), (hp, o2 r ti np nq nd), (r 1, .inl (cI, 5, .inl (fun k => nI (P 0 k)))), (r 2, .inl (cI, 5, .inl (fun k => nI (P 1 k)))), (r 3, .inl (cI, 5, .inl (fun k => nI (P 2 k)))), (r 4, .inl (cI, 5, .inl (fun k => nI (P 3 k)))), (r 5, .inl (cI, 5, .inl (fun k => nI (P 4 k)))), (r 6, .inl (cI, 5, .inl (fun k => nI (P 5 k))))]) (congrArg (fun zz : Nat → Int32 => ([(hs, .inr (3, [.ref hp, .ref hc])), (hc, .inl (cI, 20, .inl zz)), (hp, o2 r ti np nq nd), (r 1, .inl (cI, 5, .inl (fun k => nI (P 0 k)))), (r 2, .inl (cI, 5, .inl (fun k => nI (P 1 k)))), (r 3, .inl (cI, 5, .inl (fun k => nI (P 2 k)))), (r 4, .inl (cI, 5, .inl (fun k => nI (P 3 k)))), (r 5, .inl (cI, 5, .inl (fun k => nI (P 4 k)))), (r 6, .inl (cI, 5, .inl (fun k => nI (P 5 k))))] : va_W)) ecell) ?_
    refine g_iconst (v := nI 1) hC dX3_tryDeed_63 rfl ?_
    subst hQ
    refine g_zret (v := nI 1) hC () hr (by decide +kernel) ?_ rfl dX3_tryDeed_64
    exact (bI_t h14t).symm
  refine g_aload_n hC 0 dX3_tryDeed_17 rfl rfl ?_
  refine g_get (C := RX3) (T := TX3) (N := 2) (ci := 3) (v := .ref hc) hC hi3 0 rfl rfl 1 (by decide) w2 (fun _ h => h) rfl dX3_tryDeed_18 ?_
  refine g_bipush (v := nI 15) hC dX3_tryDeed_21 (by decide +kernel) ?_
  refine g_iload_n hC 1 dX3_tryDeed_23 rfl rfl ?_
  refine g_iadd_n (a := 15) (b := k) hC dX3_tryDeed_24 ?_
  refine g_iconst (v := nI 2) hC dX3_tryDeed_25 rfl ?_
  refine g_callSNv (As := [.ref hc, .int (nI (15 + k)), .int (nI 2)]) (rest := []) hC (c_X5_put l D cI cZ hc 20 c (15 + k) (nI 2) (by first | assumption | omega) (by first | assumption | omega)) ⟨va_cnB 3 hC.1.2.2.2.2 gX3_tryDeed_X5_put_n25 rfl rfl rfl (hC.2.2.1.m 7 rfl) w10 dS_X5_put ⟨Nat.le_of_ble_eq_true rfl, Nat.le_of_ble_eq_true rfl⟩, w17, trivial⟩ rfl rfl (Nat.le_of_ble_eq_true rfl) dX3_tryDeed_26 ⟨Nat.le_of_ble_eq_true rfl, Nat.le_of_ble_eq_true rfl⟩ [1] [0, 2, 3, 4, 5, 6, 7, 8] [0, 8, 1, 2, 3, 4, 5, 6, 7] (fun (_ : Unit) => [(hs, .inr (3, [.ref hp, .ref hc])), (hc, .inl (cI, 20, .inl (upd c (15 + k) (nI 2)))), (hp, o2 r ti np nq nd), (r 1, .inl (cI, 5, .inl (fun k => nI (P 0 k)))), (r 2, .inl (cI, 5, .inl (fun k => nI (P 1 k)))), (r 3, .inl (cI, 5, .inl (fun k => nI (P 2 k)))), (r 4, .inl (cI, 5, .inl (fun k => nI (P 3 k)))), (r 5, .inl (cI, 5, .inl (fun k => nI (P 4 k)))), (r 6, .inl (cI, 5, .inl (fun k => nI (P 5 k))))]) rfl rfl rfl (fun _ => rfl) (fun z26 hp26 => ?_)
  refine g_is (ws2 := [(hs, .inr (3, [.ref hp, .ref hc])), (hc, .inl (cI, 20, .inl (upd c (15 + k) (nI 2)))), (hp, o2 r ti np nq nd), (r 1, .inl (cI, 5, .inl (fun k => nI (P 0 k)))), (r 2, .inl (cI, 5, .inl (fun k => nI (P 1 k)))), (r 3, .inl (cI, 5, .inl (fun k => nI (P 2 k)))), (r 4, .inl (cI, 5, .inl (fun k => nI (P 3 k)))), (r 5, .inl (cI, 5, .inl (fun k => nI (P 4 k)))), (r 6, .inl (cI, 5, .inl (fun k => nI (P 5 k))))]) (lv2 := [(0, .ref hs), (1, .int (nI k)), (2, .int (nI (P 3 k)))]) (st2 := []) rfl rfl rfl ?_
  have ecell : (upd c (15 + k) (nI 2)) = (deedF P c k) := by rw [deedF, if_neg h14f]
  refine g_ws (ws2 := [(hs, .inr (3, [.ref hp, .ref hc])), (hc, .inl (cI, 20, .inl (deedF P c k))), (hp, o2 r ti np nq nd), (r 1, .inl (cI, 5, .inl (fun k => nI (P 0 k)))), (r 2, .inl (cI, 5, .inl (fun k => nI (P 1 k)))), (r 3, .inl (cI, 5, .inl (fun k => nI (P 2 k)))), (r 4, .inl (cI, 5, .inl (fun k => nI (P 3 k)))), (r 5, .inl (cI, 5, .inl (fun k => nI (P 4 k)))), (r 6, .inl (cI, 5, .inl (fun k => nI (P 5 k))))]) (congrArg (fun zz : Nat → Int32 => ([(hs, .inr (3, [.ref hp, .ref hc])), (hc, .inl (cI, 20, .inl zz)), (hp, o2 r ti np nq nd), (r 1, .inl (cI, 5, .inl (fun k => nI (P 0 k)))), (r 2, .inl (cI, 5, .inl (fun k => nI (P 1 k)))), (r 3, .inl (cI, 5, .inl (fun k => nI (P 2 k)))), (r 4, .inl (cI, 5, .inl (fun k => nI (P 3 k)))), (r 5, .inl (cI, 5, .inl (fun k => nI (P 4 k)))), (r 6, .inl (cI, 5, .inl (fun k => nI (P 5 k))))] : va_W)) ecell) ?_
  refine g_iconst (v := nI 0) hC dX3_tryDeed_29 rfl ?_
  subst hQ
  refine g_zret (v := nI 0) hC () hr (by decide +kernel) ?_ rfl dX3_tryDeed_30
  exact (bI_f h14f).symm

abbrev rm_X3_sellOverdue : Room := { frames := 2, cells := 0, slots := 0, locals := 42 }
set_option maxRecDepth 100000 in
set_option maxHeartbeats 4000000 in
theorem c_X3_sellOverdue (l : Launch) (D : va_G) (cI cZ : ClassId) (hs : Nat) (hp : Nat) (hc : Nat) (c : Nat → Int32) (r : Nat → Nat) (ti : Int32) (np : Nat) (nq : Nat) (nd : Nat) (P : Nat → Nat → Nat) (hW : WFP np nq nd P) : CtV l yX3_sellOverdue wsX3_sellOverdue rm_X3_sellOverdue D cI cZ [.ref hs] [(hs, .inr (3, [.ref hp, .ref hc])), (hc, .inl (cI, 20, .inl c)), (hp, o2 r ti np nq nd), (r 1, .inl (cI, 5, .inl (fun k => nI (P 0 k)))), (r 2, .inl (cI, 5, .inl (fun k => nI (P 1 k)))), (r 3, .inl (cI, 5, .inl (fun k => nI (P 2 k)))), (r 4, .inl (cI, 5, .inl (fun k => nI (P 3 k)))), (r 5, .inl (cI, 5, .inl (fun k => nI (P 4 k)))), (r 6, .inl (cI, 5, .inl (fun k => nI (P 5 k))))] (fun (_ : Unit) => True) (fun (_ : Unit) => [(hs, .inr (3, [.ref hp, .ref hc])), (hc, .inl (cI, 20, .inl (sellD P c nq))), (hp, o2 r ti np nq nd), (r 1, .inl (cI, 5, .inl (fun k => nI (P 0 k)))), (r 2, .inl (cI, 5, .inl (fun k => nI (P 1 k)))), (r 3, .inl (cI, 5, .inl (fun k => nI (P 2 k)))), (r 4, .inl (cI, 5, .inl (fun k => nI (P 3 k)))), (r 5, .inl (cI, 5, .inl (fun k => nI (P 4 k)))), (r 6, .inl (cI, 5, .inl (fun k => nI (P 5 k))))]) 0 0 := by
  refine g_startV (ret := none) (own := RX3) (lv0 := [(0, .ref hs)]) (by decide) rfl rfl (Nat.le_of_ble_eq_true rfl) rfl ?_
  intro p e s m args below meth cd A Q hin hr hQ hC
  have hi2 : ∀ w ∈ wsX20, w ∈ wsX3_sellOverdue := fun _ h => List.mem_cons_of_mem _ (List.mem_append_right _ h)
  have hi3 : ∀ w ∈ wsX30, w ∈ wsX3_sellOverdue := fun _ h => List.mem_cons_of_mem _ (List.mem_append_left _ (List.mem_append_right _ h))
  have w1 := hC.1.2.2.2.2 (.fieldLink "PluckBroker$State" 15 "PluckBroker$State" "plan" "LPluckBroker$Plan;") (List.mem_of_getElem? (i := 1) rfl)
  have w2 := hC.1.2.2.2.2 (.fieldLink "PluckBroker$State" 11 "PluckBroker$State" "cells" "[I") (List.mem_of_getElem? (i := 2) rfl)
  have w9 := hC.1.2.2.2.2 (.initialized "PluckBroker") (List.mem_of_getElem? (i := 9) rfl)
  have w25 := hC.1.2.2.2.2 (.static ⟨"PluckBroker", "put", "([III)V"⟩) (List.mem_of_getElem? (i := 25) rfl)
  obtain ⟨⟨hnp, hnq, hnd⟩, hq4, hd5⟩ := id hW
  have hk3 : ∀ q, q < nq → P 2 q ≤ 3 := fun q h => (hq4 q h).2.2.2
  refine g_iconst (v := nI 0) hC dX3_sellOverdue_0 rfl ?_
  refine g_istore_n (lv' := [(0, .ref hs), (1, .int (nI 0))]) hC [1, 0] dX3_sellOverdue_1 rfl (by decide) rfl ?_
  have L2 : ∀ (n : Nat) (i : Nat) (g : Nat → Int32), (i ≤ nq) → (g = sellD P c i) → nq - i < n → G p l e rm_X3_sellOverdue s m args below meth cd D A 0 0 Q 3 [(hs, .inr (3, [.ref hp, .ref hc])), (hc, .inl (cI, 20, .inl g)), (hp, o2 r ti np nq nd), (r 1, .inl (cI, 5, .inl (fun k => nI (P 0 k)))), (r 2, .inl (cI, 5, .inl (fun k => nI (P 1 k)))), (r 3, .inl (cI, 5, .inl (fun k => nI (P 2 k)))), (r 4, .inl (cI, 5, .inl (fun k => nI (P 3 k)))), (r 5, .inl (cI, 5, .inl (fun k => nI (P 4 k)))), (r 6, .inl (cI, 5, .inl (fun k => nI (P 5 k))))] 2 [(0, .ref hs), (1, .int (nI i))] [] := by
    intro n
    induction n with
    | zero => intro i g hi hg hn; exact absurd hn (Nat.not_lt_zero _)
    | succ n ih2 =>
      intro i g hi hg hn
      refine g_iload_n hC 1 dX3_sellOverdue_2 rfl rfl ?_
      refine g_aload_n hC 0 dX3_sellOverdue_3 rfl rfl ?_
      refine g_get (C := RX3) (T := TX3) (N := 2) (ci := 3) (v := .ref hp) hC hi3 0 rfl rfl 0 (by decide) w1 (fun _ h => h) rfl dX3_sellOverdue_4 ?_
      refine g_getN (C := RX2) (T := TX2) (N := 11) (ci := 2) (v := .int (nI nq)) hC hi2 2 rfl rfl 9 (by decide) (hC.2.2.1.f 8 rfl) (fun _ h => h) rfl dX3_sellOverdue_7 ?_
      refine g_icmp_ge_n (a := i) (b := nq) hC (by omega) (by omega) 76 dX3_sellOverdue_10 (by decide) (fun h10t => ?_) (fun h10f => ?_)
      · have e : i = nq := by omega
        rw [e] at hg
        have ecell : g = (sellD P c nq) := by exact hg
        refine g_ws (ws2 := [(hs, .inr (3, [.ref hp, .ref hc])), (hc, .inl (cI, 20, .inl (sellD P c nq))), (hp, o2 r ti np nq nd), (r 1, .inl (cI, 5, .inl (fun k => nI (P 0 k)))), (r 2, .inl (cI, 5, .inl (fun k => nI (P 1 k)))), (r 3, .inl (cI, 5, .inl (fun k => nI (P 2 k)))), (r 4, .inl (cI, 5, .inl (fun k => nI (P 3 k)))), (r 5, .inl (cI, 5, .inl (fun k => nI (P 4 k)))), (r 6, .inl (cI, 5, .inl (fun k => nI (P 5 k))))]) (congrArg (fun zz : Nat → Int32 => ([(hs, .inr (3, [.ref hp, .ref hc])), (hc, .inl (cI, 20, .inl zz)), (hp, o2 r ti np nq nd), (r 1, .inl (cI, 5, .inl (fun k => nI (P 0 k)))), (r 2, .inl (cI, 5, .inl (fun k => nI (P 1 k)))), (r 3, .inl (cI, 5, .inl (fun k => nI (P 2 k)))), (r 4, .inl (cI, 5, .inl (fun k => nI (P 3 k)))), (r 5, .inl (cI, 5, .inl (fun k => nI (P 4 k)))), (r 6, .inl (cI, 5, .inl (fun k => nI (P 5 k))))] : va_W)) ecell) ?_
        subst hQ
        refine g_vret hC () hr ?_ rfl dX3_sellOverdue_76
        trivial
      refine g_aload_n hC 0 dX3_sellOverdue_13 rfl rfl ?_
      refine g_iload_n hC 1 dX3_sellOverdue_14 rfl rfl ?_
      refine g_callVip (As := [.int (nI i)]) (rest := []) hC (g (5 + i)) (c_X3_standingOf l D cI cZ hs hp hc g i (by first | assumption | omega)) (cwV 1 hC.1.2.2.2.2 gX3_sellOverdue_X3_standingOf rfl rfl rfl dV_X3_standingOf ⟨Nat.le_of_ble_eq_true rfl, Nat.le_of_ble_eq_true rfl⟩) rfl rfl rfl rfl (Nat.le_of_ble_eq_true rfl) dX3_sellOverdue_15 ⟨Nat.le_of_ble_eq_true rfl, Nat.le_of_ble_eq_true rfl⟩ [0, 1] rfl rfl ?_
      refine g_iconst (v := nI 1) hC dX3_sellOverdue_18 rfl ?_
      refine g_icmp_ne hC 41 dX3_sellOverdue_19 (by decide) (fun h19t => ?_) (fun h19f => ?_)
      · refine g_iconst (v := nI 0) hC dX3_sellOverdue_41 rfl ?_
        refine g_istore_n (lv' := [(0, .ref hs), (1, .int (nI i)), (2, .int (nI 0))]) hC [1, 2, 0] dX3_sellOverdue_42 rfl (by decide) rfl ?_
        refine g_iload_n hC 2 dX3_sellOverdue_43 rfl rfl ?_
        refine g_if_eq_n (a := 0) hC (by omega) 70 dX3_sellOverdue_44 (by decide) (fun _ => ?_) (fun q => absurd q (by decide))
        refine g_iinc (v := nI (i + 1)) (lv' := [(0, .ref hs), (1, .int (nI (i + 1))), (2, .int (nI 0))]) hC 1 [1, 0, 2] dX3_sellOverdue_70 rfl (nI_add _ 1) (by decide) rfl ?_
        refine g_goto hC 2 dX3_sellOverdue_73 (by decide) ?_
        refine g_lv [0, 1] (lv2 := [(0, .ref hs), (1, .int (nI (i + 1)))]) rfl ?_
        refine ih2 (i + 1) g ?_ ?_ ?_
        · omega
        · show _ = (if sellD P c i (5 + i) = nI 1 ∧ nI 9 ≤ c 1 - c (10 + i) ∧ P 2 i ≠ 3 then upd (sellD P c i) (5 + i) (nI 2) else sellD P c i)
          have e1 : g 1 = c 1 := by rw [hg]; exact sellD_ne P c i (by omega)
          have e2 : g (10 + i) = c (10 + i) := by rw [hg]; exact sellD_ne P c i (by omega)
          rw [← hg, ← e1, ← e2]
          rw [if_neg (fun q => h19t q.1)]
        · omega
      refine g_aload_n hC 0 dX3_sellOverdue_22 rfl rfl ?_
      refine g_callVip (As := []) (rest := []) hC (g 1) (c_X3_today l D cI cZ hs hp hc g) (cwV 0 hC.1.2.2.2.2 gX3_sellOverdue_X3_today rfl rfl rfl dV_X3_today ⟨Nat.le_of_ble_eq_true rfl, Nat.le_of_ble_eq_true rfl⟩) rfl rfl rfl rfl (Nat.le_of_ble_eq_true rfl) dX3_sellOverdue_23 ⟨Nat.le_of_ble_eq_true rfl, Nat.le_of_ble_eq_true rfl⟩ [0, 1] rfl rfl ?_
      refine g_aload_n hC 0 dX3_sellOverdue_26 rfl rfl ?_
      refine g_iload_n hC 1 dX3_sellOverdue_27 rfl rfl ?_
      refine g_callVip (As := [.int (nI i)]) (rest := [.int (g 1)]) hC (g (10 + i)) (c_X3_pledgedOn l D cI cZ hs hp hc g i (by first | assumption | omega)) (cwV 1 hC.1.2.2.2.2 gX3_sellOverdue_X3_pledgedOn rfl rfl rfl dV_X3_pledgedOn ⟨Nat.le_of_ble_eq_true rfl, Nat.le_of_ble_eq_true rfl⟩) rfl rfl rfl rfl (Nat.le_of_ble_eq_true rfl) dX3_sellOverdue_28 ⟨Nat.le_of_ble_eq_true rfl, Nat.le_of_ble_eq_true rfl⟩ [0, 1] rfl rfl ?_
      refine g_isub hC dX3_sellOverdue_31 ?_
      refine g_bipush (v := nI 9) hC dX3_sellOverdue_32 (by decide +kernel) ?_
      refine g_icmp_lt hC 41 dX3_sellOverdue_34 (by decide) (fun h34t => ?_) (fun h34f => ?_)
      · refine g_iconst (v := nI 0) hC dX3_sellOverdue_41 rfl ?_
        refine g_istore_n (lv' := [(0, .ref hs), (1, .int (nI i)), (2, .int (nI 0))]) hC [1, 2, 0] dX3_sellOverdue_42 rfl (by decide) rfl ?_
        refine g_iload_n hC 2 dX3_sellOverdue_43 rfl rfl ?_
        refine g_if_eq_n (a := 0) hC (by omega) 70 dX3_sellOverdue_44 (by decide) (fun _ => ?_) (fun q => absurd q (by decide))
        refine g_iinc (v := nI (i + 1)) (lv' := [(0, .ref hs), (1, .int (nI (i + 1))), (2, .int (nI 0))]) hC 1 [1, 0, 2] dX3_sellOverdue_70 rfl (nI_add _ 1) (by decide) rfl ?_
        refine g_goto hC 2 dX3_sellOverdue_73 (by decide) ?_
        refine g_lv [0, 1] (lv2 := [(0, .ref hs), (1, .int (nI (i + 1)))]) rfl ?_
        refine ih2 (i + 1) g ?_ ?_ ?_
        · omega
        · show _ = (if sellD P c i (5 + i) = nI 1 ∧ nI 9 ≤ c 1 - c (10 + i) ∧ P 2 i ≠ 3 then upd (sellD P c i) (5 + i) (nI 2) else sellD P c i)
          have e1 : g 1 = c 1 := by rw [hg]; exact sellD_ne P c i (by omega)
          have e2 : g (10 + i) = c (10 + i) := by rw [hg]; exact sellD_ne P c i (by omega)
          rw [← hg, ← e1, ← e2]
          rw [if_neg (fun q => absurd q.2.1 (Int32.not_le.mpr h34t))]
        · omega
      refine g_iconst (v := nI 1) hC dX3_sellOverdue_37 rfl ?_
      refine g_goto hC 42 dX3_sellOverdue_38 (by decide) ?_
      refine g_istore_n (lv' := [(0, .ref hs), (1, .int (nI i)), (2, .int (nI 1))]) hC [1, 2, 0] dX3_sellOverdue_42 rfl (by decide) rfl ?_
      refine g_iload_n hC 2 dX3_sellOverdue_43 rfl rfl ?_
      refine g_if_eq_n (a := 1) hC (by omega) 70 dX3_sellOverdue_44 (by decide) (fun q => absurd q (by decide)) (fun _ => ?_)
      refine g_aload_n hC 0 dX3_sellOverdue_47 rfl rfl ?_
      refine g_get (C := RX3) (T := TX3) (N := 2) (ci := 3) (v := .ref hp) hC hi3 0 rfl rfl 0 (by decide) w1 (fun _ h => h) rfl dX3_sellOverdue_48 ?_
      refine g_iload_n hC 1 dX3_sellOverdue_51 rfl rfl ?_
      have hk2 := hk3 i (by omega)
      refine g_callVip (As := [.int (nI i)]) (rest := []) hC (nI (P 2 i)) (c_X2_kindOf l D cI cZ hp r ti np nq nd P i (by first | assumption | omega)) (cwV 1 hC.1.2.2.2.2 gX3_sellOverdue_X2_kindOf rfl rfl rfl dV_X2_kindOf ⟨Nat.le_of_ble_eq_true rfl, Nat.le_of_ble_eq_true rfl⟩) rfl rfl rfl rfl (Nat.le_of_ble_eq_true rfl) dX3_sellOverdue_52 ⟨Nat.le_of_ble_eq_true rfl, Nat.le_of_ble_eq_true rfl⟩ [2, 5] rfl rfl ?_
      refine g_iconst (v := nI 3) hC dX3_sellOverdue_55 rfl ?_
      refine g_icmp_eq_n (a := (P 2 i)) (b := 3) hC (by omega) (by omega) 70 dX3_sellOverdue_56 (by decide) (fun h56t => ?_) (fun h56f => ?_)
      · refine g_iinc (v := nI (i + 1)) (lv' := [(0, .ref hs), (1, .int (nI (i + 1))), (2, .int (nI 1))]) hC 1 [1, 0, 2] dX3_sellOverdue_70 rfl (nI_add _ 1) (by decide) rfl ?_
        refine g_goto hC 2 dX3_sellOverdue_73 (by decide) ?_
        refine g_lv [0, 1] (lv2 := [(0, .ref hs), (1, .int (nI (i + 1)))]) rfl ?_
        refine ih2 (i + 1) g ?_ ?_ ?_
        · omega
        · show _ = (if sellD P c i (5 + i) = nI 1 ∧ nI 9 ≤ c 1 - c (10 + i) ∧ P 2 i ≠ 3 then upd (sellD P c i) (5 + i) (nI 2) else sellD P c i)
          have e1 : g 1 = c 1 := by rw [hg]; exact sellD_ne P c i (by omega)
          have e2 : g (10 + i) = c (10 + i) := by rw [hg]; exact sellD_ne P c i (by omega)
          rw [← hg, ← e1, ← e2]
          rw [if_neg (fun q => q.2.2 h56t)]
        · omega
      refine g_aload_n hC 0 dX3_sellOverdue_59 rfl rfl ?_
      refine g_get (C := RX3) (T := TX3) (N := 2) (ci := 3) (v := .ref hc) hC hi3 0 rfl rfl 1 (by decide) w2 (fun _ h => h) rfl dX3_sellOverdue_60 ?_
      refine g_iconst (v := nI 5) hC dX3_sellOverdue_63 rfl ?_
      refine g_iload_n hC 1 dX3_sellOverdue_64 rfl rfl ?_
      refine g_iadd_n (a := 5) (b := i) hC dX3_sellOverdue_65 ?_
      refine g_iconst (v := nI 2) hC dX3_sellOverdue_66 rfl ?_
      refine g_callSNv (As := [.ref hc, .int (nI (5 + i)), .int (nI 2)]) (rest := []) hC (c_X5_put l D cI cZ hc 20 g (5 + i) (nI 2) (by first | assumption | omega) (by first | assumption | omega)) ⟨va_cnB 3 hC.1.2.2.2.2 gX3_sellOverdue_X5_put_n25 rfl rfl rfl (hC.2.2.1.m 7 rfl) w9 dS_X5_put ⟨Nat.le_of_ble_eq_true rfl, Nat.le_of_ble_eq_true rfl⟩, w25, trivial⟩ rfl rfl (Nat.le_of_ble_eq_true rfl) dX3_sellOverdue_67 ⟨Nat.le_of_ble_eq_true rfl, Nat.le_of_ble_eq_true rfl⟩ [1] [0, 2, 3, 4, 5, 6, 7, 8] [0, 8, 1, 2, 3, 4, 5, 6, 7] (fun (_ : Unit) => [(hs, .inr (3, [.ref hp, .ref hc])), (hc, .inl (cI, 20, .inl (upd g (5 + i) (nI 2)))), (hp, o2 r ti np nq nd), (r 1, .inl (cI, 5, .inl (fun k => nI (P 0 k)))), (r 2, .inl (cI, 5, .inl (fun k => nI (P 1 k)))), (r 3, .inl (cI, 5, .inl (fun k => nI (P 2 k)))), (r 4, .inl (cI, 5, .inl (fun k => nI (P 3 k)))), (r 5, .inl (cI, 5, .inl (fun k => nI (P 4 k)))), (r 6, .inl (cI, 5, .inl (fun k => nI (P 5 k))))]) rfl rfl rfl (fun _ => rfl) (fun z67 hp67 => ?_)
      refine g_is (ws2 := [(hs, .inr (3, [.ref hp, .ref hc])), (hc, .inl (cI, 20, .inl (upd g (5 + i) (nI 2)))), (hp, o2 r ti np nq nd), (r 1, .inl (cI, 5, .inl (fun k => nI (P 0 k)))), (r 2, .inl (cI, 5, .inl (fun k => nI (P 1 k)))), (r 3, .inl (cI, 5, .inl (fun k => nI (P 2 k)))), (r 4, .inl (cI, 5, .inl (fun k => nI (P 3 k)))), (r 5, .inl (cI, 5, .inl (fun k => nI (P 4 k)))), (r 6, .inl (cI, 5, .inl (fun k => nI (P 5 k))))]) (lv2 := [(0, .ref hs), (1, .int (nI i)), (2, .int (nI 1))]) (st2 := []) rfl rfl rfl ?_
      refine g_iinc (v := nI (i + 1)) (lv' := [(0, .ref hs), (1, .int (nI (i + 1))), (2, .int (nI 1))]) hC 1 [1, 0, 2] dX3_sellOverdue_70 rfl (nI_add _ 1) (by decide) rfl ?_
      refine g_goto hC 2 dX3_sellOverdue_73 (by decide) ?_
      refine g_lv [0, 1] (lv2 := [(0, .ref hs), (1, .int (nI (i + 1)))]) rfl ?_
      refine ih2 (i + 1) (upd g (5 + i) (nI 2)) ?_ ?_ ?_
      · omega
      · show _ = (if sellD P c i (5 + i) = nI 1 ∧ nI 9 ≤ c 1 - c (10 + i) ∧ P 2 i ≠ 3 then upd (sellD P c i) (5 + i) (nI 2) else sellD P c i)
        have e1 : g 1 = c 1 := by rw [hg]; exact sellD_ne P c i (by omega)
        have e2 : g (10 + i) = c (10 + i) := by rw [hg]; exact sellD_ne P c i (by omega)
        rw [← hg, ← e1, ← e2]
        rw [if_pos ⟨h19f, Int32.not_lt.mp h34f, h56f⟩]
      · omega
  refine L2 _ 0 c ?_ ?_ (Nat.lt_succ_self _)
  · omega
  · rfl

abbrev rm_X3_passDay : Room := { frames := 3, cells := 0, slots := 0, locals := 66 }
set_option maxRecDepth 100000 in
set_option maxHeartbeats 4000000 in
theorem c_X3_passDay (l : Launch) (D : va_G) (cI cZ : ClassId) (hs : Nat) (hp : Nat) (hc : Nat) (c : Nat → Int32) (r : Nat → Nat) (ti : Int32) (np : Nat) (nq : Nat) (nd : Nat) (P : Nat → Nat → Nat) (hW : WFP np nq nd P) : CtI l yX3_passDay wsX3_passDay rm_X3_passDay D cI cZ [.ref hs] [(hs, .inr (3, [.ref hp, .ref hc])), (hc, .inl (cI, 20, .inl c)), (hp, o2 r ti np nq nd), (r 1, .inl (cI, 5, .inl (fun k => nI (P 0 k)))), (r 2, .inl (cI, 5, .inl (fun k => nI (P 1 k)))), (r 3, .inl (cI, 5, .inl (fun k => nI (P 2 k)))), (r 4, .inl (cI, 5, .inl (fun k => nI (P 3 k)))), (r 5, .inl (cI, 5, .inl (fun k => nI (P 4 k)))), (r 6, .inl (cI, 5, .inl (fun k => nI (P 5 k))))] (fun r (_ : Unit) => r = nI (cntD P c nd)) (fun (_ : Unit) => [(hs, .inr (3, [.ref hp, .ref hc])), (hc, .inl (cI, 20, .inl (passF P nq nd c))), (hp, o2 r ti np nq nd), (r 1, .inl (cI, 5, .inl (fun k => nI (P 0 k)))), (r 2, .inl (cI, 5, .inl (fun k => nI (P 1 k)))), (r 3, .inl (cI, 5, .inl (fun k => nI (P 2 k)))), (r 4, .inl (cI, 5, .inl (fun k => nI (P 3 k)))), (r 5, .inl (cI, 5, .inl (fun k => nI (P 4 k)))), (r 6, .inl (cI, 5, .inl (fun k => nI (P 5 k))))]) 0 0 := by
  refine g_startI (ret := (some .int)) (own := RX3) (lv0 := [(0, .ref hs)]) (by decide) rfl rfl (Nat.le_of_ble_eq_true rfl) rfl ?_
  intro p e s m args below meth cd A Q hin hr hQ hC
  have hi2 : ∀ w ∈ wsX20, w ∈ wsX3_passDay := fun _ h => List.mem_cons_of_mem _ (List.mem_append_right _ h)
  have hi3 : ∀ w ∈ wsX30, w ∈ wsX3_passDay := fun _ h => List.mem_cons_of_mem _ (List.mem_append_left _ (List.mem_append_right _ h))
  have w1 := hC.1.2.2.2.2 (.fieldLink "PluckBroker$State" 15 "PluckBroker$State" "plan" "LPluckBroker$Plan;") (List.mem_of_getElem? (i := 1) rfl)
  have w2 := hC.1.2.2.2.2 (.fieldLink "PluckBroker$State" 11 "PluckBroker$State" "cells" "[I") (List.mem_of_getElem? (i := 2) rfl)
  have w10 := hC.1.2.2.2.2 (.initialized "PluckBroker") (List.mem_of_getElem? (i := 10) rfl)
  have w30 := hC.1.2.2.2.2 (.static ⟨"PluckBroker", "put", "([III)V"⟩) (List.mem_of_getElem? (i := 30) rfl)
  obtain ⟨⟨hnp, hnq, hnd⟩, hq4, hd5⟩ := id hW
  refine g_iconst (v := nI 0) hC dX3_passDay_0 rfl ?_
  refine g_istore_n (lv' := [(0, .ref hs), (1, .int (nI 0))]) hC [1, 0] dX3_passDay_1 rfl (by decide) rfl ?_
  refine g_iconst (v := nI 0) hC dX3_passDay_2 rfl ?_
  refine g_istore_n (lv' := [(0, .ref hs), (1, .int (nI 0)), (2, .int (nI 0))]) hC [1, 2, 0] dX3_passDay_3 rfl (by decide) rfl ?_
  have L4 : ∀ (n : Nat) (i : Nat) (x : Nat) (g : Nat → Int32), (i ≤ nd) → (x = cntD P c i) → (g = dayD P c i) → nd - i < n → G p l e rm_X3_passDay s m args below meth cd D A 0 0 Q 3 [(hs, .inr (3, [.ref hp, .ref hc])), (hc, .inl (cI, 20, .inl g)), (hp, o2 r ti np nq nd), (r 1, .inl (cI, 5, .inl (fun k => nI (P 0 k)))), (r 2, .inl (cI, 5, .inl (fun k => nI (P 1 k)))), (r 3, .inl (cI, 5, .inl (fun k => nI (P 2 k)))), (r 4, .inl (cI, 5, .inl (fun k => nI (P 3 k)))), (r 5, .inl (cI, 5, .inl (fun k => nI (P 4 k)))), (r 6, .inl (cI, 5, .inl (fun k => nI (P 5 k))))] 4 [(0, .ref hs), (1, .int (nI x)), (2, .int (nI i))] [] := by
    intro n
    induction n with
    | zero => intro i x g hi hx hg hn; exact absurd hn (Nat.not_lt_zero _)
    | succ n ih4 =>
      intro i x g hi hx hg hn
      refine g_iload_n hC 2 dX3_passDay_4 rfl rfl ?_
      refine g_aload_n hC 0 dX3_passDay_5 rfl rfl ?_
      refine g_get (C := RX3) (T := TX3) (N := 2) (ci := 3) (v := .ref hp) hC hi3 0 rfl rfl 0 (by decide) w1 (fun _ h => h) rfl dX3_passDay_6 ?_
      refine g_getN (C := RX2) (T := TX2) (N := 11) (ci := 2) (v := .int (nI nd)) hC hi2 2 rfl rfl 10 (by decide) (hC.2.2.1.f 11 rfl) (fun _ h => h) rfl dX3_passDay_9 ?_
      refine g_icmp_ge_n (a := i) (b := nd) hC (by omega) (by omega) 52 dX3_passDay_12 (by decide) (fun h12t => ?_) (fun h12f => ?_)
      · have e : i = nd := by omega
        rw [e] at hg hx
        refine g_aload_n hC 0 dX3_passDay_52 rfl rfl ?_
        refine g_get (C := RX3) (T := TX3) (N := 2) (ci := 3) (v := .ref hc) hC hi3 0 rfl rfl 1 (by decide) w2 (fun _ h => h) rfl dX3_passDay_53 ?_
        refine g_iconst (v := nI 1) hC dX3_passDay_56 rfl ?_
        refine g_aload_n hC 0 dX3_passDay_57 rfl rfl ?_
        refine g_callVip (As := []) (rest := [.int (nI 1), .ref hc]) hC (g 1) (c_X3_today l D cI cZ hs hp hc g) (cwV 0 hC.1.2.2.2.2 gX3_passDay_X3_today rfl rfl rfl dV_X3_today ⟨Nat.le_of_ble_eq_true rfl, Nat.le_of_ble_eq_true rfl⟩) rfl rfl rfl rfl (Nat.le_of_ble_eq_true rfl) dX3_passDay_58 ⟨Nat.le_of_ble_eq_true rfl, Nat.le_of_ble_eq_true rfl⟩ [0, 1] rfl rfl ?_
        refine g_top (y := c 1) (by rw [hg]; exact dayD_day hW c (by omega) nd (Nat.le_refl _)) ?_
        refine g_iconst (v := nI 1) hC dX3_passDay_61 rfl ?_
        refine g_iadd hC dX3_passDay_62 ?_
        refine g_callSNv (As := [.ref hc, .int (nI 1), .int ((c 1) + (nI 1))]) (rest := []) hC (c_X5_put l D cI cZ hc 20 g 1 ((c 1) + (nI 1)) (by first | assumption | omega) (by first | assumption | omega)) ⟨va_cnB 3 hC.1.2.2.2.2 gX3_passDay_X5_put_n25 rfl rfl rfl (hC.2.2.1.m 7 rfl) w10 dS_X5_put ⟨Nat.le_of_ble_eq_true rfl, Nat.le_of_ble_eq_true rfl⟩, w30, trivial⟩ rfl rfl (Nat.le_of_ble_eq_true rfl) dX3_passDay_63 ⟨Nat.le_of_ble_eq_true rfl, Nat.le_of_ble_eq_true rfl⟩ [1] [0, 2, 3, 4, 5, 6, 7, 8] [0, 8, 1, 2, 3, 4, 5, 6, 7] (fun (_ : Unit) => [(hs, .inr (3, [.ref hp, .ref hc])), (hc, .inl (cI, 20, .inl (upd g 1 ((c 1) + (nI 1))))), (hp, o2 r ti np nq nd), (r 1, .inl (cI, 5, .inl (fun k => nI (P 0 k)))), (r 2, .inl (cI, 5, .inl (fun k => nI (P 1 k)))), (r 3, .inl (cI, 5, .inl (fun k => nI (P 2 k)))), (r 4, .inl (cI, 5, .inl (fun k => nI (P 3 k)))), (r 5, .inl (cI, 5, .inl (fun k => nI (P 4 k)))), (r 6, .inl (cI, 5, .inl (fun k => nI (P 5 k))))]) rfl rfl rfl (fun _ => rfl) (fun z63 hp63 => ?_)
        refine g_is (ws2 := [(hs, .inr (3, [.ref hp, .ref hc])), (hc, .inl (cI, 20, .inl (upd g 1 ((c 1) + (nI 1))))), (hp, o2 r ti np nq nd), (r 1, .inl (cI, 5, .inl (fun k => nI (P 0 k)))), (r 2, .inl (cI, 5, .inl (fun k => nI (P 1 k)))), (r 3, .inl (cI, 5, .inl (fun k => nI (P 2 k)))), (r 4, .inl (cI, 5, .inl (fun k => nI (P 3 k)))), (r 5, .inl (cI, 5, .inl (fun k => nI (P 4 k)))), (r 6, .inl (cI, 5, .inl (fun k => nI (P 5 k))))]) (lv2 := [(0, .ref hs), (1, .int (nI x)), (2, .int (nI i))]) (st2 := []) rfl rfl rfl ?_
        refine g_aload_n hC 0 dX3_passDay_66 rfl rfl ?_
        refine g_callVv (As := []) (rest := []) hC (c_X3_sellOverdue l D cI cZ hs hp hc (upd g 1 ((c 1) + (nI 1))) r ti np nq nd P (by first | assumption | omega)) (cwV 0 hC.1.2.2.2.2 gX3_passDay_X3_sellOverdue rfl rfl rfl dV_X3_sellOverdue ⟨Nat.le_of_ble_eq_true rfl, Nat.le_of_ble_eq_true rfl⟩) rfl rfl rfl rfl (Nat.le_of_ble_eq_true rfl) dX3_passDay_67 ⟨Nat.le_of_ble_eq_true rfl, Nat.le_of_ble_eq_true rfl⟩ [0, 1, 2, 3, 4, 5, 6, 7, 8] [] [0, 1, 2, 3, 4, 5, 6, 7, 8] (fun (_ : Unit) => [(hs, .inr (3, [.ref hp, .ref hc])), (hc, .inl (cI, 20, .inl (sellD P (upd g 1 ((c 1) + (nI 1))) nq))), (hp, o2 r ti np nq nd), (r 1, .inl (cI, 5, .inl (fun k => nI (P 0 k)))), (r 2, .inl (cI, 5, .inl (fun k => nI (P 1 k)))), (r 3, .inl (cI, 5, .inl (fun k => nI (P 2 k)))), (r 4, .inl (cI, 5, .inl (fun k => nI (P 3 k)))), (r 5, .inl (cI, 5, .inl (fun k => nI (P 4 k)))), (r 6, .inl (cI, 5, .inl (fun k => nI (P 5 k))))]) rfl rfl rfl (fun _ => rfl) (fun z67 hp67 => ?_)
        refine g_is (ws2 := [(hs, .inr (3, [.ref hp, .ref hc])), (hc, .inl (cI, 20, .inl (sellD P (upd g 1 ((c 1) + (nI 1))) nq))), (hp, o2 r ti np nq nd), (r 1, .inl (cI, 5, .inl (fun k => nI (P 0 k)))), (r 2, .inl (cI, 5, .inl (fun k => nI (P 1 k)))), (r 3, .inl (cI, 5, .inl (fun k => nI (P 2 k)))), (r 4, .inl (cI, 5, .inl (fun k => nI (P 3 k)))), (r 5, .inl (cI, 5, .inl (fun k => nI (P 4 k)))), (r 6, .inl (cI, 5, .inl (fun k => nI (P 5 k))))]) (lv2 := [(0, .ref hs), (1, .int (nI x)), (2, .int (nI i))]) (st2 := []) rfl rfl rfl ?_
        have ecell : (sellD P (upd g 1 ((c 1) + (nI 1))) nq) = (passF P nq nd c) := by rw [passF, hg]
        refine g_ws (ws2 := [(hs, .inr (3, [.ref hp, .ref hc])), (hc, .inl (cI, 20, .inl (passF P nq nd c))), (hp, o2 r ti np nq nd), (r 1, .inl (cI, 5, .inl (fun k => nI (P 0 k)))), (r 2, .inl (cI, 5, .inl (fun k => nI (P 1 k)))), (r 3, .inl (cI, 5, .inl (fun k => nI (P 2 k)))), (r 4, .inl (cI, 5, .inl (fun k => nI (P 3 k)))), (r 5, .inl (cI, 5, .inl (fun k => nI (P 4 k)))), (r 6, .inl (cI, 5, .inl (fun k => nI (P 5 k))))]) (congrArg (fun zz : Nat → Int32 => ([(hs, .inr (3, [.ref hp, .ref hc])), (hc, .inl (cI, 20, .inl zz)), (hp, o2 r ti np nq nd), (r 1, .inl (cI, 5, .inl (fun k => nI (P 0 k)))), (r 2, .inl (cI, 5, .inl (fun k => nI (P 1 k)))), (r 3, .inl (cI, 5, .inl (fun k => nI (P 2 k)))), (r 4, .inl (cI, 5, .inl (fun k => nI (P 3 k)))), (r 5, .inl (cI, 5, .inl (fun k => nI (P 4 k)))), (r 6, .inl (cI, 5, .inl (fun k => nI (P 5 k))))] : va_W)) ecell) ?_
        refine g_iload_n hC 1 dX3_passDay_70 rfl rfl ?_
        subst hQ
        refine g_iret (v := nI x) hC () hr ?_ rfl dX3_passDay_71
        rw [hx]
      refine g_aload_n hC 0 dX3_passDay_15 rfl rfl ?_
      refine g_get (C := RX3) (T := TX3) (N := 2) (ci := 3) (v := .ref hp) hC hi3 0 rfl rfl 0 (by decide) w1 (fun _ h => h) rfl dX3_passDay_16 ?_
      refine g_iload_n hC 2 dX3_passDay_19 rfl rfl ?_
      refine g_callVip (As := [.int (nI i)]) (rest := []) hC (nI (P 4 i)) (c_X2_dayOf l D cI cZ hp r ti np nq nd P i (by first | assumption | omega)) (cwV 1 hC.1.2.2.2.2 gX3_passDay_X2_dayOf rfl rfl rfl dV_X2_dayOf ⟨Nat.le_of_ble_eq_true rfl, Nat.le_of_ble_eq_true rfl⟩) rfl rfl rfl rfl (Nat.le_of_ble_eq_true rfl) dX3_passDay_20 ⟨Nat.le_of_ble_eq_true rfl, Nat.le_of_ble_eq_true rfl⟩ [2, 7] rfl rfl ?_
      refine g_aload_n hC 0 dX3_passDay_23 rfl rfl ?_
      refine g_callVip (As := []) (rest := [.int (nI (P 4 i))]) hC (g 1) (c_X3_today l D cI cZ hs hp hc g) (cwV 0 hC.1.2.2.2.2 gX3_passDay_X3_today rfl rfl rfl dV_X3_today ⟨Nat.le_of_ble_eq_true rfl, Nat.le_of_ble_eq_true rfl⟩) rfl rfl rfl rfl (Nat.le_of_ble_eq_true rfl) dX3_passDay_24 ⟨Nat.le_of_ble_eq_true rfl, Nat.le_of_ble_eq_true rfl⟩ [0, 1] rfl rfl ?_
      refine g_icmp_ne hC 46 dX3_passDay_27 (by decide) (fun h27t => ?_) (fun h27f => ?_)
      · refine g_iinc (v := nI (i + 1)) (lv' := [(0, .ref hs), (1, .int (nI x)), (2, .int (nI (i + 1)))]) hC 2 [1, 2, 0] dX3_passDay_46 rfl (nI_add _ 1) (by decide) rfl ?_
        refine g_goto hC 4 dX3_passDay_49 (by decide) ?_
        refine ih4 (i + 1) x g ?_ ?_ ?_ ?_
        · omega
        · have e1 : g 1 = c 1 := by rw [hg]; exact dayD_day hW c (by omega) i (by omega)
          show _ = cntD P c i + (if nI (P 4 i) = c 1 ∧ dayD P c i (5 + P 3 i) = nI 0 then 1 else 0)
          rw [← e1, ← hg, ← hx]
          rw [if_neg (fun q => h27t q.1)]; rfl
        · have e1 : g 1 = c 1 := by rw [hg]; exact dayD_day hW c (by omega) i (by omega)
          show _ = (if nI (P 4 i) = c 1 then deedF P (dayD P c i) i else dayD P c i)
          rw [← e1, if_neg h27t]; exact hg
        · omega
      refine g_iload_n hC 1 dX3_passDay_30 rfl rfl ?_
      refine g_aload_n hC 0 dX3_passDay_31 rfl rfl ?_
      refine g_iload_n hC 2 dX3_passDay_32 rfl rfl ?_
      refine g_callVi (As := [.int (nI i)]) (rest := [.int (nI x)]) hC (c_X3_tryDeed l D cI cZ hs hp hc g r ti np nq nd P i (by first | assumption | omega) (by first | assumption | omega)) (cwV 1 hC.1.2.2.2.2 gX3_passDay_X3_tryDeed rfl rfl rfl dV_X3_tryDeed ⟨Nat.le_of_ble_eq_true rfl, Nat.le_of_ble_eq_true rfl⟩) rfl rfl rfl rfl (Nat.le_of_ble_eq_true rfl) dX3_passDay_33 ⟨Nat.le_of_ble_eq_true rfl, Nat.le_of_ble_eq_true rfl⟩ [0, 1, 2, 3, 4, 5, 6, 7, 8] [] [0, 1, 2, 3, 4, 5, 6, 7, 8] (fun (_ : Unit) => [(hs, .inr (3, [.ref hp, .ref hc])), (hc, .inl (cI, 20, .inl (deedF P g i))), (hp, o2 r ti np nq nd), (r 1, .inl (cI, 5, .inl (fun i => nI (P 0 i)))), (r 2, .inl (cI, 5, .inl (fun i => nI (P 1 i)))), (r 3, .inl (cI, 5, .inl (fun i => nI (P 2 i)))), (r 4, .inl (cI, 5, .inl (fun i => nI (P 3 i)))), (r 5, .inl (cI, 5, .inl (fun i => nI (P 4 i)))), (r 6, .inl (cI, 5, .inl (fun i => nI (P 5 i))))]) rfl rfl rfl (fun _ => rfl) (fun r33 z33 hp33 => ?_)
      try dsimp only at hp33
      subst hp33
      refine g_is (ws2 := [(hs, .inr (3, [.ref hp, .ref hc])), (hc, .inl (cI, 20, .inl (deedF P g i))), (hp, o2 r ti np nq nd), (r 1, .inl (cI, 5, .inl (fun i => nI (P 0 i)))), (r 2, .inl (cI, 5, .inl (fun i => nI (P 1 i)))), (r 3, .inl (cI, 5, .inl (fun i => nI (P 2 i)))), (r 4, .inl (cI, 5, .inl (fun i => nI (P 3 i)))), (r 5, .inl (cI, 5, .inl (fun i => nI (P 4 i)))), (r 6, .inl (cI, 5, .inl (fun i => nI (P 5 i))))]) (lv2 := [(0, .ref hs), (1, .int (nI x)), (2, .int (nI i))]) (st2 := [.int (bI (g (5 + P 3 i) = nI 0)), .int (nI x)]) rfl rfl rfl ?_
      refine g_if_eq_b hC 43 dX3_passDay_36 (by decide) (fun h36t => ?_) (fun h36f => ?_)
      · refine g_iconst (v := nI 0) hC dX3_passDay_43 rfl ?_
        refine g_iadd_n (a := x) (b := 0) hC dX3_passDay_44 ?_
        refine g_istore_n (lv' := [(0, .ref hs), (1, .int (nI (x + 0))), (2, .int (nI i))]) hC [1, 0, 2] dX3_passDay_45 rfl (by decide) rfl ?_
        refine g_iinc (v := nI (i + 1)) (lv' := [(0, .ref hs), (1, .int (nI (x + 0))), (2, .int (nI (i + 1)))]) hC 2 [1, 2, 0] dX3_passDay_46 rfl (nI_add _ 1) (by decide) rfl ?_
        refine g_goto hC 4 dX3_passDay_49 (by decide) ?_
        refine ih4 (i + 1) (x + 0) (deedF P g i) ?_ ?_ ?_ ?_
        · omega
        · have e1 : g 1 = c 1 := by rw [hg]; exact dayD_day hW c (by omega) i (by omega)
          show _ = cntD P c i + (if nI (P 4 i) = c 1 ∧ dayD P c i (5 + P 3 i) = nI 0 then 1 else 0)
          rw [← e1, ← hg, ← hx]
          rw [if_neg (fun q => h36t q.2)]
        · have e1 : g 1 = c 1 := by rw [hg]; exact dayD_day hW c (by omega) i (by omega)
          show _ = (if nI (P 4 i) = c 1 then deedF P (dayD P c i) i else dayD P c i)
          rw [← e1, if_pos h27f, ← hg]
        · omega
      refine g_iconst (v := nI 1) hC dX3_passDay_39 rfl ?_
      refine g_goto hC 44 dX3_passDay_40 (by decide) ?_
      refine g_iadd_n (a := x) (b := 1) hC dX3_passDay_44 ?_
      refine g_istore_n (lv' := [(0, .ref hs), (1, .int (nI (x + 1))), (2, .int (nI i))]) hC [1, 0, 2] dX3_passDay_45 rfl (by decide) rfl ?_
      refine g_iinc (v := nI (i + 1)) (lv' := [(0, .ref hs), (1, .int (nI (x + 1))), (2, .int (nI (i + 1)))]) hC 2 [1, 2, 0] dX3_passDay_46 rfl (nI_add _ 1) (by decide) rfl ?_
      refine g_goto hC 4 dX3_passDay_49 (by decide) ?_
      refine ih4 (i + 1) (x + 1) (deedF P g i) ?_ ?_ ?_ ?_
      · omega
      · have e1 : g 1 = c 1 := by rw [hg]; exact dayD_day hW c (by omega) i (by omega)
        show _ = cntD P c i + (if nI (P 4 i) = c 1 ∧ dayD P c i (5 + P 3 i) = nI 0 then 1 else 0)
        rw [← e1, ← hg, ← hx]
        rw [if_pos ⟨h27f, h36f⟩]
      · have e1 : g 1 = c 1 := by rw [hg]; exact dayD_day hW c (by omega) i (by omega)
        show _ = (if nI (P 4 i) = c 1 then deedF P (dayD P c i) i else dayD P c i)
        rw [← e1, if_pos h27f, ← hg]
      · omega
  refine L4 _ 0 0 c ?_ ?_ ?_ (Nat.lt_succ_self _)
  · omega
  · rfl
  · rfl

abbrev rm_X3_deedsInTheEnd : Room := { frames := 4, cells := 0, slots := 0, locals := 88 }
set_option maxRecDepth 100000 in
set_option maxHeartbeats 4000000 in
theorem c_X3_deedsInTheEnd (l : Launch) (D : va_G) (cI cZ : ClassId) (hs : Nat) (hp : Nat) (hc : Nat) (c : Nat → Int32) (r : Nat → Nat) (ti : Int32) (np : Nat) (nq : Nat) (nd : Nat) (P : Nat → Nat → Nat) (hW : WFP np nq nd P) : CtI l yX3_deedsInTheEnd wsX3_deedsInTheEnd rm_X3_deedsInTheEnd D cI cZ [.ref hs] [(hs, .inr (3, [.ref hp, .ref hc])), (hc, .inl (cI, 20, .inl c)), (hp, o2 r ti np nq nd), (r 1, .inl (cI, 5, .inl (fun k => nI (P 0 k)))), (r 2, .inl (cI, 5, .inl (fun k => nI (P 1 k)))), (r 3, .inl (cI, 5, .inl (fun k => nI (P 2 k)))), (r 4, .inl (cI, 5, .inl (fun k => nI (P 3 k)))), (r 5, .inl (cI, 5, .inl (fun k => nI (P 4 k)))), (r 6, .inl (cI, 5, .inl (fun k => nI (P 5 k))))] (fun r (_ : Unit) => r = nI (deedsThat nd (passN P nq nd c 20) (nI 1))) (fun (_ : Unit) => [(hs, .inr (3, [.ref hp, .ref hc])), (hc, .inl (cI, 20, .inl (passN P nq nd c 20))), (hp, o2 r ti np nq nd), (r 1, .inl (cI, 5, .inl (fun k => nI (P 0 k)))), (r 2, .inl (cI, 5, .inl (fun k => nI (P 1 k)))), (r 3, .inl (cI, 5, .inl (fun k => nI (P 2 k)))), (r 4, .inl (cI, 5, .inl (fun k => nI (P 3 k)))), (r 5, .inl (cI, 5, .inl (fun k => nI (P 4 k)))), (r 6, .inl (cI, 5, .inl (fun k => nI (P 5 k))))]) 0 0 := by
  refine g_startI (ret := (some .int)) (own := RX3) (lv0 := [(0, .ref hs)]) (by decide) rfl rfl (Nat.le_of_ble_eq_true rfl) rfl ?_
  intro p e s m args below meth cd A Q hin hr hQ hC
  obtain ⟨⟨hnp, hnq, hnd⟩, hq4, hd5⟩ := id hW
  refine g_iconst (v := nI 0) hC dX3_deedsInTheEnd_0 rfl ?_
  refine g_istore_n (lv' := [(0, .ref hs), (1, .int (nI 0))]) hC [1, 0] dX3_deedsInTheEnd_1 rfl (by decide) rfl ?_
  have L2 : ∀ (n : Nat) (i : Nat) (g : Nat → Int32), (i ≤ 20) → (g = passN P nq nd c i) → 20 - i < n → G p l e rm_X3_deedsInTheEnd s m args below meth cd D A 0 0 Q 2 [(hs, .inr (3, [.ref hp, .ref hc])), (hc, .inl (cI, 20, .inl g)), (hp, o2 r ti np nq nd), (r 1, .inl (cI, 5, .inl (fun k => nI (P 0 k)))), (r 2, .inl (cI, 5, .inl (fun k => nI (P 1 k)))), (r 3, .inl (cI, 5, .inl (fun k => nI (P 2 k)))), (r 4, .inl (cI, 5, .inl (fun k => nI (P 3 k)))), (r 5, .inl (cI, 5, .inl (fun k => nI (P 4 k)))), (r 6, .inl (cI, 5, .inl (fun k => nI (P 5 k))))] 2 [(0, .ref hs), (1, .int (nI i))] [] := by
    intro n
    induction n with
    | zero => intro i g hi hg hn; exact absurd hn (Nat.not_lt_zero _)
    | succ n ih2 =>
      intro i g hi hg hn
      refine g_iload_n hC 1 dX3_deedsInTheEnd_2 rfl rfl ?_
      refine g_bipush (v := nI 20) hC dX3_deedsInTheEnd_3 (by decide +kernel) ?_
      refine g_icmp_ge_n (a := i) (b := 20) hC (by omega) (by omega) 19 dX3_deedsInTheEnd_5 (by decide) (fun h5t => ?_) (fun h5f => ?_)
      · have e : i = 20 := by omega
        rw [e] at hg
        have ecell : g = (passN P nq nd c 20) := by exact hg
        refine g_ws (ws2 := [(hs, .inr (3, [.ref hp, .ref hc])), (hc, .inl (cI, 20, .inl (passN P nq nd c 20))), (hp, o2 r ti np nq nd), (r 1, .inl (cI, 5, .inl (fun k => nI (P 0 k)))), (r 2, .inl (cI, 5, .inl (fun k => nI (P 1 k)))), (r 3, .inl (cI, 5, .inl (fun k => nI (P 2 k)))), (r 4, .inl (cI, 5, .inl (fun k => nI (P 3 k)))), (r 5, .inl (cI, 5, .inl (fun k => nI (P 4 k)))), (r 6, .inl (cI, 5, .inl (fun k => nI (P 5 k))))]) (congrArg (fun zz : Nat → Int32 => ([(hs, .inr (3, [.ref hp, .ref hc])), (hc, .inl (cI, 20, .inl zz)), (hp, o2 r ti np nq nd), (r 1, .inl (cI, 5, .inl (fun k => nI (P 0 k)))), (r 2, .inl (cI, 5, .inl (fun k => nI (P 1 k)))), (r 3, .inl (cI, 5, .inl (fun k => nI (P 2 k)))), (r 4, .inl (cI, 5, .inl (fun k => nI (P 3 k)))), (r 5, .inl (cI, 5, .inl (fun k => nI (P 4 k)))), (r 6, .inl (cI, 5, .inl (fun k => nI (P 5 k))))] : va_W)) ecell) ?_
        refine g_aload_n hC 0 dX3_deedsInTheEnd_19 rfl rfl ?_
        refine g_iconst (v := nI 1) hC dX3_deedsInTheEnd_20 rfl ?_
        refine g_callVip (As := [.int (nI 1)]) (rest := []) hC (nI (deedsThat nd (passN P nq nd c 20) (nI 1))) (c_X3_deedsThatAre l D cI cZ hs hp hc (passN P nq nd c 20) r ti np nq nd (nI 1) (by first | assumption | omega)) (cwV 1 hC.1.2.2.2.2 gX3_deedsInTheEnd_X3_deedsThatAre rfl rfl rfl dV_X3_deedsThatAre ⟨Nat.le_of_ble_eq_true rfl, Nat.le_of_ble_eq_true rfl⟩) rfl rfl rfl rfl (Nat.le_of_ble_eq_true rfl) dX3_deedsInTheEnd_21 ⟨Nat.le_of_ble_eq_true rfl, Nat.le_of_ble_eq_true rfl⟩ [0, 1, 2] rfl rfl ?_
        subst hQ
        refine g_iret (v := nI (deedsThat nd (passN P nq nd c 20) (nI 1))) hC () hr ?_ rfl dX3_deedsInTheEnd_24
        rfl
      refine g_aload_n hC 0 dX3_deedsInTheEnd_8 rfl rfl ?_
      refine g_callVi (As := []) (rest := []) hC (c_X3_passDay l D cI cZ hs hp hc g r ti np nq nd P (by first | assumption | omega)) (cwV 0 hC.1.2.2.2.2 gX3_deedsInTheEnd_X3_passDay rfl rfl rfl dV_X3_passDay ⟨Nat.le_of_ble_eq_true rfl, Nat.le_of_ble_eq_true rfl⟩) rfl rfl rfl rfl (Nat.le_of_ble_eq_true rfl) dX3_deedsInTheEnd_9 ⟨Nat.le_of_ble_eq_true rfl, Nat.le_of_ble_eq_true rfl⟩ [0, 1, 2, 3, 4, 5, 6, 7, 8] [] [0, 1, 2, 3, 4, 5, 6, 7, 8] (fun (_ : Unit) => [(hs, .inr (3, [.ref hp, .ref hc])), (hc, .inl (cI, 20, .inl (passF P nq nd g))), (hp, o2 r ti np nq nd), (r 1, .inl (cI, 5, .inl (fun k => nI (P 0 k)))), (r 2, .inl (cI, 5, .inl (fun k => nI (P 1 k)))), (r 3, .inl (cI, 5, .inl (fun k => nI (P 2 k)))), (r 4, .inl (cI, 5, .inl (fun k => nI (P 3 k)))), (r 5, .inl (cI, 5, .inl (fun k => nI (P 4 k)))), (r 6, .inl (cI, 5, .inl (fun k => nI (P 5 k))))]) rfl rfl rfl (fun _ => rfl) (fun r9 z9 hp9 => ?_)
      try dsimp only at hp9
      subst hp9
      refine g_is (ws2 := [(hs, .inr (3, [.ref hp, .ref hc])), (hc, .inl (cI, 20, .inl (passF P nq nd g))), (hp, o2 r ti np nq nd), (r 1, .inl (cI, 5, .inl (fun k => nI (P 0 k)))), (r 2, .inl (cI, 5, .inl (fun k => nI (P 1 k)))), (r 3, .inl (cI, 5, .inl (fun k => nI (P 2 k)))), (r 4, .inl (cI, 5, .inl (fun k => nI (P 3 k)))), (r 5, .inl (cI, 5, .inl (fun k => nI (P 4 k)))), (r 6, .inl (cI, 5, .inl (fun k => nI (P 5 k))))]) (lv2 := [(0, .ref hs), (1, .int (nI i))]) (st2 := [.int (nI (cntD P g nd))]) rfl rfl rfl ?_
      refine g_pop hC dX3_deedsInTheEnd_12 rfl ?_
      refine g_iinc (v := nI (i + 1)) (lv' := [(0, .ref hs), (1, .int (nI (i + 1)))]) hC 1 [1, 0] dX3_deedsInTheEnd_13 rfl (nI_add _ 1) (by decide) rfl ?_
      refine g_goto hC 2 dX3_deedsInTheEnd_16 (by decide) ?_
      refine ih2 (i + 1) (passF P nq nd g) ?_ ?_ ?_
      · omega
      · rw [hg]; rfl
      · omega
  refine L2 _ 0 c ?_ ?_ (Nat.lt_succ_self _)
  · omega
  · rfl

abbrev rm_X3_sellAllBut : Room := { frames := 1, cells := 0, slots := 0, locals := 22 }
set_option maxRecDepth 100000 in
set_option maxHeartbeats 4000000 in
theorem c_X3_sellAllBut (l : Launch) (D : va_G) (cI cZ : ClassId) (hs : Nat) (hp : Nat) (hc : Nat) (c : Nat → Int32) (r : Nat → Nat) (ti : Int32) (np : Nat) (nq : Nat) (nd : Nat) (a : Int32) (hb : nq ≤ 5) : CtV l yX3_sellAllBut wsX3_sellAllBut rm_X3_sellAllBut D cI cZ [.ref hs, .int a] [(hs, .inr (3, [.ref hp, .ref hc])), (hc, .inl (cI, 20, .inl c)), (hp, o2 r ti np nq nd)] (fun (_ : Unit) => True) (fun (_ : Unit) => [(hs, .inr (3, [.ref hp, .ref hc])), (hc, .inl (cI, 20, .inl (sellB a c nq))), (hp, o2 r ti np nq nd)]) 0 0 := by
  refine g_startV (ret := none) (own := RX3) (lv0 := [(0, .ref hs), (1, .int a)]) (by decide) rfl rfl (Nat.le_of_ble_eq_true rfl) rfl ?_
  intro p e s m args below meth cd A Q hin hr hQ hC
  have hi2 : ∀ w ∈ wsX20, w ∈ wsX3_sellAllBut := fun _ h => List.mem_cons_of_mem _ (List.mem_append_right _ h)
  have hi3 : ∀ w ∈ wsX30, w ∈ wsX3_sellAllBut := fun _ h => List.mem_cons_of_mem _ (List.mem_append_left _ (List.mem_append_right _ h))
  have w1 := hC.1.2.2.2.2 (.fieldLink "PluckBroker$State" 15 "PluckBroker$State" "plan" "LPluckBroker$Plan;") (List.mem_of_getElem? (i := 1) rfl)
  have w2 := hC.1.2.2.2.2 (.fieldLink "PluckBroker$State" 11 "PluckBroker$State" "cells" "[I") (List.mem_of_getElem? (i := 2) rfl)
  have w3 := hC.1.2.2.2.2 (.static ⟨"PluckBroker", "put", "([III)V"⟩) (List.mem_of_getElem? (i := 3) rfl)
  have w4 := hC.1.2.2.2.2 (.initialized "PluckBroker") (List.mem_of_getElem? (i := 4) rfl)
  refine g_iconst (v := nI 0) hC dX3_sellAllBut_0 rfl ?_
  refine g_istore_n (lv' := [(0, .ref hs), (1, .int a), (2, .int (nI 0))]) hC [1, 2, 0] dX3_sellAllBut_1 rfl (by decide) rfl ?_
  have L2 : ∀ (n : Nat) (i : Nat) (g : Nat → Int32), (i ≤ nq) → (g = sellB a c i) → nq - i < n → G p l e rm_X3_sellAllBut s m args below meth cd D A 0 0 Q 3 [(hs, .inr (3, [.ref hp, .ref hc])), (hc, .inl (cI, 20, .inl g)), (hp, o2 r ti np nq nd)] 2 [(0, .ref hs), (1, .int a), (2, .int (nI i))] [] := by
    intro n
    induction n with
    | zero => intro i g hi hg hn; exact absurd hn (Nat.not_lt_zero _)
    | succ n ih2 =>
      intro i g hi hg hn
      refine g_iload_n hC 2 dX3_sellAllBut_2 rfl rfl ?_
      refine g_aload_n hC 0 dX3_sellAllBut_3 rfl rfl ?_
      refine g_get (C := RX3) (T := TX3) (N := 2) (ci := 3) (v := .ref hp) hC hi3 0 rfl rfl 0 (by decide) w1 (fun _ h => h) rfl dX3_sellAllBut_4 ?_
      refine g_getN (C := RX2) (T := TX2) (N := 11) (ci := 2) (v := .int (nI nq)) hC hi2 2 rfl rfl 9 (by decide) (hC.2.2.1.f 8 rfl) (fun _ h => h) rfl dX3_sellAllBut_7 ?_
      refine g_icmp_ge_n (a := i) (b := nq) hC (by omega) (by omega) 35 dX3_sellAllBut_10 (by decide) (fun h10t => ?_) (fun h10f => ?_)
      · have e : i = nq := by omega
        rw [e] at hg
        have ecell : g = (sellB a c nq) := by exact hg
        refine g_ws (ws2 := [(hs, .inr (3, [.ref hp, .ref hc])), (hc, .inl (cI, 20, .inl (sellB a c nq))), (hp, o2 r ti np nq nd)]) (congrArg (fun zz : Nat → Int32 => ([(hs, .inr (3, [.ref hp, .ref hc])), (hc, .inl (cI, 20, .inl zz)), (hp, o2 r ti np nq nd)] : va_W)) ecell) ?_
        subst hQ
        refine g_vret hC () hr ?_ rfl dX3_sellAllBut_35
        trivial
      refine g_iload_n hC 2 dX3_sellAllBut_13 rfl rfl ?_
      refine g_iload_n hC 1 dX3_sellAllBut_14 rfl rfl ?_
      refine g_icmp_eq hC 29 dX3_sellAllBut_15 (by decide) (fun h15t => ?_) (fun h15f => ?_)
      · refine g_iinc (v := nI (i + 1)) (lv' := [(0, .ref hs), (1, .int a), (2, .int (nI (i + 1)))]) hC 2 [1, 2, 0] dX3_sellAllBut_29 rfl (nI_add _ 1) (by decide) rfl ?_
        refine g_goto hC 2 dX3_sellAllBut_32 (by decide) ?_
        refine ih2 (i + 1) g ?_ ?_ ?_
        · omega
        · show _ = (if nI i = a then sellB a c i else upd (sellB a c i) (5 + i) (nI 2))
          rw [if_pos h15t]; exact hg
        · omega
      refine g_aload_n hC 0 dX3_sellAllBut_18 rfl rfl ?_
      refine g_get (C := RX3) (T := TX3) (N := 2) (ci := 3) (v := .ref hc) hC hi3 0 rfl rfl 1 (by decide) w2 (fun _ h => h) rfl dX3_sellAllBut_19 ?_
      refine g_iconst (v := nI 5) hC dX3_sellAllBut_22 rfl ?_
      refine g_iload_n hC 2 dX3_sellAllBut_23 rfl rfl ?_
      refine g_iadd_n (a := 5) (b := i) hC dX3_sellAllBut_24 ?_
      refine g_iconst (v := nI 2) hC dX3_sellAllBut_25 rfl ?_
      refine g_callSNv (As := [.ref hc, .int (nI (5 + i)), .int (nI 2)]) (rest := []) hC (c_X5_put l D cI cZ hc 20 g (5 + i) (nI 2) (by first | assumption | omega) (by first | assumption | omega)) ⟨va_cnB 3 hC.1.2.2.2.2 gX3_sellAllBut_X5_put_n25 rfl rfl rfl (hC.2.2.1.m 7 rfl) w4 dS_X5_put ⟨Nat.le_of_ble_eq_true rfl, Nat.le_of_ble_eq_true rfl⟩, w3, trivial⟩ rfl rfl (Nat.le_of_ble_eq_true rfl) dX3_sellAllBut_26 ⟨Nat.le_of_ble_eq_true rfl, Nat.le_of_ble_eq_true rfl⟩ [1] [0, 2] [0, 2, 1] (fun (_ : Unit) => [(hs, .inr (3, [.ref hp, .ref hc])), (hc, .inl (cI, 20, .inl (upd g (5 + i) (nI 2)))), (hp, o2 r ti np nq nd)]) rfl rfl rfl (fun _ => rfl) (fun z26 hp26 => ?_)
      refine g_is (ws2 := [(hs, .inr (3, [.ref hp, .ref hc])), (hc, .inl (cI, 20, .inl (upd g (5 + i) (nI 2)))), (hp, o2 r ti np nq nd)]) (lv2 := [(0, .ref hs), (1, .int a), (2, .int (nI i))]) (st2 := []) rfl rfl rfl ?_
      refine g_iinc (v := nI (i + 1)) (lv' := [(0, .ref hs), (1, .int a), (2, .int (nI (i + 1)))]) hC 2 [1, 2, 0] dX3_sellAllBut_29 rfl (nI_add _ 1) (by decide) rfl ?_
      refine g_goto hC 2 dX3_sellAllBut_32 (by decide) ?_
      refine ih2 (i + 1) (upd g (5 + i) (nI 2)) ?_ ?_ ?_
      · omega
      · show _ = (if nI i = a then sellB a c i else upd (sellB a c i) (5 + i) (nI 2))
        rw [if_neg h15f, ← hg]
      · omega
  refine L2 _ 0 c ?_ ?_ (Nat.lt_succ_self _)
  · omega
  · rfl

abbrev rm_X3_settle : Room := { frames := 2, cells := 0, slots := 0, locals := 42 }
set_option maxRecDepth 100000 in
set_option maxHeartbeats 4000000 in
theorem c_X3_settle (l : Launch) (D : va_G) (cI cZ : ClassId) (hs : Nat) (hp : Nat) (hc : Nat) (c : Nat → Int32) (r : Nat → Nat) (ti : Int32) (np : Nat) (nq : Nat) (nd : Nat) (z : Nat) (hb : nq ≤ 5) (hz : z < 32) : CtV l yX3_settle wsX3_settle rm_X3_settle D cI cZ [.ref hs, .int (nI z)] [(hs, .inr (3, [.ref hp, .ref hc])), (hc, .inl (cI, 20, .inl c)), (hp, o2 r ti np nq nd)] (fun (_ : Unit) => True) (fun (_ : Unit) => [(hs, .inr (3, [.ref hp, .ref hc])), (hc, .inl (cI, 20, .inl (settleF z c nq))), (hp, o2 r ti np nq nd)]) 0 0 := by
  refine g_startV (ret := none) (own := RX3) (lv0 := [(0, .ref hs), (1, .int (nI z))]) (by decide) rfl rfl (Nat.le_of_ble_eq_true rfl) rfl ?_
  intro p e s m args below meth cd A Q hin hr hQ hC
  have hi2 : ∀ w ∈ wsX20, w ∈ wsX3_settle := fun _ h => List.mem_cons_of_mem _ (List.mem_append_right _ h)
  have hi3 : ∀ w ∈ wsX30, w ∈ wsX3_settle := fun _ h => List.mem_cons_of_mem _ (List.mem_append_left _ (List.mem_append_right _ h))
  have w1 := hC.1.2.2.2.2 (.fieldLink "PluckBroker$State" 15 "PluckBroker$State" "plan" "LPluckBroker$Plan;") (List.mem_of_getElem? (i := 1) rfl)
  have w2 := hC.1.2.2.2.2 (.fieldLink "PluckBroker$State" 11 "PluckBroker$State" "cells" "[I") (List.mem_of_getElem? (i := 2) rfl)
  have w9 := hC.1.2.2.2.2 (.initialized "PluckBroker") (List.mem_of_getElem? (i := 9) rfl)
  have w11 := hC.1.2.2.2.2 (.static ⟨"PluckBroker", "put", "([III)V"⟩) (List.mem_of_getElem? (i := 11) rfl)
  refine g_iconst (v := nI 0) hC dX3_settle_0 rfl ?_
  refine g_istore_n (lv' := [(0, .ref hs), (1, .int (nI z)), (2, .int (nI 0))]) hC [1, 2, 0] dX3_settle_1 rfl (by decide) rfl ?_
  have L2 : ∀ (n : Nat) (i : Nat) (g : Nat → Int32), (i ≤ nq) → (g = settleF z c i) → nq - i < n → G p l e rm_X3_settle s m args below meth cd D A 0 0 Q 3 [(hs, .inr (3, [.ref hp, .ref hc])), (hc, .inl (cI, 20, .inl g)), (hp, o2 r ti np nq nd)] 2 [(0, .ref hs), (1, .int (nI z)), (2, .int (nI i))] [] := by
    intro n
    induction n with
    | zero => intro i g hi hg hn; exact absurd hn (Nat.not_lt_zero _)
    | succ n ih2 =>
      intro i g hi hg hn
      refine g_iload_n hC 2 dX3_settle_2 rfl rfl ?_
      refine g_aload_n hC 0 dX3_settle_3 rfl rfl ?_
      refine g_get (C := RX3) (T := TX3) (N := 2) (ci := 3) (v := .ref hp) hC hi3 0 rfl rfl 0 (by decide) w1 (fun _ h => h) rfl dX3_settle_4 ?_
      refine g_getN (C := RX2) (T := TX2) (N := 11) (ci := 2) (v := .int (nI nq)) hC hi2 2 rfl rfl 9 (by decide) (hC.2.2.1.f 8 rfl) (fun _ h => h) rfl dX3_settle_7 ?_
      refine g_icmp_ge_n (a := i) (b := nq) hC (by omega) (by omega) 52 dX3_settle_10 (by decide) (fun h10t => ?_) (fun h10f => ?_)
      · have e : i = nq := by omega
        rw [e] at hg
        have ecell : g = (settleF z c nq) := by exact hg
        refine g_ws (ws2 := [(hs, .inr (3, [.ref hp, .ref hc])), (hc, .inl (cI, 20, .inl (settleF z c nq))), (hp, o2 r ti np nq nd)]) (congrArg (fun zz : Nat → Int32 => ([(hs, .inr (3, [.ref hp, .ref hc])), (hc, .inl (cI, 20, .inl zz)), (hp, o2 r ti np nq nd)] : va_W)) ecell) ?_
        subst hQ
        refine g_vret hC () hr ?_ rfl dX3_settle_52
        trivial
      refine g_aload_n hC 0 dX3_settle_13 rfl rfl ?_
      refine g_iload_n hC 2 dX3_settle_14 rfl rfl ?_
      refine g_callVip (As := [.int (nI i)]) (rest := []) hC (g (5 + i)) (c_X3_standingOf l D cI cZ hs hp hc g i (by first | assumption | omega)) (cwV 1 hC.1.2.2.2.2 gX3_settle_X3_standingOf rfl rfl rfl dV_X3_standingOf ⟨Nat.le_of_ble_eq_true rfl, Nat.le_of_ble_eq_true rfl⟩) rfl rfl rfl rfl (Nat.le_of_ble_eq_true rfl) dX3_settle_15 ⟨Nat.le_of_ble_eq_true rfl, Nat.le_of_ble_eq_true rfl⟩ [0, 1] rfl rfl ?_
      refine g_iconst (v := nI 1) hC dX3_settle_18 rfl ?_
      refine g_icmp_ne hC 46 dX3_settle_19 (by decide) (fun h19t => ?_) (fun h19f => ?_)
      · refine g_iinc (v := nI (i + 1)) (lv' := [(0, .ref hs), (1, .int (nI z)), (2, .int (nI (i + 1)))]) hC 2 [1, 2, 0] dX3_settle_46 rfl (nI_add _ 1) (by decide) rfl ?_
        refine g_goto hC 2 dX3_settle_49 (by decide) ?_
        refine ih2 (i + 1) g ?_ ?_ ?_
        · omega
        · show _ = (if settleF z c i (5 + i) = nI 1 then upd (settleF z c i) (5 + i) (if hasB z i then nI 2 else nI 0) else settleF z c i)
          rw [← hg, if_neg h19t]
        · omega
      refine g_aload_n hC 0 dX3_settle_22 rfl rfl ?_
      refine g_get (C := RX3) (T := TX3) (N := 2) (ci := 3) (v := .ref hc) hC hi3 0 rfl rfl 1 (by decide) w2 (fun _ h => h) rfl dX3_settle_23 ?_
      refine g_iconst (v := nI 5) hC dX3_settle_26 rfl ?_
      refine g_iload_n hC 2 dX3_settle_27 rfl rfl ?_
      refine g_iadd_n (a := 5) (b := i) hC dX3_settle_28 ?_
      refine g_iload_n hC 1 dX3_settle_29 rfl rfl ?_
      refine g_iload_n hC 2 dX3_settle_30 rfl rfl ?_
      refine g_ishr_n (a := z) (b := i) hC (by omega) (by omega) dX3_settle_31 ?_
      refine g_iconst (v := nI 1) hC dX3_settle_32 rfl ?_
      refine g_iand_n (a := (z / 2 ^ i)) (b := 1) hC dX3_settle_33 ?_
      refine g_iconst (v := nI 1) hC dX3_settle_34 rfl ?_
      refine g_icmp_ne_n (a := ((z / 2 ^ i) &&& 1)) (b := 1) hC (by first | exact and1_lt _ | omega) (by first | exact and1_lt _ | omega) 42 dX3_settle_35 (by decide) (fun h35t => ?_) (fun h35f => ?_)
      · refine g_iconst (v := nI 0) hC dX3_settle_42 rfl ?_
        refine g_callSNv (As := [.ref hc, .int (nI (5 + i)), .int (nI 0)]) (rest := []) hC (c_X5_put l D cI cZ hc 20 g (5 + i) (nI 0) (by first | assumption | omega) (by first | assumption | omega)) ⟨va_cnB 3 hC.1.2.2.2.2 gX3_settle_X5_put_n25 rfl rfl rfl (hC.2.2.1.m 7 rfl) w9 dS_X5_put ⟨Nat.le_of_ble_eq_true rfl, Nat.le_of_ble_eq_true rfl⟩, w11, trivial⟩ rfl rfl (Nat.le_of_ble_eq_true rfl) dX3_settle_43 ⟨Nat.le_of_ble_eq_true rfl, Nat.le_of_ble_eq_true rfl⟩ [1] [0, 2] [0, 2, 1] (fun (_ : Unit) => [(hs, .inr (3, [.ref hp, .ref hc])), (hc, .inl (cI, 20, .inl (upd g (5 + i) (nI 0)))), (hp, o2 r ti np nq nd)]) rfl rfl rfl (fun _ => rfl) (fun z43 hp43 => ?_)
        refine g_is (ws2 := [(hs, .inr (3, [.ref hp, .ref hc])), (hc, .inl (cI, 20, .inl (upd g (5 + i) (nI 0)))), (hp, o2 r ti np nq nd)]) (lv2 := [(0, .ref hs), (1, .int (nI z)), (2, .int (nI i))]) (st2 := []) rfl rfl rfl ?_
        refine g_iinc (v := nI (i + 1)) (lv' := [(0, .ref hs), (1, .int (nI z)), (2, .int (nI (i + 1)))]) hC 2 [1, 2, 0] dX3_settle_46 rfl (nI_add _ 1) (by decide) rfl ?_
        refine g_goto hC 2 dX3_settle_49 (by decide) ?_
        refine ih2 (i + 1) (upd g (5 + i) (nI 0)) ?_ ?_ ?_
        · omega
        · show _ = (if settleF z c i (5 + i) = nI 1 then upd (settleF z c i) (5 + i) (if hasB z i then nI 2 else nI 0) else settleF z c i)
          rw [← hg, if_pos h19f, if_neg h35t]
        · omega
      refine g_iconst (v := nI 2) hC dX3_settle_38 rfl ?_
      refine g_goto hC 43 dX3_settle_39 (by decide) ?_
      refine g_callSNv (As := [.ref hc, .int (nI (5 + i)), .int (nI 2)]) (rest := []) hC (c_X5_put l D cI cZ hc 20 g (5 + i) (nI 2) (by first | assumption | omega) (by first | assumption | omega)) ⟨va_cnB 3 hC.1.2.2.2.2 gX3_settle_X5_put_n25 rfl rfl rfl (hC.2.2.1.m 7 rfl) w9 dS_X5_put ⟨Nat.le_of_ble_eq_true rfl, Nat.le_of_ble_eq_true rfl⟩, w11, trivial⟩ rfl rfl (Nat.le_of_ble_eq_true rfl) dX3_settle_43 ⟨Nat.le_of_ble_eq_true rfl, Nat.le_of_ble_eq_true rfl⟩ [1] [0, 2] [0, 2, 1] (fun (_ : Unit) => [(hs, .inr (3, [.ref hp, .ref hc])), (hc, .inl (cI, 20, .inl (upd g (5 + i) (nI 2)))), (hp, o2 r ti np nq nd)]) rfl rfl rfl (fun _ => rfl) (fun z43 hp43 => ?_)
      refine g_is (ws2 := [(hs, .inr (3, [.ref hp, .ref hc])), (hc, .inl (cI, 20, .inl (upd g (5 + i) (nI 2)))), (hp, o2 r ti np nq nd)]) (lv2 := [(0, .ref hs), (1, .int (nI z)), (2, .int (nI i))]) (st2 := []) rfl rfl rfl ?_
      refine g_iinc (v := nI (i + 1)) (lv' := [(0, .ref hs), (1, .int (nI z)), (2, .int (nI (i + 1)))]) hC 2 [1, 2, 0] dX3_settle_46 rfl (nI_add _ 1) (by decide) rfl ?_
      refine g_goto hC 2 dX3_settle_49 (by decide) ?_
      refine ih2 (i + 1) (upd g (5 + i) (nI 2)) ?_ ?_ ?_
      · omega
      · show _ = (if settleF z c i (5 + i) = nI 1 then upd (settleF z c i) (5 + i) (if hasB z i then nI 2 else nI 0) else settleF z c i)
        rw [← hg, if_pos h19f, if_pos h35f]
      · omega
  refine L2 _ 0 c ?_ ?_ (Nat.lt_succ_self _)
  · omega
  · rfl
end
