section
-- ===== PART A: goes FIRST, ahead of the names: the tables' words, and 'selects' of the private methods out of them =====
/-- a private method of a class that the tables say can be made, by its rows of tables_1 -/
def lw_okq (q : MethodName × Nat) : Prop := (q.1.cls ≠ "java/lang/invoke/MethodHandle" ∧ q.1.cls ≠ "java/lang/invoke/VarHandle") ∧ Cond.instantiable q.1.cls q.2 ∈ tables_1 ∧ Cond.privateMethod q.1 ∈ tables_1 ∧ Cond.instanceMethod q.1 ∈ tables_1
theorem lw_p0 : lw_okq (⟨"ForkedInvites", "userAt", "(I)LForkedInvites$User;"⟩, 5) := ⟨⟨by decide +kernel, by decide +kernel⟩, List.mem_of_getElem? (i := 13) (by decide +kernel), List.mem_of_getElem? (i := 297) (by decide +kernel), List.mem_of_getElem? (i := 298) (by decide +kernel)⟩
theorem lw_p1 : lw_okq (⟨"ForkedInvites$User", "removeAt", "(I)V"⟩, 9) := ⟨⟨by decide +kernel, by decide +kernel⟩, List.mem_of_getElem? (i := 65) (by decide +kernel), List.mem_of_getElem? (i := 334) (by decide +kernel), List.mem_of_getElem? (i := 335) (by decide +kernel)⟩
theorem lw_p2 : lw_okq (⟨"ForkedInvites$User", "boundOrFree", "(I)LForkedInvites$Binding;"⟩, 9) := ⟨⟨by decide +kernel, by decide +kernel⟩, List.mem_of_getElem? (i := 65) (by decide +kernel), List.mem_of_getElem? (i := 354) (by decide +kernel), List.mem_of_getElem? (i := 355) (by decide +kernel)⟩
theorem lw_p3 : lw_okq (⟨"ForkedInvites$User", "rankOf", "(I)I"⟩, 9) := ⟨⟨by decide +kernel, by decide +kernel⟩, List.mem_of_getElem? (i := 65) (by decide +kernel), List.mem_of_getElem? (i := 370) (by decide +kernel), List.mem_of_getElem? (i := 371) (by decide +kernel)⟩
theorem lw_p4 : lw_okq (⟨"ForkedInvites", "refusal", "(III)I"⟩, 5) := ⟨⟨by decide +kernel, by decide +kernel⟩, List.mem_of_getElem? (i := 13) (by decide +kernel), List.mem_of_getElem? (i := 401) (by decide +kernel), List.mem_of_getElem? (i := 402) (by decide +kernel)⟩
theorem lw_p5 : lw_okq (⟨"ForkedInvites", "open", "(LForkedInvites$Call;LForkedInvites$User;I)V"⟩, 5) := ⟨⟨by decide +kernel, by decide +kernel⟩, List.mem_of_getElem? (i := 13) (by decide +kernel), List.mem_of_getElem? (i := 405) (by decide +kernel), List.mem_of_getElem? (i := 406) (by decide +kernel)⟩
theorem lw_p6 : lw_okq (⟨"ForkedInvites$Server", "moveTo", "(I)V"⟩, 9) := ⟨⟨by decide +kernel, by decide +kernel⟩, List.mem_of_getElem? (i := 137) (by decide +kernel), List.mem_of_getElem? (i := 423) (by decide +kernel), List.mem_of_getElem? (i := 424) (by decide +kernel)⟩
theorem lw_p7 : lw_okq (⟨"ForkedInvites$Branch", "moveTo", "(I)V"⟩, 16) := ⟨⟨by decide +kernel, by decide +kernel⟩, List.mem_of_getElem? (i := 192) (by decide +kernel), List.mem_of_getElem? (i := 436) (by decide +kernel), List.mem_of_getElem? (i := 437) (by decide +kernel)⟩
theorem lw_p8 : lw_okq (⟨"ForkedInvites", "branchAt", "(II)LForkedInvites$Branch;"⟩, 5) := ⟨⟨by decide +kernel, by decide +kernel⟩, List.mem_of_getElem? (i := 13) (by decide +kernel), List.mem_of_getElem? (i := 463) (by decide +kernel), List.mem_of_getElem? (i := 464) (by decide +kernel)⟩
theorem lw_p9 : lw_okq (⟨"ForkedInvites", "callInUse", "(I)LForkedInvites$Call;"⟩, 5) := ⟨⟨by decide +kernel, by decide +kernel⟩, List.mem_of_getElem? (i := 13) (by decide +kernel), List.mem_of_getElem? (i := 467) (by decide +kernel), List.mem_of_getElem? (i := 468) (by decide +kernel)⟩
theorem lw_p10 : lw_okq (⟨"ForkedInvites$Call", "provisionalArrives", "(LForkedInvites$Branch;I)V"⟩, 5) := ⟨⟨by decide +kernel, by decide +kernel⟩, List.mem_of_getElem? (i := 129) (by decide +kernel), List.mem_of_getElem? (i := 475) (by decide +kernel), List.mem_of_getElem? (i := 476) (by decide +kernel)⟩
theorem lw_p11 : lw_okq (⟨"ForkedInvites$Call", "successArrives", "(LForkedInvites$Branch;I)V"⟩, 5) := ⟨⟨by decide +kernel, by decide +kernel⟩, List.mem_of_getElem? (i := 129) (by decide +kernel), List.mem_of_getElem? (i := 493) (by decide +kernel), List.mem_of_getElem? (i := 494) (by decide +kernel)⟩
theorem lw_p12 : lw_okq (⟨"ForkedInvites$Call", "countOutcome", "(LForkedInvites$Branch;)V"⟩, 5) := ⟨⟨by decide +kernel, by decide +kernel⟩, List.mem_of_getElem? (i := 129) (by decide +kernel), List.mem_of_getElem? (i := 501) (by decide +kernel), List.mem_of_getElem? (i := 502) (by decide +kernel)⟩
theorem lw_p13 : lw_okq (⟨"ForkedInvites$Call", "failureArrives", "(LForkedInvites$Branch;I)V"⟩, 5) := ⟨⟨by decide +kernel, by decide +kernel⟩, List.mem_of_getElem? (i := 129) (by decide +kernel), List.mem_of_getElem? (i := 517) (by decide +kernel), List.mem_of_getElem? (i := 518) (by decide +kernel)⟩
theorem lw_p14 : lw_okq (⟨"ForkedInvites$Call", "answerIfAllFailed", "()V"⟩, 5) := ⟨⟨by decide +kernel, by decide +kernel⟩, List.mem_of_getElem? (i := 129) (by decide +kernel), List.mem_of_getElem? (i := 530) (by decide +kernel), List.mem_of_getElem? (i := 531) (by decide +kernel)⟩
theorem lw_p15 : lw_okq (⟨"ForkedInvites$Call", "bestOutcome", "()I"⟩, 5) := ⟨⟨by decide +kernel, by decide +kernel⟩, List.mem_of_getElem? (i := 129) (by decide +kernel), List.mem_of_getElem? (i := 534) (by decide +kernel), List.mem_of_getElem? (i := 535) (by decide +kernel)⟩
def lw_privs_1 : List (MethodName × Nat) := [(⟨"ForkedInvites", "userAt", "(I)LForkedInvites$User;"⟩, 5), (⟨"ForkedInvites$User", "removeAt", "(I)V"⟩, 9), (⟨"ForkedInvites$User", "boundOrFree", "(I)LForkedInvites$Binding;"⟩, 9), (⟨"ForkedInvites$User", "rankOf", "(I)I"⟩, 9), (⟨"ForkedInvites", "refusal", "(III)I"⟩, 5), (⟨"ForkedInvites", "open", "(LForkedInvites$Call;LForkedInvites$User;I)V"⟩, 5), (⟨"ForkedInvites$Server", "moveTo", "(I)V"⟩, 9), (⟨"ForkedInvites$Branch", "moveTo", "(I)V"⟩, 16), (⟨"ForkedInvites", "branchAt", "(II)LForkedInvites$Branch;"⟩, 5), (⟨"ForkedInvites", "callInUse", "(I)LForkedInvites$Call;"⟩, 5), (⟨"ForkedInvites$Call", "provisionalArrives", "(LForkedInvites$Branch;I)V"⟩, 5), (⟨"ForkedInvites$Call", "successArrives", "(LForkedInvites$Branch;I)V"⟩, 5), (⟨"ForkedInvites$Call", "countOutcome", "(LForkedInvites$Branch;)V"⟩, 5), (⟨"ForkedInvites$Call", "failureArrives", "(LForkedInvites$Branch;I)V"⟩, 5), (⟨"ForkedInvites$Call", "answerIfAllFailed", "()V"⟩, 5), (⟨"ForkedInvites$Call", "bestOutcome", "()I"⟩, 5)]
theorem lw_r1 : ∀ q ∈ lw_privs_1, lw_okq q := List.forall_mem_cons.mpr ⟨lw_p0, List.forall_mem_cons.mpr ⟨lw_p1, List.forall_mem_cons.mpr ⟨lw_p2, List.forall_mem_cons.mpr ⟨lw_p3, List.forall_mem_cons.mpr ⟨lw_p4, List.forall_mem_cons.mpr ⟨lw_p5, List.forall_mem_cons.mpr ⟨lw_p6, List.forall_mem_cons.mpr ⟨lw_p7, List.forall_mem_cons.mpr ⟨lw_p8, List.forall_mem_cons.mpr ⟨lw_p9, List.forall_mem_cons.mpr ⟨lw_p10, List.forall_mem_cons.mpr ⟨lw_p11, List.forall_mem_cons.mpr ⟨lw_p12, List.forall_mem_cons.mpr ⟨lw_p13, List.forall_mem_cons.mpr ⟨lw_p14, List.forall_mem_cons.mpr ⟨lw_p15, fun _ h => absurd h List.not_mem_nil⟩⟩⟩⟩⟩⟩⟩⟩⟩⟩⟩⟩⟩⟩⟩⟩
theorem lw_p16 : lw_okq (⟨"ForkedInvites", "earliestDue", "()I"⟩, 5) := ⟨⟨by decide +kernel, by decide +kernel⟩, List.mem_of_getElem? (i := 13) (by decide +kernel), List.mem_of_getElem? (i := 570) (by decide +kernel), List.mem_of_getElem? (i := 571) (by decide +kernel)⟩
theorem lw_p17 : lw_okq (⟨"ForkedInvites", "runDueTimers", "()V"⟩, 5) := ⟨⟨by decide +kernel, by decide +kernel⟩, List.mem_of_getElem? (i := 13) (by decide +kernel), List.mem_of_getElem? (i := 590) (by decide +kernel), List.mem_of_getElem? (i := 591) (by decide +kernel)⟩
theorem lw_p18 : lw_okq (⟨"ForkedInvites$Branch", "timeOut", "()V"⟩, 16) := ⟨⟨by decide +kernel, by decide +kernel⟩, List.mem_of_getElem? (i := 192) (by decide +kernel), List.mem_of_getElem? (i := 621) (by decide +kernel), List.mem_of_getElem? (i := 622) (by decide +kernel)⟩
theorem lw_p19 : lw_okq (⟨"ForkedInvitesModel", "stale", "(III)Z"⟩, 31) := ⟨⟨by decide +kernel, by decide +kernel⟩, List.mem_of_getElem? (i := 660) (by decide +kernel), List.mem_of_getElem? (i := 787) (by decide +kernel), List.mem_of_getElem? (i := 788) (by decide +kernel)⟩
theorem lw_p20 : lw_okq (⟨"ForkedInvitesModel", "bound", "(II)Z"⟩, 31) := ⟨⟨by decide +kernel, by decide +kernel⟩, List.mem_of_getElem? (i := 660) (by decide +kernel), List.mem_of_getElem? (i := 791) (by decide +kernel), List.mem_of_getElem? (i := 792) (by decide +kernel)⟩
theorem lw_p21 : lw_okq (⟨"ForkedInvitesModel", "ranked", "(II)I"⟩, 31) := ⟨⟨by decide +kernel, by decide +kernel⟩, List.mem_of_getElem? (i := 660) (by decide +kernel), List.mem_of_getElem? (i := 804) (by decide +kernel), List.mem_of_getElem? (i := 805) (by decide +kernel)⟩
theorem lw_p22 : lw_okq (⟨"ForkedInvitesModel", "rank", "(II)I"⟩, 31) := ⟨⟨by decide +kernel, by decide +kernel⟩, List.mem_of_getElem? (i := 660) (by decide +kernel), List.mem_of_getElem? (i := 808) (by decide +kernel), List.mem_of_getElem? (i := 809) (by decide +kernel)⟩
theorem lw_p23 : lw_okq (⟨"ForkedInvitesModel", "inUse", "(I)Z"⟩, 31) := ⟨⟨by decide +kernel, by decide +kernel⟩, List.mem_of_getElem? (i := 660) (by decide +kernel), List.mem_of_getElem? (i := 816) (by decide +kernel), List.mem_of_getElem? (i := 817) (by decide +kernel)⟩
theorem lw_p24 : lw_okq (⟨"ForkedInvitesModel", "tell", "(II)V"⟩, 31) := ⟨⟨by decide +kernel, by decide +kernel⟩, List.mem_of_getElem? (i := 660) (by decide +kernel), List.mem_of_getElem? (i := 820) (by decide +kernel), List.mem_of_getElem? (i := 821) (by decide +kernel)⟩
theorem lw_p25 : lw_okq (⟨"ForkedInvitesModel", "send", "(III)V"⟩, 31) := ⟨⟨by decide +kernel, by decide +kernel⟩, List.mem_of_getElem? (i := 660) (by decide +kernel), List.mem_of_getElem? (i := 824) (by decide +kernel), List.mem_of_getElem? (i := 825) (by decide +kernel)⟩
theorem lw_p26 : lw_okq (⟨"ForkedInvitesModel", "answer", "(II)V"⟩, 31) := ⟨⟨by decide +kernel, by decide +kernel⟩, List.mem_of_getElem? (i := 660) (by decide +kernel), List.mem_of_getElem? (i := 835) (by decide +kernel), List.mem_of_getElem? (i := 836) (by decide +kernel)⟩
theorem lw_p27 : lw_okq (⟨"ForkedInvitesModel", "serve", "(II)V"⟩, 31) := ⟨⟨by decide +kernel, by decide +kernel⟩, List.mem_of_getElem? (i := 660) (by decide +kernel), List.mem_of_getElem? (i := 839) (by decide +kernel), List.mem_of_getElem? (i := 840) (by decide +kernel)⟩
theorem lw_p28 : lw_okq (⟨"ForkedInvitesModel", "begin", "(III)V"⟩, 31) := ⟨⟨by decide +kernel, by decide +kernel⟩, List.mem_of_getElem? (i := 660) (by decide +kernel), List.mem_of_getElem? (i := 843) (by decide +kernel), List.mem_of_getElem? (i := 844) (by decide +kernel)⟩
theorem lw_p29 : lw_okq (⟨"ForkedInvitesModel", "has", "(II)Z"⟩, 31) := ⟨⟨by decide +kernel, by decide +kernel⟩, List.mem_of_getElem? (i := 660) (by decide +kernel), List.mem_of_getElem? (i := 851) (by decide +kernel), List.mem_of_getElem? (i := 852) (by decide +kernel)⟩
theorem lw_p30 : lw_okq (⟨"ForkedInvitesModel", "arrive", "(III)V"⟩, 31) := ⟨⟨by decide +kernel, by decide +kernel⟩, List.mem_of_getElem? (i := 660) (by decide +kernel), List.mem_of_getElem? (i := 855) (by decide +kernel), List.mem_of_getElem? (i := 856) (by decide +kernel)⟩
theorem lw_p31 : lw_okq (⟨"ForkedInvitesModel", "going", "(I)Z"⟩, 31) := ⟨⟨by decide +kernel, by decide +kernel⟩, List.mem_of_getElem? (i := 660) (by decide +kernel), List.mem_of_getElem? (i := 859) (by decide +kernel), List.mem_of_getElem? (i := 860) (by decide +kernel)⟩
def lw_privs_2 : List (MethodName × Nat) := [(⟨"ForkedInvites", "earliestDue", "()I"⟩, 5), (⟨"ForkedInvites", "runDueTimers", "()V"⟩, 5), (⟨"ForkedInvites$Branch", "timeOut", "()V"⟩, 16), (⟨"ForkedInvitesModel", "stale", "(III)Z"⟩, 31), (⟨"ForkedInvitesModel", "bound", "(II)Z"⟩, 31), (⟨"ForkedInvitesModel", "ranked", "(II)I"⟩, 31), (⟨"ForkedInvitesModel", "rank", "(II)I"⟩, 31), (⟨"ForkedInvitesModel", "inUse", "(I)Z"⟩, 31), (⟨"ForkedInvitesModel", "tell", "(II)V"⟩, 31), (⟨"ForkedInvitesModel", "send", "(III)V"⟩, 31), (⟨"ForkedInvitesModel", "answer", "(II)V"⟩, 31), (⟨"ForkedInvitesModel", "serve", "(II)V"⟩, 31), (⟨"ForkedInvitesModel", "begin", "(III)V"⟩, 31), (⟨"ForkedInvitesModel", "has", "(II)Z"⟩, 31), (⟨"ForkedInvitesModel", "arrive", "(III)V"⟩, 31), (⟨"ForkedInvitesModel", "going", "(I)Z"⟩, 31)]
theorem lw_r2 : ∀ q ∈ lw_privs_2, lw_okq q := List.forall_mem_cons.mpr ⟨lw_p16, List.forall_mem_cons.mpr ⟨lw_p17, List.forall_mem_cons.mpr ⟨lw_p18, List.forall_mem_cons.mpr ⟨lw_p19, List.forall_mem_cons.mpr ⟨lw_p20, List.forall_mem_cons.mpr ⟨lw_p21, List.forall_mem_cons.mpr ⟨lw_p22, List.forall_mem_cons.mpr ⟨lw_p23, List.forall_mem_cons.mpr ⟨lw_p24, List.forall_mem_cons.mpr ⟨lw_p25, List.forall_mem_cons.mpr ⟨lw_p26, List.forall_mem_cons.mpr ⟨lw_p27, List.forall_mem_cons.mpr ⟨lw_p28, List.forall_mem_cons.mpr ⟨lw_p29, List.forall_mem_cons.mpr ⟨lw_p30, List.forall_mem_cons.mpr ⟨lw_p31, fun _ h => absurd h List.not_mem_nil⟩⟩⟩⟩⟩⟩⟩⟩⟩⟩⟩⟩⟩⟩⟩⟩
theorem lw_p32 : lw_okq (⟨"ForkedInvitesModel", "provisional", "(III)V"⟩, 31) := ⟨⟨by decide +kernel, by decide +kernel⟩, List.mem_of_getElem? (i := 660) (by decide +kernel), List.mem_of_getElem? (i := 863) (by decide +kernel), List.mem_of_getElem? (i := 864) (by decide +kernel)⟩
theorem lw_p33 : lw_okq (⟨"ForkedInvitesModel", "become", "(II)V"⟩, 31) := ⟨⟨by decide +kernel, by decide +kernel⟩, List.mem_of_getElem? (i := 660) (by decide +kernel), List.mem_of_getElem? (i := 867) (by decide +kernel), List.mem_of_getElem? (i := 868) (by decide +kernel)⟩
theorem lw_p34 : lw_okq (⟨"ForkedInvitesModel", "stop", "(II)V"⟩, 31) := ⟨⟨by decide +kernel, by decide +kernel⟩, List.mem_of_getElem? (i := 660) (by decide +kernel), List.mem_of_getElem? (i := 871) (by decide +kernel), List.mem_of_getElem? (i := 872) (by decide +kernel)⟩
theorem lw_p35 : lw_okq (⟨"ForkedInvitesModel", "gain", "(II)V"⟩, 31) := ⟨⟨by decide +kernel, by decide +kernel⟩, List.mem_of_getElem? (i := 660) (by decide +kernel), List.mem_of_getElem? (i := 875) (by decide +kernel), List.mem_of_getElem? (i := 876) (by decide +kernel)⟩
theorem lw_p36 : lw_okq (⟨"ForkedInvitesModel", "stopOthers", "(II)V"⟩, 31) := ⟨⟨by decide +kernel, by decide +kernel⟩, List.mem_of_getElem? (i := 660) (by decide +kernel), List.mem_of_getElem? (i := 879) (by decide +kernel), List.mem_of_getElem? (i := 880) (by decide +kernel)⟩
theorem lw_p37 : lw_okq (⟨"ForkedInvitesModel", "judge", "(I)V"⟩, 31) := ⟨⟨by decide +kernel, by decide +kernel⟩, List.mem_of_getElem? (i := 660) (by decide +kernel), List.mem_of_getElem? (i := 883) (by decide +kernel), List.mem_of_getElem? (i := 884) (by decide +kernel)⟩
theorem lw_p38 : lw_okq (⟨"ForkedInvitesModel", "serverDue", "(I)V"⟩, 31) := ⟨⟨by decide +kernel, by decide +kernel⟩, List.mem_of_getElem? (i := 660) (by decide +kernel), List.mem_of_getElem? (i := 906) (by decide +kernel), List.mem_of_getElem? (i := 907) (by decide +kernel)⟩
theorem lw_p39 : lw_okq (⟨"ForkedInvitesModel", "twice", "(I)I"⟩, 31) := ⟨⟨by decide +kernel, by decide +kernel⟩, List.mem_of_getElem? (i := 660) (by decide +kernel), List.mem_of_getElem? (i := 910) (by decide +kernel), List.mem_of_getElem? (i := 911) (by decide +kernel)⟩
theorem lw_p40 : lw_okq (⟨"ForkedInvitesModel", "branchDue", "(II)V"⟩, 31) := ⟨⟨by decide +kernel, by decide +kernel⟩, List.mem_of_getElem? (i := 660) (by decide +kernel), List.mem_of_getElem? (i := 914) (by decide +kernel), List.mem_of_getElem? (i := 915) (by decide +kernel)⟩
theorem lw_p41 : lw_okq (⟨"ForkedInvitesModel", "timeout", "(II)V"⟩, 31) := ⟨⟨by decide +kernel, by decide +kernel⟩, List.mem_of_getElem? (i := 660) (by decide +kernel), List.mem_of_getElem? (i := 918) (by decide +kernel), List.mem_of_getElem? (i := 919) (by decide +kernel)⟩
def lw_privs_3 : List (MethodName × Nat) := [(⟨"ForkedInvitesModel", "provisional", "(III)V"⟩, 31), (⟨"ForkedInvitesModel", "become", "(II)V"⟩, 31), (⟨"ForkedInvitesModel", "stop", "(II)V"⟩, 31), (⟨"ForkedInvitesModel", "gain", "(II)V"⟩, 31), (⟨"ForkedInvitesModel", "stopOthers", "(II)V"⟩, 31), (⟨"ForkedInvitesModel", "judge", "(I)V"⟩, 31), (⟨"ForkedInvitesModel", "serverDue", "(I)V"⟩, 31), (⟨"ForkedInvitesModel", "twice", "(I)I"⟩, 31), (⟨"ForkedInvitesModel", "branchDue", "(II)V"⟩, 31), (⟨"ForkedInvitesModel", "timeout", "(II)V"⟩, 31)]
theorem lw_r3 : ∀ q ∈ lw_privs_3, lw_okq q := List.forall_mem_cons.mpr ⟨lw_p32, List.forall_mem_cons.mpr ⟨lw_p33, List.forall_mem_cons.mpr ⟨lw_p34, List.forall_mem_cons.mpr ⟨lw_p35, List.forall_mem_cons.mpr ⟨lw_p36, List.forall_mem_cons.mpr ⟨lw_p37, List.forall_mem_cons.mpr ⟨lw_p38, List.forall_mem_cons.mpr ⟨lw_p39, List.forall_mem_cons.mpr ⟨lw_p40, List.forall_mem_cons.mpr ⟨lw_p41, fun _ h => absurd h List.not_mem_nil⟩⟩⟩⟩⟩⟩⟩⟩⟩⟩
def lw_privs : List (MethodName × Nat) := lw_privs_1 ++ (lw_privs_2 ++ (lw_privs_3))
def lw_tbl : List Cond := k2_sels lw_privs ++ tables_1
theorem lw_privs_ok : ∀ q ∈ lw_privs, lw_okq q := by
  show ∀ q ∈ lw_privs_1 ++ (lw_privs_2 ++ (lw_privs_3)), lw_okq q
  exact List.forall_mem_append.mpr ⟨lw_r1, List.forall_mem_append.mpr ⟨lw_r2, lw_r3⟩⟩
end
section
def TC0 : u_T := fun k => match k with
  | 0 => ("ForkedInvites", "clock", "LForkedInvites$Clock;", true)
  | 1 => ("ForkedInvites", "log", "LForkedInvites$MessageLog;", true)
  | 2 => ("ForkedInvites", "users", "[LForkedInvites$User;", true)
  | 3 => ("ForkedInvites", "calls", "[LForkedInvites$Call;", true)
  | _ => ("ForkedInvites", "nonceState", "I", false)
def TC1 : u_T := fun k => match k with
  | 0 => ("ForkedInvites$Binding", "contact", "I", false)
  | 1 => ("ForkedInvites$Binding", "weight", "I", false)
  | 2 => ("ForkedInvites$Binding", "endsAt", "I", false)
  | 3 => ("ForkedInvites$Binding", "callName", "I", false)
  | _ => ("ForkedInvites$Binding", "callNumber", "I", false)
def TC2 : u_T := fun k => match k with
  | 0 => ("ForkedInvites$Branch", "clock", "LForkedInvites$Clock;", true)
  | 1 => ("ForkedInvites$Branch", "log", "LForkedInvites$MessageLog;", true)
  | 2 => ("ForkedInvites$Branch", "call", "I", true)
  | 3 => ("ForkedInvites$Branch", "number", "I", true)
  | 4 => ("ForkedInvites$Branch", "timerA", "LForkedInvites$Timer;", true)
  | 5 => ("ForkedInvites$Branch", "timerB", "LForkedInvites$Timer;", true)
  | 6 => ("ForkedInvites$Branch", "timerC", "LForkedInvites$Timer;", true)
  | 7 => ("ForkedInvites$Branch", "timerD", "LForkedInvites$Timer;", true)
  | 8 => ("ForkedInvites$Branch", "timerE", "LForkedInvites$Timer;", true)
  | 9 => ("ForkedInvites$Branch", "timerF", "LForkedInvites$Timer;", true)
  | 10 => ("ForkedInvites$Branch", "contact", "I", false)
  | 11 => ("ForkedInvites$Branch", "state", "I", false)
  | 12 => ("ForkedInvites$Branch", "wantedToEnd", "Z", false)
  | 13 => ("ForkedInvites$Branch", "cancelSent", "Z", false)
  | 14 => ("ForkedInvites$Branch", "outcome", "I", false)
  | _ => ("ForkedInvites$Branch", "outcomeOrder", "I", false)
def TC3 : u_T := fun k => match k with
  | 0 => ("ForkedInvites$Call", "number", "I", true)
  | 1 => ("ForkedInvites$Call", "server", "LForkedInvites$Server;", true)
  | 2 => ("ForkedInvites$Call", "branches", "[LForkedInvites$Branch;", true)
  | 3 => ("ForkedInvites$Call", "branchCount", "I", false)
  | _ => ("ForkedInvites$Call", "outcomeCount", "I", false)
def TC4 : u_T := fun k => match k with
  | 0 => ("ForkedInvites$Clock", "t1", "I", true)
  | _ => ("ForkedInvites$Clock", "now", "I", false)
def TC5 : u_T := fun k => match k with
  | 0 => ("ForkedInvites$MessageLog", "clock", "LForkedInvites$Clock;", true)
  | 1 => ("ForkedInvites$MessageLog", "kept", "[J", true)
  | _ => ("ForkedInvites$MessageLog", "count", "I", false)
def TC6 : u_T := fun k => match k with
  | 0 => ("ForkedInvites$Server", "clock", "LForkedInvites$Clock;", true)
  | 1 => ("ForkedInvites$Server", "log", "LForkedInvites$MessageLog;", true)
  | 2 => ("ForkedInvites$Server", "call", "I", true)
  | 3 => ("ForkedInvites$Server", "timerG", "LForkedInvites$Timer;", true)
  | 4 => ("ForkedInvites$Server", "timerH", "LForkedInvites$Timer;", true)
  | 5 => ("ForkedInvites$Server", "timerI", "LForkedInvites$Timer;", true)
  | 6 => ("ForkedInvites$Server", "timerL", "LForkedInvites$Timer;", true)
  | 7 => ("ForkedInvites$Server", "state", "I", false)
  | _ => ("ForkedInvites$Server", "latestCode", "I", false)
def TC7 : u_T := fun k => match k with
  | 0 => ("ForkedInvites$Timer", "clock", "LForkedInvites$Clock;", true)
  | 1 => ("ForkedInvites$Timer", "span", "I", false)
  | _ => ("ForkedInvites$Timer", "dueAt", "I", false)
def TC8 : u_T := fun k => match k with
  | 0 => ("ForkedInvites$User", "clock", "LForkedInvites$Clock;", true)
  | 1 => ("ForkedInvites$User", "secret", "I", false)
  | 2 => ("ForkedInvites$User", "admitted", "Z", false)
  | 3 => ("ForkedInvites$User", "hasNonce", "Z", false)
  | 4 => ("ForkedInvites$User", "nonce", "I", false)
  | 5 => ("ForkedInvites$User", "nonceMadeAt", "I", false)
  | 6 => ("ForkedInvites$User", "highestCount", "I", false)
  | 7 => ("ForkedInvites$User", "added", "[LForkedInvites$Binding;", true)
  | _ => ("ForkedInvites$User", "bindingCount", "I", false)
def TC9 : u_T := fun k => match k with
  | 0 => ("ForkedInvitesModel", "t1", "I", true)
  | 1 => ("ForkedInvitesModel", "time", "I", false)
  | 2 => ("ForkedInvitesModel", "nonceSeed", "I", false)
  | 3 => ("ForkedInvitesModel", "secret", "[I", true)
  | 4 => ("ForkedInvitesModel", "admitted", "[Z", true)
  | 5 => ("ForkedInvitesModel", "hasNonce", "[Z", true)
  | 6 => ("ForkedInvitesModel", "nonce", "[I", true)
  | 7 => ("ForkedInvitesModel", "madeAt", "[I", true)
  | 8 => ("ForkedInvitesModel", "used", "[I", true)
  | 9 => ("ForkedInvitesModel", "end", "[I", true)
  | 10 => ("ForkedInvitesModel", "heavy", "[I", true)
  | 11 => ("ForkedInvitesModel", "first", "[I", true)
  | 12 => ("ForkedInvitesModel", "mark", "[I", true)
  | 13 => ("ForkedInvitesModel", "added", "I", false)
  | 14 => ("ForkedInvitesModel", "server", "[I", true)
  | 15 => ("ForkedInvitesModel", "shown", "[I", true)
  | 16 => ("ForkedInvitesModel", "serverTimer", "[I", true)
  | 17 => ("ForkedInvitesModel", "setG", "[I", true)
  | 18 => ("ForkedInvitesModel", "many", "[I", true)
  | 19 => ("ForkedInvitesModel", "state", "[I", true)
  | 20 => ("ForkedInvitesModel", "contact", "[I", true)
  | 21 => ("ForkedInvitesModel", "wanted", "[Z", true)
  | 22 => ("ForkedInvitesModel", "cancelSent", "[Z", true)
  | 23 => ("ForkedInvitesModel", "result", "[I", true)
  | 24 => ("ForkedInvitesModel", "came", "[I", true)
  | 25 => ("ForkedInvitesModel", "timer", "[I", true)
  | 26 => ("ForkedInvitesModel", "setA", "[I", true)
  | 27 => ("ForkedInvitesModel", "setE", "[I", true)
  | 28 => ("ForkedInvitesModel", "results", "I", false)
  | 29 => ("ForkedInvitesModel", "log", "[J", true)
  | _ => ("ForkedInvitesModel", "count", "I", false)
def vwCl : List vw_C := [("ForkedInvites", TC0, 5), ("ForkedInvites$Binding", TC1, 5), ("ForkedInvites$Branch", TC2, 16), ("ForkedInvites$Call", TC3, 5), ("ForkedInvites$Clock", TC4, 2), ("ForkedInvites$MessageLog", TC5, 3), ("ForkedInvites$Server", TC6, 9), ("ForkedInvites$Timer", TC7, 3), ("ForkedInvites$User", TC8, 9), ("ForkedInvitesModel", TC9, 31)]
def ix_cl (t : Nat) : vw_C := vwCl.getD t ("", TC0, 0)
def ix_nf (t : Nat) : Nat := [5, 5, 16, 5, 2, 3, 9, 3, 9, 31].getD t 0
def ix_fks : List (List Nat) := [[1, 1, 1, 1, 0], [0, 0, 0, 0, 0], [1, 1, 0, 0, 1, 1, 1, 1, 1, 1, 0, 0, 3, 3, 0, 0], [0, 1, 1, 0, 0], [0, 0], [1, 1, 0], [1, 1, 0, 1, 1, 1, 1, 0, 0], [1, 0, 0], [1, 0, 3, 3, 0, 0, 0, 1, 0], [0, 0, 0, 1, 1, 1, 1, 1, 1, 1, 1, 1, 1, 0, 1, 1, 1, 1, 1, 1, 1, 1, 1, 1, 1, 1, 1, 1, 0, 1, 0]]
def ix_fk (t j : Nat) : Nat := (ix_fks.getD t []).getD j 0
def ix_fis : List (List Bool) := [[true, true, true, true, false], [false, false, false, false, false], [true, true, true, true, true, true, true, true, true, true, false, false, false, false, false, false], [true, true, true, false, false], [true, false], [true, true, false], [true, true, true, true, true, true, true, false, false], [true, false, false], [true, false, false, false, false, false, false, true, false], [true, false, false, true, true, true, true, true, true, true, true, true, true, false, true, true, true, true, true, true, true, true, true, true, true, true, true, true, false, true, false]]
def ix_fin (t j : Nat) : Bool := (ix_fis.getD t []).getD j false
def ix_tts : List (List FieldType) := [[(.object "ForkedInvites$Clock"), (.object "ForkedInvites$MessageLog"), (.array (.object "ForkedInvites$User")), (.array (.object "ForkedInvites$Call")), .int], [.int, .int, .int, .int, .int], [(.object "ForkedInvites$Clock"), (.object "ForkedInvites$MessageLog"), .int, .int, (.object "ForkedInvites$Timer"), (.object "ForkedInvites$Timer"), (.object "ForkedInvites$Timer"), (.object "ForkedInvites$Timer"), (.object "ForkedInvites$Timer"), (.object "ForkedInvites$Timer"), .int, .int, .boolean, .boolean, .int, .int], [.int, (.object "ForkedInvites$Server"), (.array (.object "ForkedInvites$Branch")), .int, .int], [.int, .int], [(.object "ForkedInvites$Clock"), (.array .long), .int], [(.object "ForkedInvites$Clock"), (.object "ForkedInvites$MessageLog"), .int, (.object "ForkedInvites$Timer"), (.object "ForkedInvites$Timer"), (.object "ForkedInvites$Timer"), (.object "ForkedInvites$Timer"), .int, .int], [(.object "ForkedInvites$Clock"), .int, .int], [(.object "ForkedInvites$Clock"), .int, .boolean, .boolean, .int, .int, .int, (.array (.object "ForkedInvites$Binding")), .int], [.int, .int, .int, (.array .int), (.array .boolean), (.array .boolean), (.array .int), (.array .int), (.array .int), (.array .int), (.array .int), (.array .int), (.array .int), .int, (.array .int), (.array .int), (.array .int), (.array .int), (.array .int), (.array .int), (.array .int), (.array .boolean), (.array .boolean), (.array .int), (.array .int), (.array .int), (.array .int), (.array .int), .int, (.array .long), .int]]
def ix_tt (t j : Nat) : FieldType := (ix_tts.getD t []).getD j .int
def ix_tz : Nat := 107
def ix_aty : List FieldType := [.int, .boolean, .long, .object "ForkedInvites$User", .object "ForkedInvites$Call", .object "ForkedInvites$Binding", .object "ForkedInvites$Branch"]
def ix_co (t : Nat) : Nat := [8, 3, 1, 2].getD (t - 103) 0
def ix_AO : List String := ["ForkedInvites$User", "ForkedInvites$Call", "ForkedInvites$Binding", "ForkedInvites$Branch"]
def ix_ocl (o : Nat) : String := ["ForkedInvites", "ForkedInvites$Binding", "ForkedInvites$Branch", "ForkedInvites$Call", "ForkedInvites$Clock", "ForkedInvites$MessageLog", "ForkedInvites$Server", "ForkedInvites$Timer", "ForkedInvites$User", "ForkedInvitesModel", "ForkedInvitesLaw"].getD o ""
def y_0 : MethodName := ⟨"ForkedInvites", "<init>", "(II)V"⟩
def y_1 : MethodName := ⟨"ForkedInvites", "password", "(II)Z"⟩
def y_2 : MethodName := ⟨"ForkedInvites", "challenge", "(I)I"⟩
def y_3 : MethodName := ⟨"ForkedInvites", "login", "(III)Z"⟩
def y_4 : MethodName := ⟨"ForkedInvites", "register", "(IIIII)I"⟩
def y_5 : MethodName := ⟨"ForkedInvites", "bindings", "(I)I"⟩
def y_6 : MethodName := ⟨"ForkedInvites", "binding", "(II)I"⟩
def y_7 : MethodName := ⟨"ForkedInvites", "invite", "(IIII)I"⟩
def y_8 : MethodName := ⟨"ForkedInvites", "reply", "(III)I"⟩
def y_9 : MethodName := ⟨"ForkedInvites", "cancelled", "(II)Z"⟩
def y_10 : MethodName := ⟨"ForkedInvites", "cancel", "(I)I"⟩
def y_11 : MethodName := ⟨"ForkedInvites", "ack", "(I)Z"⟩
def y_12 : MethodName := ⟨"ForkedInvites", "tick", "(I)I"⟩
def y_13 : MethodName := ⟨"ForkedInvites", "now", "()I"⟩
def y_14 : MethodName := ⟨"ForkedInvites", "server", "(I)I"⟩
def y_15 : MethodName := ⟨"ForkedInvites", "branch", "(II)I"⟩
def y_16 : MethodName := ⟨"ForkedInvites", "result", "(II)I"⟩
def y_17 : MethodName := ⟨"ForkedInvites", "live", "()I"⟩
def y_18 : MethodName := ⟨"ForkedInvites", "sent", "()I"⟩
def y_19 : MethodName := ⟨"ForkedInvites", "message", "(I)J"⟩
def y_20 : MethodName := ⟨"ForkedInvites", "userAt", "(I)LForkedInvites$User;"⟩
def y_21 : MethodName := ⟨"ForkedInvites", "callInUse", "(I)LForkedInvites$Call;"⟩
def y_22 : MethodName := ⟨"ForkedInvites", "branchAt", "(II)LForkedInvites$Branch;"⟩
def y_23 : MethodName := ⟨"ForkedInvites", "isRegistration", "(III)Z"⟩
def y_24 : MethodName := ⟨"ForkedInvites", "refusal", "(III)I"⟩
def y_25 : MethodName := ⟨"ForkedInvites", "open", "(LForkedInvites$Call;LForkedInvites$User;I)V"⟩
def y_26 : MethodName := ⟨"ForkedInvites", "earliestDue", "()I"⟩
def y_27 : MethodName := ⟨"ForkedInvites", "runDueTimers", "()V"⟩
def y_28 : MethodName := ⟨"ForkedInvites$Binding", "<init>", "()V"⟩
def y_29 : MethodName := ⟨"ForkedInvites$Branch", "<init>", "(LForkedInvites$Clock;LForkedInvites$MessageLog;II)V"⟩
def y_30 : MethodName := ⟨"ForkedInvites$Branch", "begin", "(I)V"⟩
def y_31 : MethodName := ⟨"ForkedInvites$Branch", "isOpen", "()Z"⟩
def y_32 : MethodName := ⟨"ForkedInvites$Branch", "proceed", "()V"⟩
def y_33 : MethodName := ⟨"ForkedInvites$Branch", "waitAnew", "()V"⟩
def y_34 : MethodName := ⟨"ForkedInvites$Branch", "wantEnd", "()V"⟩
def y_35 : MethodName := ⟨"ForkedInvites$Branch", "succeed", "(I)V"⟩
def y_36 : MethodName := ⟨"ForkedInvites$Branch", "fail", "(I)V"⟩
def y_37 : MethodName := ⟨"ForkedInvites$Branch", "acknowledge", "()V"⟩
def y_38 : MethodName := ⟨"ForkedInvites$Branch", "timeOut", "()V"⟩
def y_39 : MethodName := ⟨"ForkedInvites$Branch", "moveTo", "(I)V"⟩
def y_40 : MethodName := ⟨"ForkedInvites$Branch", "runTimers", "()Z"⟩
def y_41 : MethodName := ⟨"ForkedInvites$Branch", "earliestDue", "()I"⟩
def y_42 : MethodName := ⟨"ForkedInvites$Call", "<init>", "(LForkedInvites$Clock;LForkedInvites$MessageLog;I)V"⟩
def y_43 : MethodName := ⟨"ForkedInvites$Call", "isInUse", "()Z"⟩
def y_44 : MethodName := ⟨"ForkedInvites$Call", "liveCount", "()I"⟩
def y_45 : MethodName := ⟨"ForkedInvites$Call", "refuse", "(I)V"⟩
def y_46 : MethodName := ⟨"ForkedInvites$Call", "fork", "(LForkedInvites$User;)V"⟩
def y_47 : MethodName := ⟨"ForkedInvites$Call", "cancelOpenBranches", "()V"⟩
def y_48 : MethodName := ⟨"ForkedInvites$Call", "codeArrives", "(LForkedInvites$Branch;I)V"⟩
def y_49 : MethodName := ⟨"ForkedInvites$Call", "provisionalArrives", "(LForkedInvites$Branch;I)V"⟩
def y_50 : MethodName := ⟨"ForkedInvites$Call", "successArrives", "(LForkedInvites$Branch;I)V"⟩
def y_51 : MethodName := ⟨"ForkedInvites$Call", "failureArrives", "(LForkedInvites$Branch;I)V"⟩
def y_52 : MethodName := ⟨"ForkedInvites$Call", "countOutcome", "(LForkedInvites$Branch;)V"⟩
def y_53 : MethodName := ⟨"ForkedInvites$Call", "answerIfAllFailed", "()V"⟩
def y_54 : MethodName := ⟨"ForkedInvites$Call", "bestOutcome", "()I"⟩
def y_55 : MethodName := ⟨"ForkedInvites$Call", "isBetter", "(LForkedInvites$Branch;LForkedInvites$Branch;)Z"⟩
def y_56 : MethodName := ⟨"ForkedInvites$Call", "gradeOf", "(I)I"⟩
def y_57 : MethodName := ⟨"ForkedInvites$Call", "runTimers", "()V"⟩
def y_58 : MethodName := ⟨"ForkedInvites$Call", "earliestDue", "()I"⟩
def y_59 : MethodName := ⟨"ForkedInvites$Clock", "<init>", "(I)V"⟩
def y_60 : MethodName := ⟨"ForkedInvites$MessageLog", "<init>", "(LForkedInvites$Clock;)V"⟩
def y_61 : MethodName := ⟨"ForkedInvites$MessageLog", "add", "(III)V"⟩
def y_62 : MethodName := ⟨"ForkedInvites$MessageLog", "latest", "(I)J"⟩
def y_63 : MethodName := ⟨"ForkedInvites$Server", "<init>", "(LForkedInvites$Clock;LForkedInvites$MessageLog;I)V"⟩
def y_64 : MethodName := ⟨"ForkedInvites$Server", "proceed", "()V"⟩
def y_65 : MethodName := ⟨"ForkedInvites$Server", "tell", "(I)V"⟩
def y_66 : MethodName := ⟨"ForkedInvites$Server", "tellSuccess", "(I)V"⟩
def y_67 : MethodName := ⟨"ForkedInvites$Server", "tellLatestAgain", "()V"⟩
def y_68 : MethodName := ⟨"ForkedInvites$Server", "answerSuccess", "()V"⟩
def y_69 : MethodName := ⟨"ForkedInvites$Server", "answerFailure", "(I)V"⟩
def y_70 : MethodName := ⟨"ForkedInvites$Server", "confirm", "()V"⟩
def y_71 : MethodName := ⟨"ForkedInvites$Server", "moveTo", "(I)V"⟩
def y_72 : MethodName := ⟨"ForkedInvites$Server", "runTimers", "()V"⟩
def y_73 : MethodName := ⟨"ForkedInvites$Server", "earliestDue", "()I"⟩
def y_74 : MethodName := ⟨"ForkedInvites$Timer", "<init>", "(LForkedInvites$Clock;)V"⟩
def y_75 : MethodName := ⟨"ForkedInvites$Timer", "set", "(I)V"⟩
def y_76 : MethodName := ⟨"ForkedInvites$Timer", "setToTwice", "()V"⟩
def y_77 : MethodName := ⟨"ForkedInvites$Timer", "setToTwiceButAtMost", "(I)V"⟩
def y_78 : MethodName := ⟨"ForkedInvites$Timer", "stop", "()V"⟩
def y_79 : MethodName := ⟨"ForkedInvites$Timer", "isOn", "()Z"⟩
def y_80 : MethodName := ⟨"ForkedInvites$Timer", "isDue", "()Z"⟩
def y_81 : MethodName := ⟨"ForkedInvites$User", "<init>", "(LForkedInvites$Clock;)V"⟩
def y_82 : MethodName := ⟨"ForkedInvites$User", "takeNonce", "(I)V"⟩
def y_83 : MethodName := ⟨"ForkedInvites$User", "admit", "(II)Z"⟩
def y_84 : MethodName := ⟨"ForkedInvites$User", "digest", "(III)I"⟩
def y_85 : MethodName := ⟨"ForkedInvites$User", "dropEnded", "()V"⟩
def y_86 : MethodName := ⟨"ForkedInvites$User", "isOutdated", "(II)Z"⟩
def y_87 : MethodName := ⟨"ForkedInvites$User", "removeAll", "()V"⟩
def y_88 : MethodName := ⟨"ForkedInvites$User", "removeTo", "(I)V"⟩
def y_89 : MethodName := ⟨"ForkedInvites$User", "removeAt", "(I)V"⟩
def y_90 : MethodName := ⟨"ForkedInvites$User", "bind", "(IIII)Z"⟩
def y_91 : MethodName := ⟨"ForkedInvites$User", "boundOrFree", "(I)LForkedInvites$Binding;"⟩
def y_92 : MethodName := ⟨"ForkedInvites$User", "ranked", "(I)LForkedInvites$Binding;"⟩
def y_93 : MethodName := ⟨"ForkedInvites$User", "rankOf", "(I)I"⟩
def y_94 : MethodName := ⟨"ForkedInvitesModel", "<init>", "(II)V"⟩
def y_95 : MethodName := ⟨"ForkedInvitesModel", "within", "(III)Z"⟩
def y_96 : MethodName := ⟨"ForkedInvitesModel", "password", "(II)Z"⟩
def y_97 : MethodName := ⟨"ForkedInvitesModel", "challenge", "(I)I"⟩
def y_98 : MethodName := ⟨"ForkedInvitesModel", "digest", "(III)I"⟩
def y_99 : MethodName := ⟨"ForkedInvitesModel", "login", "(III)Z"⟩
def y_100 : MethodName := ⟨"ForkedInvitesModel", "bound", "(II)Z"⟩
def y_101 : MethodName := ⟨"ForkedInvitesModel", "stale", "(III)Z"⟩
def y_102 : MethodName := ⟨"ForkedInvitesModel", "register", "(IIIII)I"⟩
def y_103 : MethodName := ⟨"ForkedInvitesModel", "bindings", "(I)I"⟩
def y_104 : MethodName := ⟨"ForkedInvitesModel", "rank", "(II)I"⟩
def y_105 : MethodName := ⟨"ForkedInvitesModel", "ranked", "(II)I"⟩
def y_106 : MethodName := ⟨"ForkedInvitesModel", "binding", "(II)I"⟩
def y_107 : MethodName := ⟨"ForkedInvitesModel", "send", "(III)V"⟩
def y_108 : MethodName := ⟨"ForkedInvitesModel", "tell", "(II)V"⟩
def y_109 : MethodName := ⟨"ForkedInvitesModel", "inUse", "(I)Z"⟩
def y_110 : MethodName := ⟨"ForkedInvitesModel", "has", "(II)Z"⟩
def y_111 : MethodName := ⟨"ForkedInvitesModel", "serve", "(II)V"⟩
def y_112 : MethodName := ⟨"ForkedInvitesModel", "answer", "(II)V"⟩
def y_113 : MethodName := ⟨"ForkedInvitesModel", "begin", "(III)V"⟩
def y_114 : MethodName := ⟨"ForkedInvitesModel", "become", "(II)V"⟩
def y_115 : MethodName := ⟨"ForkedInvitesModel", "going", "(I)Z"⟩
def y_116 : MethodName := ⟨"ForkedInvitesModel", "stop", "(II)V"⟩
def y_117 : MethodName := ⟨"ForkedInvitesModel", "stopOthers", "(II)V"⟩
def y_118 : MethodName := ⟨"ForkedInvitesModel", "gain", "(II)V"⟩
def y_119 : MethodName := ⟨"ForkedInvitesModel", "grade", "(II)I"⟩
def y_120 : MethodName := ⟨"ForkedInvitesModel", "judge", "(I)V"⟩
def y_121 : MethodName := ⟨"ForkedInvitesModel", "timeout", "(II)V"⟩
def y_122 : MethodName := ⟨"ForkedInvitesModel", "arrive", "(III)V"⟩
def y_123 : MethodName := ⟨"ForkedInvitesModel", "provisional", "(III)V"⟩
def y_124 : MethodName := ⟨"ForkedInvitesModel", "invite", "(IIII)I"⟩
def y_125 : MethodName := ⟨"ForkedInvitesModel", "reply", "(III)I"⟩
def y_126 : MethodName := ⟨"ForkedInvitesModel", "cancelled", "(II)Z"⟩
def y_127 : MethodName := ⟨"ForkedInvitesModel", "cancel", "(I)I"⟩
def y_128 : MethodName := ⟨"ForkedInvitesModel", "ack", "(I)Z"⟩
def y_129 : MethodName := ⟨"ForkedInvitesModel", "twice", "(I)I"⟩
def y_130 : MethodName := ⟨"ForkedInvitesModel", "serverDue", "(I)V"⟩
def y_131 : MethodName := ⟨"ForkedInvitesModel", "branchDue", "(II)V"⟩
def y_132 : MethodName := ⟨"ForkedInvitesModel", "tick", "(I)I"⟩
def y_133 : MethodName := ⟨"ForkedInvitesModel", "now", "()I"⟩
def y_134 : MethodName := ⟨"ForkedInvitesModel", "server", "(I)I"⟩
def y_135 : MethodName := ⟨"ForkedInvitesModel", "branch", "(II)I"⟩
def y_136 : MethodName := ⟨"ForkedInvitesModel", "result", "(II)I"⟩
def y_137 : MethodName := ⟨"ForkedInvitesModel", "live", "()I"⟩
def y_138 : MethodName := ⟨"ForkedInvitesModel", "sent", "()I"⟩
def y_139 : MethodName := ⟨"ForkedInvitesModel", "message", "(I)J"⟩
def y_140 : MethodName := ⟨"ForkedInvitesLaw", "cell", "([II)I"⟩
def y_141 : MethodName := ⟨"ForkedInvitesLaw", "law", "([I)Z"⟩
def ix_ms : List (MethodName × ByteArray × Nat × Option FieldType) := [(y_0, prog_1_method_1_code, 4, (Option.none : Option Jvm.ClassFile.FieldType)), (y_1, prog_1_method_2_code, 4, (Option.some Jvm.ClassFile.FieldType.boolean)), (y_2, prog_1_method_3_code, 3, (Option.some Jvm.ClassFile.FieldType.int)), (y_3, prog_1_method_4_code, 5, (Option.some Jvm.ClassFile.FieldType.boolean)), (y_4, prog_1_method_5_code, 7, (Option.some Jvm.ClassFile.FieldType.int)), (y_5, prog_1_method_6_code, 3, (Option.some Jvm.ClassFile.FieldType.int)), (y_6, prog_1_method_7_code, 5, (Option.some Jvm.ClassFile.FieldType.int)), (y_7, prog_1_method_8_code, 7, (Option.some Jvm.ClassFile.FieldType.int)), (y_8, prog_1_method_9_code, 6, (Option.some Jvm.ClassFile.FieldType.int)), (y_9, prog_1_method_10_code, 4, (Option.some Jvm.ClassFile.FieldType.boolean)), (y_10, prog_1_method_11_code, 4, (Option.some Jvm.ClassFile.FieldType.int)), (y_11, prog_1_method_12_code, 3, (Option.some Jvm.ClassFile.FieldType.boolean)), (y_12, prog_1_method_13_code, 5, (Option.some Jvm.ClassFile.FieldType.int)), (y_13, prog_1_method_14_code, 1, (Option.some Jvm.ClassFile.FieldType.int)), (y_14, prog_1_method_15_code, 3, (Option.some Jvm.ClassFile.FieldType.int)), (y_15, prog_1_method_16_code, 4, (Option.some Jvm.ClassFile.FieldType.int)), (y_16, prog_1_method_17_code, 4, (Option.some Jvm.ClassFile.FieldType.int)), (y_17, prog_1_method_18_code, 3, (Option.some Jvm.ClassFile.FieldType.int)), (y_18, prog_1_method_19_code, 1, (Option.some Jvm.ClassFile.FieldType.int)), (y_19, prog_1_method_20_code, 2, (Option.some Jvm.ClassFile.FieldType.long)), (y_20, prog_1_method_21_code, 2, (Option.some (Jvm.ClassFile.FieldType.object "ForkedInvites$User"))), (y_21, prog_1_method_22_code, 2, (Option.some (Jvm.ClassFile.FieldType.object "ForkedInvites$Call"))), (y_22, prog_1_method_23_code, 4, (Option.some (Jvm.ClassFile.FieldType.object "ForkedInvites$Branch"))), (y_23, prog_1_method_24_code, 3, (Option.some Jvm.ClassFile.FieldType.boolean)), (y_24, prog_1_method_25_code, 5, (Option.some Jvm.ClassFile.FieldType.int)), (y_25, prog_1_method_26_code, 6, (Option.none : Option Jvm.ClassFile.FieldType)), (y_26, prog_1_method_27_code, 3, (Option.some Jvm.ClassFile.FieldType.int)), (y_27, prog_1_method_28_code, 2, (Option.none : Option Jvm.ClassFile.FieldType)), (y_28, prog_2_method_1_code, 1, (Option.none : Option Jvm.ClassFile.FieldType)), (y_29, prog_3_method_1_code, 5, (Option.none : Option Jvm.ClassFile.FieldType)), (y_30, prog_3_method_2_code, 2, (Option.none : Option Jvm.ClassFile.FieldType)), (y_31, prog_3_method_3_code, 1, (Option.some Jvm.ClassFile.FieldType.boolean)), (y_32, prog_3_method_4_code, 1, (Option.none : Option Jvm.ClassFile.FieldType)), (y_33, prog_3_method_5_code, 1, (Option.none : Option Jvm.ClassFile.FieldType)), (y_34, prog_3_method_6_code, 1, (Option.none : Option Jvm.ClassFile.FieldType)), (y_35, prog_3_method_7_code, 2, (Option.none : Option Jvm.ClassFile.FieldType)), (y_36, prog_3_method_8_code, 2, (Option.none : Option Jvm.ClassFile.FieldType)), (y_37, prog_3_method_9_code, 1, (Option.none : Option Jvm.ClassFile.FieldType)), (y_38, prog_3_method_10_code, 1, (Option.none : Option Jvm.ClassFile.FieldType)), (y_39, prog_3_method_11_code, 2, (Option.none : Option Jvm.ClassFile.FieldType)), (y_40, prog_3_method_12_code, 2, (Option.some Jvm.ClassFile.FieldType.boolean)), (y_41, prog_3_method_13_code, 2, (Option.some Jvm.ClassFile.FieldType.int)), (y_42, prog_4_method_1_code, 5, (Option.none : Option Jvm.ClassFile.FieldType)), (y_43, prog_4_method_2_code, 1, (Option.some Jvm.ClassFile.FieldType.boolean)), (y_44, prog_4_method_3_code, 3, (Option.some Jvm.ClassFile.FieldType.int)), (y_45, prog_4_method_4_code, 2, (Option.none : Option Jvm.ClassFile.FieldType)), (y_46, prog_4_method_5_code, 4, (Option.none : Option Jvm.ClassFile.FieldType)), (y_47, prog_4_method_6_code, 2, (Option.none : Option Jvm.ClassFile.FieldType)), (y_48, prog_4_method_7_code, 3, (Option.none : Option Jvm.ClassFile.FieldType)), (y_49, prog_4_method_8_code, 3, (Option.none : Option Jvm.ClassFile.FieldType)), (y_50, prog_4_method_9_code, 3, (Option.none : Option Jvm.ClassFile.FieldType)), (y_51, prog_4_method_10_code, 3, (Option.none : Option Jvm.ClassFile.FieldType)), (y_52, prog_4_method_11_code, 2, (Option.none : Option Jvm.ClassFile.FieldType)), (y_53, prog_4_method_12_code, 2, (Option.none : Option Jvm.ClassFile.FieldType)), (y_54, prog_4_method_13_code, 3, (Option.some Jvm.ClassFile.FieldType.int)), (y_55, prog_4_method_14_code, 3, (Option.some Jvm.ClassFile.FieldType.boolean)), (y_56, prog_4_method_15_code, 1, (Option.some Jvm.ClassFile.FieldType.int)), (y_57, prog_4_method_16_code, 2, (Option.none : Option Jvm.ClassFile.FieldType)), (y_58, prog_4_method_17_code, 3, (Option.some Jvm.ClassFile.FieldType.int)), (y_59, prog_5_method_1_code, 2, (Option.none : Option Jvm.ClassFile.FieldType)), (y_60, prog_6_method_1_code, 2, (Option.none : Option Jvm.ClassFile.FieldType)), (y_61, prog_6_method_2_code, 6, (Option.none : Option Jvm.ClassFile.FieldType)), (y_62, prog_6_method_3_code, 2, (Option.some Jvm.ClassFile.FieldType.long)), (y_63, prog_7_method_1_code, 4, (Option.none : Option Jvm.ClassFile.FieldType)), (y_64, prog_7_method_2_code, 1, (Option.none : Option Jvm.ClassFile.FieldType)), (y_65, prog_7_method_3_code, 2, (Option.none : Option Jvm.ClassFile.FieldType)), (y_66, prog_7_method_4_code, 2, (Option.none : Option Jvm.ClassFile.FieldType)), (y_67, prog_7_method_5_code, 1, (Option.none : Option Jvm.ClassFile.FieldType)), (y_68, prog_7_method_6_code, 1, (Option.none : Option Jvm.ClassFile.FieldType)), (y_69, prog_7_method_7_code, 2, (Option.none : Option Jvm.ClassFile.FieldType)), (y_70, prog_7_method_8_code, 1, (Option.none : Option Jvm.ClassFile.FieldType)), (y_71, prog_7_method_9_code, 2, (Option.none : Option Jvm.ClassFile.FieldType)), (y_72, prog_7_method_10_code, 1, (Option.none : Option Jvm.ClassFile.FieldType)), (y_73, prog_7_method_11_code, 2, (Option.some Jvm.ClassFile.FieldType.int)), (y_74, prog_8_method_1_code, 2, (Option.none : Option Jvm.ClassFile.FieldType)), (y_75, prog_8_method_2_code, 2, (Option.none : Option Jvm.ClassFile.FieldType)), (y_76, prog_8_method_3_code, 1, (Option.none : Option Jvm.ClassFile.FieldType)), (y_77, prog_8_method_4_code, 2, (Option.none : Option Jvm.ClassFile.FieldType)), (y_78, prog_8_method_5_code, 1, (Option.none : Option Jvm.ClassFile.FieldType)), (y_79, prog_8_method_6_code, 1, (Option.some Jvm.ClassFile.FieldType.boolean)), (y_80, prog_8_method_7_code, 1, (Option.some Jvm.ClassFile.FieldType.boolean)), (y_81, prog_9_method_1_code, 3, (Option.none : Option Jvm.ClassFile.FieldType)), (y_82, prog_9_method_2_code, 2, (Option.none : Option Jvm.ClassFile.FieldType)), (y_83, prog_9_method_3_code, 4, (Option.some Jvm.ClassFile.FieldType.boolean)), (y_84, prog_9_method_4_code, 4, (Option.some Jvm.ClassFile.FieldType.int)), (y_85, prog_9_method_5_code, 2, (Option.none : Option Jvm.ClassFile.FieldType)), (y_86, prog_9_method_6_code, 6, (Option.some Jvm.ClassFile.FieldType.boolean)), (y_87, prog_9_method_7_code, 1, (Option.none : Option Jvm.ClassFile.FieldType)), (y_88, prog_9_method_8_code, 3, (Option.none : Option Jvm.ClassFile.FieldType)), (y_89, prog_9_method_9_code, 4, (Option.none : Option Jvm.ClassFile.FieldType)), (y_90, prog_9_method_10_code, 6, (Option.some Jvm.ClassFile.FieldType.boolean)), (y_91, prog_9_method_11_code, 3, (Option.some (Jvm.ClassFile.FieldType.object "ForkedInvites$Binding"))), (y_92, prog_9_method_12_code, 3, (Option.some (Jvm.ClassFile.FieldType.object "ForkedInvites$Binding"))), (y_93, prog_9_method_13_code, 6, (Option.some Jvm.ClassFile.FieldType.int)), (y_94, prog_11_method_1_code, 3, (Option.none : Option Jvm.ClassFile.FieldType)), (y_95, prog_11_method_2_code, 3, (Option.some Jvm.ClassFile.FieldType.boolean)), (y_96, prog_11_method_3_code, 3, (Option.some Jvm.ClassFile.FieldType.boolean)), (y_97, prog_11_method_4_code, 2, (Option.some Jvm.ClassFile.FieldType.int)), (y_98, prog_11_method_5_code, 4, (Option.some Jvm.ClassFile.FieldType.int)), (y_99, prog_11_method_6_code, 4, (Option.some Jvm.ClassFile.FieldType.boolean)), (y_100, prog_11_method_7_code, 3, (Option.some Jvm.ClassFile.FieldType.boolean)), (y_101, prog_11_method_8_code, 5, (Option.some Jvm.ClassFile.FieldType.boolean)), (y_102, prog_11_method_9_code, 9, (Option.some Jvm.ClassFile.FieldType.int)), (y_103, prog_11_method_10_code, 4, (Option.some Jvm.ClassFile.FieldType.int)), (y_104, prog_11_method_11_code, 8, (Option.some Jvm.ClassFile.FieldType.int)), (y_105, prog_11_method_12_code, 4, (Option.some Jvm.ClassFile.FieldType.int)), (y_106, prog_11_method_13_code, 4, (Option.some Jvm.ClassFile.FieldType.int)), (y_107, prog_11_method_14_code, 6, (Option.none : Option Jvm.ClassFile.FieldType)), (y_108, prog_11_method_15_code, 3, (Option.none : Option Jvm.ClassFile.FieldType)), (y_109, prog_11_method_16_code, 4, (Option.some Jvm.ClassFile.FieldType.boolean)), (y_110, prog_11_method_17_code, 3, (Option.some Jvm.ClassFile.FieldType.boolean)), (y_111, prog_11_method_18_code, 4, (Option.none : Option Jvm.ClassFile.FieldType)), (y_112, prog_11_method_19_code, 3, (Option.none : Option Jvm.ClassFile.FieldType)), (y_113, prog_11_method_20_code, 6, (Option.none : Option Jvm.ClassFile.FieldType)), (y_114, prog_11_method_21_code, 5, (Option.none : Option Jvm.ClassFile.FieldType)), (y_115, prog_11_method_22_code, 2, (Option.some Jvm.ClassFile.FieldType.boolean)), (y_116, prog_11_method_23_code, 4, (Option.none : Option Jvm.ClassFile.FieldType)), (y_117, prog_11_method_24_code, 4, (Option.none : Option Jvm.ClassFile.FieldType)), (y_118, prog_11_method_25_code, 3, (Option.none : Option Jvm.ClassFile.FieldType)), (y_119, prog_11_method_26_code, 3, (Option.some Jvm.ClassFile.FieldType.int)), (y_120, prog_11_method_27_code, 8, (Option.none : Option Jvm.ClassFile.FieldType)), (y_121, prog_11_method_28_code, 4, (Option.none : Option Jvm.ClassFile.FieldType)), (y_122, prog_11_method_29_code, 5, (Option.none : Option Jvm.ClassFile.FieldType)), (y_123, prog_11_method_30_code, 5, (Option.none : Option Jvm.ClassFile.FieldType)), (y_124, prog_11_method_31_code, 12, (Option.some Jvm.ClassFile.FieldType.int)), (y_125, prog_11_method_32_code, 5, (Option.some Jvm.ClassFile.FieldType.int)), (y_126, prog_11_method_33_code, 5, (Option.some Jvm.ClassFile.FieldType.boolean)), (y_127, prog_11_method_34_code, 3, (Option.some Jvm.ClassFile.FieldType.int)), (y_128, prog_11_method_35_code, 2, (Option.some Jvm.ClassFile.FieldType.boolean)), (y_129, prog_11_method_36_code, 2, (Option.some Jvm.ClassFile.FieldType.int)), (y_130, prog_11_method_37_code, 4, (Option.none : Option Jvm.ClassFile.FieldType)), (y_131, prog_11_method_38_code, 5, (Option.none : Option Jvm.ClassFile.FieldType)), (y_132, prog_11_method_39_code, 6, (Option.some Jvm.ClassFile.FieldType.int)), (y_133, prog_11_method_40_code, 1, (Option.some Jvm.ClassFile.FieldType.int)), (y_134, prog_11_method_41_code, 2, (Option.some Jvm.ClassFile.FieldType.int)), (y_135, prog_11_method_42_code, 4, (Option.some Jvm.ClassFile.FieldType.int)), (y_136, prog_11_method_43_code, 3, (Option.some Jvm.ClassFile.FieldType.int)), (y_137, prog_11_method_44_code, 5, (Option.some Jvm.ClassFile.FieldType.int)), (y_138, prog_11_method_45_code, 1, (Option.some Jvm.ClassFile.FieldType.int)), (y_139, prog_11_method_46_code, 2, (Option.some Jvm.ClassFile.FieldType.long)), (y_140, method_2_code, 2, (Option.some Jvm.ClassFile.FieldType.int)), (y_141, code, 4, (some .boolean))]
def ix_me (k : Nat) : MethodName × ByteArray × Nat × Option FieldType := ix_ms.getD k (y_0, code, 0, none)
def ix_nm (k : Nat) : MethodName := (ix_me k).1
def ix_by (k : Nat) : ByteArray := (ix_me k).2.1
def ix_ml (k : Nat) : Nat := (ix_me k).2.2.1
def ix_rt (k : Nat) : Option FieldType := (ix_me k).2.2.2
-- arguments with the receiver, parameters, receiver's tag, kind of answer, frames, words, owner, beginning of which tag (+1)
def ix_ns : List (Nat × Nat × Nat × Nat × Nat × Nat × Nat × Nat) := [(3, 2, 0, 0, 4, 81, 0, 1), (3, 2, 0, 2, 1, 21, 0, 0), (2, 1, 0, 1, 1, 21, 0, 0), (4, 3, 0, 2, 2, 46, 0, 0), (6, 5, 0, 1, 2, 47, 0, 0), (2, 1, 0, 1, 2, 44, 0, 0), (3, 2, 0, 1, 2, 47, 0, 0), (5, 4, 0, 1, 5, 114, 0, 0), (4, 3, 0, 1, 6, 132, 0, 0), (3, 2, 0, 2, 4, 86, 0, 0), (2, 1, 0, 1, 3, 66, 0, 0), (2, 1, 0, 2, 3, 63, 0, 0), (2, 1, 0, 1, 6, 130, 0, 0), (1, 0, 0, 1, 0, 0, 0, 0), (2, 1, 0, 1, 3, 63, 0, 0), (3, 2, 0, 1, 4, 86, 0, 0), (3, 2, 0, 1, 4, 86, 0, 0), (1, 0, 0, 1, 1, 22, 0, 0), (1, 0, 0, 1, 0, 0, 0, 0), (2, 1, 0, 3, 1, 21, 0, 0), (2, 1, 0, 4, 0, 0, 0, 0), (2, 1, 0, 4, 2, 42, 0, 0), (3, 2, 0, 4, 3, 63, 0, 0), (3, 3, 0, 2, 0, 0, 0, 0), (4, 3, 0, 1, 2, 44, 0, 0), (4, 3, 0, 0, 4, 89, 0, 0), (1, 0, 0, 1, 3, 58, 0, 0), (1, 0, 0, 0, 5, 109, 0, 0), (1, 0, 1, 0, 1, 12, 1, 2), (5, 4, 2, 0, 2, 33, 2, 3), (2, 1, 2, 0, 2, 41, 2, 0), (1, 0, 2, 2, 0, 0, 2, 0), (1, 0, 2, 0, 2, 41, 2, 0), (1, 0, 2, 0, 1, 21, 2, 0), (1, 0, 2, 0, 1, 25, 2, 0), (2, 1, 2, 0, 2, 41, 2, 0), (2, 1, 2, 0, 2, 45, 2, 0), (1, 0, 2, 0, 1, 25, 2, 0), (1, 0, 2, 0, 2, 41, 2, 0), (2, 1, 2, 0, 1, 20, 2, 0), (1, 0, 2, 2, 3, 61, 2, 0), (1, 0, 2, 1, 1, 15, 2, 0), (4, 3, 3, 0, 3, 57, 3, 4), (1, 0, 3, 2, 1, 22, 3, 0), (1, 0, 3, 1, 0, 0, 3, 0), (2, 1, 3, 0, 3, 67, 3, 0), (2, 1, 3, 0, 3, 66, 3, 0), (1, 0, 3, 0, 2, 45, 3, 0), (3, 2, 3, 0, 5, 110, 3, 0), (3, 2, 3, 0, 3, 61, 3, 0), (3, 2, 3, 0, 3, 66, 3, 0), (3, 2, 3, 0, 4, 88, 3, 0), (2, 1, 3, 0, 0, 0, 3, 0), (1, 0, 3, 0, 3, 67, 3, 0), (1, 0, 3, 1, 2, 42, 3, 0), (2, 2, 3, 2, 1, 20, 3, 0), (1, 1, 3, 1, 0, 0, 3, 0), (1, 0, 3, 0, 4, 88, 3, 0), (1, 0, 3, 1, 2, 36, 3, 0), (2, 1, 4, 0, 1, 12, 4, 5), (2, 1, 5, 0, 1, 12, 5, 6), (4, 3, 5, 0, 0, 0, 5, 0), (2, 1, 5, 3, 0, 0, 5, 0), (4, 3, 6, 0, 2, 33, 6, 7), (1, 0, 6, 0, 2, 46, 6, 0), (2, 1, 6, 0, 1, 25, 6, 0), (2, 1, 6, 0, 1, 25, 6, 0), (1, 0, 6, 0, 2, 46, 6, 0), (1, 0, 6, 0, 2, 41, 6, 0), (2, 1, 6, 0, 2, 46, 6, 0), (1, 0, 6, 0, 2, 41, 6, 0), (2, 1, 6, 0, 1, 20, 6, 0), (1, 0, 6, 0, 2, 46, 6, 0), (1, 0, 6, 1, 1, 14, 6, 0), (2, 1, 7, 0, 1, 12, 7, 8), (2, 1, 7, 0, 0, 0, 7, 0), (1, 0, 7, 0, 1, 21, 7, 0), (2, 1, 7, 0, 1, 21, 7, 0), (1, 0, 7, 0, 0, 0, 7, 0), (1, 0, 7, 2, 0, 0, 7, 0), (1, 0, 7, 2, 0, 0, 7, 0), (2, 1, 8, 0, 2, 32, 8, 9), (2, 1, 8, 0, 0, 0, 8, 0), (3, 2, 8, 2, 1, 23, 8, 0), (3, 3, 8, 1, 0, 0, 8, 0), (1, 0, 8, 0, 1, 23, 8, 0), (3, 2, 8, 2, 0, 0, 8, 0), (1, 0, 8, 0, 0, 0, 8, 0), (2, 1, 8, 0, 1, 23, 8, 0), (2, 1, 8, 0, 0, 0, 8, 0), (5, 4, 8, 2, 1, 22, 8, 0), (2, 1, 8, 4, 0, 0, 8, 0), (2, 1, 8, 4, 1, 25, 8, 0), (2, 1, 8, 1, 0, 0, 8, 0), (3, 2, 9, 0, 1, 12, 9, 10), (3, 3, 9, 2, 0, 0, 9, 0), (3, 2, 9, 2, 1, 22, 9, 0), (2, 1, 9, 1, 1, 22, 9, 0), (3, 3, 9, 1, 0, 0, 9, 0), (4, 3, 9, 2, 1, 23, 9, 0), (3, 2, 9, 2, 0, 0, 9, 0), (4, 3, 9, 2, 1, 22, 9, 0), (6, 5, 9, 1, 2, 46, 9, 0), (2, 1, 9, 1, 1, 22, 9, 0), (3, 2, 9, 1, 1, 22, 9, 0), (3, 2, 9, 1, 2, 49, 9, 0), (3, 2, 9, 1, 3, 72, 9, 0), (4, 3, 9, 0, 0, 0, 9, 0), (3, 2, 9, 0, 1, 25, 9, 0), (2, 1, 9, 2, 1, 22, 9, 0), (3, 2, 9, 2, 2, 45, 9, 0), (3, 2, 9, 0, 0, 0, 9, 0), (3, 2, 9, 0, 2, 47, 9, 0), (4, 3, 9, 0, 1, 25, 9, 0), (3, 2, 9, 0, 0, 0, 9, 0), (2, 1, 9, 2, 0, 0, 9, 0), (3, 2, 9, 0, 1, 25, 9, 0), (3, 2, 9, 0, 2, 48, 9, 0), (3, 2, 9, 0, 0, 0, 9, 0), (2, 2, 9, 1, 0, 0, 9, 0), (2, 1, 9, 0, 3, 69, 9, 0), (3, 2, 9, 0, 4, 96, 9, 0), (4, 3, 9, 0, 4, 96, 9, 0), (4, 3, 9, 0, 2, 48, 9, 0), (5, 4, 9, 1, 3, 72, 9, 0), (4, 3, 9, 1, 5, 120, 9, 0), (3, 2, 9, 2, 3, 67, 9, 0), (2, 1, 9, 1, 3, 71, 9, 0), (2, 1, 9, 2, 2, 45, 9, 0), (2, 1, 9, 1, 0, 0, 9, 0), (2, 1, 9, 0, 2, 47, 9, 0), (3, 2, 9, 0, 5, 119, 9, 0), (2, 1, 9, 1, 6, 143, 9, 0), (1, 0, 9, 1, 0, 0, 9, 0), (2, 1, 9, 1, 2, 45, 9, 0), (3, 2, 9, 1, 3, 67, 9, 0), (3, 2, 9, 1, 3, 67, 9, 0), (1, 0, 9, 1, 2, 45, 9, 0), (1, 0, 9, 1, 0, 0, 9, 0), (2, 1, 9, 3, 1, 22, 9, 0), (2, 2, 99, 1, 0, 0, 10, 0), (1, 1, 99, 2, 7, 168, 10, 0)]
def ix_ne (k : Nat) : Nat × Nat × Nat × Nat × Nat × Nat × Nat × Nat := ix_ns.getD k (0, 0, 0, 0, 0, 0, 0, 0)
def ix_np (k : Nat) : Nat := (ix_ne k).1
def ix_pn (k : Nat) : Nat := (ix_ne k).2.1
def ix_mt (k : Nat) : Nat := (ix_ne k).2.2.1
def ix_rk (k : Nat) : Nat := (ix_ne k).2.2.2.1
def ix_ra (k : Nat) : Nat := (ix_ne k).2.2.2.2.1
def ix_lo (k : Nat) : Nat := (ix_ne k).2.2.2.2.2.1
def ix_on (k : Nat) : Nat := (ix_ne k).2.2.2.2.2.2.1
def ix_ci (k : Nat) : Nat := (ix_ne k).2.2.2.2.2.2.2
def ix_lgs : List (List Nat) := [[], [], [], [], [], [], [], [], [], [], [], [], [], [], [], [], [], [], [], [], [], [], [], [], [], [], [], [], [], [], [], [], [], [], [], [], [], [], [], [], [], [], [], [], [], [], [], [], [], [], [], [], [], [], [], [], [], [], [], [], [], [4], [], [], [], [], [], [], [], [], [], [], [], [], [], [], [], [], [], [], [], [], [], [], [], [], [], [], [], [], [], [], [], [], [], [], [], [], [], [], [], [], [], [], [], [], [], [4], [], [], [], [], [], [], [], [], [], [], [], [], [], [], [], [], [], [], [], [], [], [], [], [], [], [], [], [], [], [], [], [], [], []]
def ix_lg (k : Nat) : List Nat := ix_lgs.getD k []
def ix_M : Nat := 141
end
section
def Tw : List Cond := lw_tbl.filter goodWord
theorem tw_good : ∀ w ∈ Tw, goodWord w = true := fun _ h => (List.mem_filter.mp h).2
theorem tw_sub : ∀ w ∈ Tw, w ∈ lw_tbl := fun _ h => (List.mem_filter.mp h).1
theorem tw_1 {w : Cond} (h : w ∈ tables_1_1) (g : goodWord w = true) : w ∈ Tw := List.mem_filter.mpr ⟨List.mem_append_right _ (List.mem_append_left _ h), g⟩
theorem tw_2 {w : Cond} (h : w ∈ tables_1_2) (g : goodWord w = true) : w ∈ Tw := List.mem_filter.mpr ⟨List.mem_append_right _ (List.mem_append_right _ (List.mem_append_left _ h)), g⟩
theorem tw_3 {w : Cond} (h : w ∈ tables_1_3) (g : goodWord w = true) : w ∈ Tw := List.mem_filter.mpr ⟨List.mem_append_right _ (List.mem_append_right _ (List.mem_append_right _ (List.mem_append_left _ h))), g⟩
theorem tw_4 {w : Cond} (h : w ∈ tables_1_4) (g : goodWord w = true) : w ∈ Tw := List.mem_filter.mpr ⟨List.mem_append_right _ (List.mem_append_right _ (List.mem_append_right _ (List.mem_append_right _ h))), g⟩
theorem tw_s {q : MethodName × Nat} (h : q ∈ lw_privs) : Cond.selects q.1.cls q.1 q.1 ∈ Tw := List.mem_filter.mpr ⟨List.mem_append_left _ (List.mem_map.mpr ⟨q, h, rfl⟩), rfl⟩
def ix_kok (ty : FieldType) (k : Nat) : Prop := (k = 0 ∧ ty = .int) ∨ (k = 1 ∧ ((∃ n, ty = .object n) ∨ ∃ t, ty = .array t)) ∨ (k = 2 ∧ ty = .long) ∨ (k = 3 ∧ ty = .boolean)
def ix_okc (t : Nat) : Prop := t < 100 ∧ vwCl[t]? = some (ix_cl t) ∧ (ix_cl t).2.2 = ix_nf t ∧ (∀ w ∈ u_ws (ix_cl t).1 (ix_cl t).2.1 (ix_cl t).2.2, w ∈ Tw) ∧ (∀ k, k < (ix_cl t).2.2 → parseFieldDescriptor ((ix_cl t).2.1 k).2.2.1 = some (ix_tt t k)) ∧ (∀ a, a < (ix_cl t).2.2 → ∀ b, b < (ix_cl t).2.2 → a ≠ b → ((ix_cl t).2.1 a).2.1 ≠ ((ix_cl t).2.1 b).2.1) ∧ (∀ j, j < ix_nf t → ix_kok (ix_tt t j) (ix_fk t j)) ∧ (∀ j, j < ix_nf t → ((ix_cl t).2.1 j).2.2.2 = ix_fin t j) ∧ ∀ j, j < ix_nf t → ((ix_cl t).2.1 j).1 = (ix_cl t).1
theorem uws_of {C : String} {T : u_T} {N : Nat} (h : ∀ k, k < N → u_lay C T k ∈ Tw) : ∀ w ∈ u_ws C T N, w ∈ Tw := by
  intro w hw
  obtain ⟨k, hk, rfl⟩ := List.mem_map.mp hw
  exact h k (List.mem_range.mp hk)
theorem ix_all0 {P : Nat → Prop} : ∀ k, k < 0 → P k := fun k h => absurd h (Nat.not_lt_zero k)
theorem ix_allS {P : Nat → Prop} {n : Nat} (h : ∀ k, k < n → P k) (hn : P n) : ∀ k, k < n + 1 → P k := fun k hk => by
  rcases Nat.lt_or_eq_of_le (Nat.le_of_lt_succ hk) with h1 | rfl
  · exact h k h1
  · exact hn
theorem lay_0 : ∀ k, k < 5 → u_lay "ForkedInvites" TC0 k ∈ Tw := (ix_allS (ix_allS (ix_allS (ix_allS (ix_allS ix_all0 (tw_2 (List.mem_of_getElem? (i := 41) rfl) rfl)) (tw_2 (List.mem_of_getElem? (i := 43) rfl) rfl)) (tw_2 (List.mem_of_getElem? (i := 45) rfl) rfl)) (tw_2 (List.mem_of_getElem? (i := 47) rfl) rfl)) (tw_2 (List.mem_of_getElem? (i := 49) rfl) rfl))
theorem kok_0 : ∀ k, k < 5 → ix_kok (ix_tt 0 k) (ix_fk 0 k) := (ix_allS (ix_allS (ix_allS (ix_allS (ix_allS ix_all0 (Or.inr (Or.inl ⟨rfl, Or.inl ⟨_, rfl⟩⟩))) (Or.inr (Or.inl ⟨rfl, Or.inl ⟨_, rfl⟩⟩))) (Or.inr (Or.inl ⟨rfl, Or.inr ⟨_, rfl⟩⟩))) (Or.inr (Or.inl ⟨rfl, Or.inr ⟨_, rfl⟩⟩))) (Or.inl ⟨rfl, rfl⟩))
theorem okc_0 : ix_okc 0 := ⟨by decide, rfl, rfl, uws_of lay_0, by decide +kernel, by decide +kernel, kok_0, by decide +kernel, by decide +kernel⟩
theorem lay_1 : ∀ k, k < 5 → u_lay "ForkedInvites$Binding" TC1 k ∈ Tw := (ix_allS (ix_allS (ix_allS (ix_allS (ix_allS ix_all0 (tw_1 (List.mem_of_getElem? (i := 85) rfl) rfl)) (tw_1 (List.mem_of_getElem? (i := 87) rfl) rfl)) (tw_1 (List.mem_of_getElem? (i := 89) rfl) rfl)) (tw_1 (List.mem_of_getElem? (i := 91) rfl) rfl)) (tw_1 (List.mem_of_getElem? (i := 93) rfl) rfl))
theorem kok_1 : ∀ k, k < 5 → ix_kok (ix_tt 1 k) (ix_fk 1 k) := (ix_allS (ix_allS (ix_allS (ix_allS (ix_allS ix_all0 (Or.inl ⟨rfl, rfl⟩)) (Or.inl ⟨rfl, rfl⟩)) (Or.inl ⟨rfl, rfl⟩)) (Or.inl ⟨rfl, rfl⟩)) (Or.inl ⟨rfl, rfl⟩))
theorem okc_1 : ix_okc 1 := ⟨by decide, rfl, rfl, uws_of lay_1, by decide +kernel, by decide +kernel, kok_1, by decide +kernel, by decide +kernel⟩
theorem lay_2 : ∀ k, k < 16 → u_lay "ForkedInvites$Branch" TC2 k ∈ Tw := (ix_allS (ix_allS (ix_allS (ix_allS (ix_allS (ix_allS (ix_allS (ix_allS (ix_allS (ix_allS (ix_allS (ix_allS (ix_allS (ix_allS (ix_allS (ix_allS ix_all0 (tw_1 (List.mem_of_getElem? (i := 223) rfl) rfl)) (tw_1 (List.mem_of_getElem? (i := 225) rfl) rfl)) (tw_1 (List.mem_of_getElem? (i := 227) rfl) rfl)) (tw_1 (List.mem_of_getElem? (i := 229) rfl) rfl)) (tw_1 (List.mem_of_getElem? (i := 231) rfl) rfl)) (tw_1 (List.mem_of_getElem? (i := 233) rfl) rfl)) (tw_1 (List.mem_of_getElem? (i := 235) rfl) rfl)) (tw_1 (List.mem_of_getElem? (i := 237) rfl) rfl)) (tw_1 (List.mem_of_getElem? (i := 239) rfl) rfl)) (tw_2 (List.mem_of_getElem? (i := 1) rfl) rfl)) (tw_2 (List.mem_of_getElem? (i := 3) rfl) rfl)) (tw_2 (List.mem_of_getElem? (i := 5) rfl) rfl)) (tw_2 (List.mem_of_getElem? (i := 7) rfl) rfl)) (tw_2 (List.mem_of_getElem? (i := 9) rfl) rfl)) (tw_2 (List.mem_of_getElem? (i := 11) rfl) rfl)) (tw_2 (List.mem_of_getElem? (i := 13) rfl) rfl))
theorem kok_2 : ∀ k, k < 16 → ix_kok (ix_tt 2 k) (ix_fk 2 k) := (ix_allS (ix_allS (ix_allS (ix_allS (ix_allS (ix_allS (ix_allS (ix_allS (ix_allS (ix_allS (ix_allS (ix_allS (ix_allS (ix_allS (ix_allS (ix_allS ix_all0 (Or.inr (Or.inl ⟨rfl, Or.inl ⟨_, rfl⟩⟩))) (Or.inr (Or.inl ⟨rfl, Or.inl ⟨_, rfl⟩⟩))) (Or.inl ⟨rfl, rfl⟩)) (Or.inl ⟨rfl, rfl⟩)) (Or.inr (Or.inl ⟨rfl, Or.inl ⟨_, rfl⟩⟩))) (Or.inr (Or.inl ⟨rfl, Or.inl ⟨_, rfl⟩⟩))) (Or.inr (Or.inl ⟨rfl, Or.inl ⟨_, rfl⟩⟩))) (Or.inr (Or.inl ⟨rfl, Or.inl ⟨_, rfl⟩⟩))) (Or.inr (Or.inl ⟨rfl, Or.inl ⟨_, rfl⟩⟩))) (Or.inr (Or.inl ⟨rfl, Or.inl ⟨_, rfl⟩⟩))) (Or.inl ⟨rfl, rfl⟩)) (Or.inl ⟨rfl, rfl⟩)) (Or.inr (Or.inr (Or.inr ⟨rfl, rfl⟩)))) (Or.inr (Or.inr (Or.inr ⟨rfl, rfl⟩)))) (Or.inl ⟨rfl, rfl⟩)) (Or.inl ⟨rfl, rfl⟩))
theorem okc_2 : ix_okc 2 := ⟨by decide, rfl, rfl, uws_of lay_2, by decide +kernel, by decide +kernel, kok_2, by decide +kernel, by decide +kernel⟩
theorem lay_3 : ∀ k, k < 5 → u_lay "ForkedInvites$Call" TC3 k ∈ Tw := (ix_allS (ix_allS (ix_allS (ix_allS (ix_allS ix_all0 (tw_2 (List.mem_of_getElem? (i := 25) rfl) rfl)) (tw_2 (List.mem_of_getElem? (i := 27) rfl) rfl)) (tw_2 (List.mem_of_getElem? (i := 29) rfl) rfl)) (tw_2 (List.mem_of_getElem? (i := 31) rfl) rfl)) (tw_2 (List.mem_of_getElem? (i := 33) rfl) rfl))
theorem kok_3 : ∀ k, k < 5 → ix_kok (ix_tt 3 k) (ix_fk 3 k) := (ix_allS (ix_allS (ix_allS (ix_allS (ix_allS ix_all0 (Or.inl ⟨rfl, rfl⟩)) (Or.inr (Or.inl ⟨rfl, Or.inl ⟨_, rfl⟩⟩))) (Or.inr (Or.inl ⟨rfl, Or.inr ⟨_, rfl⟩⟩))) (Or.inl ⟨rfl, rfl⟩)) (Or.inl ⟨rfl, rfl⟩))
theorem okc_3 : ix_okc 3 := ⟨by decide, rfl, rfl, uws_of lay_3, by decide +kernel, by decide +kernel, kok_3, by decide +kernel, by decide +kernel⟩
theorem lay_4 : ∀ k, k < 2 → u_lay "ForkedInvites$Clock" TC4 k ∈ Tw := (ix_allS (ix_allS ix_all0 (tw_1 (List.mem_of_getElem? (i := 40) rfl) rfl)) (tw_1 (List.mem_of_getElem? (i := 42) rfl) rfl))
theorem kok_4 : ∀ k, k < 2 → ix_kok (ix_tt 4 k) (ix_fk 4 k) := (ix_allS (ix_allS ix_all0 (Or.inl ⟨rfl, rfl⟩)) (Or.inl ⟨rfl, rfl⟩))
theorem okc_4 : ix_okc 4 := ⟨by decide, rfl, rfl, uws_of lay_4, by decide +kernel, by decide +kernel, kok_4, by decide +kernel, by decide +kernel⟩
theorem lay_5 : ∀ k, k < 3 → u_lay "ForkedInvites$MessageLog" TC5 k ∈ Tw := (ix_allS (ix_allS (ix_allS ix_all0 (tw_1 (List.mem_of_getElem? (i := 55) rfl) rfl)) (tw_1 (List.mem_of_getElem? (i := 57) rfl) rfl)) (tw_1 (List.mem_of_getElem? (i := 59) rfl) rfl))
theorem kok_5 : ∀ k, k < 3 → ix_kok (ix_tt 5 k) (ix_fk 5 k) := (ix_allS (ix_allS (ix_allS ix_all0 (Or.inr (Or.inl ⟨rfl, Or.inl ⟨_, rfl⟩⟩))) (Or.inr (Or.inl ⟨rfl, Or.inr ⟨_, rfl⟩⟩))) (Or.inl ⟨rfl, rfl⟩))
theorem okc_5 : ix_okc 5 := ⟨by decide, rfl, rfl, uws_of lay_5, by decide +kernel, by decide +kernel, kok_5, by decide +kernel, by decide +kernel⟩
theorem lay_6 : ∀ k, k < 9 → u_lay "ForkedInvites$Server" TC6 k ∈ Tw := (ix_allS (ix_allS (ix_allS (ix_allS (ix_allS (ix_allS (ix_allS (ix_allS (ix_allS ix_all0 (tw_1 (List.mem_of_getElem? (i := 173) rfl) rfl)) (tw_1 (List.mem_of_getElem? (i := 175) rfl) rfl)) (tw_1 (List.mem_of_getElem? (i := 177) rfl) rfl)) (tw_1 (List.mem_of_getElem? (i := 179) rfl) rfl)) (tw_1 (List.mem_of_getElem? (i := 181) rfl) rfl)) (tw_1 (List.mem_of_getElem? (i := 183) rfl) rfl)) (tw_1 (List.mem_of_getElem? (i := 185) rfl) rfl)) (tw_1 (List.mem_of_getElem? (i := 187) rfl) rfl)) (tw_1 (List.mem_of_getElem? (i := 189) rfl) rfl))
theorem kok_6 : ∀ k, k < 9 → ix_kok (ix_tt 6 k) (ix_fk 6 k) := (ix_allS (ix_allS (ix_allS (ix_allS (ix_allS (ix_allS (ix_allS (ix_allS (ix_allS ix_all0 (Or.inr (Or.inl ⟨rfl, Or.inl ⟨_, rfl⟩⟩))) (Or.inr (Or.inl ⟨rfl, Or.inl ⟨_, rfl⟩⟩))) (Or.inl ⟨rfl, rfl⟩)) (Or.inr (Or.inl ⟨rfl, Or.inl ⟨_, rfl⟩⟩))) (Or.inr (Or.inl ⟨rfl, Or.inl ⟨_, rfl⟩⟩))) (Or.inr (Or.inl ⟨rfl, Or.inl ⟨_, rfl⟩⟩))) (Or.inr (Or.inl ⟨rfl, Or.inl ⟨_, rfl⟩⟩))) (Or.inl ⟨rfl, rfl⟩)) (Or.inl ⟨rfl, rfl⟩))
theorem okc_6 : ix_okc 6 := ⟨by decide, rfl, rfl, uws_of lay_6, by decide +kernel, by decide +kernel, kok_6, by decide +kernel, by decide +kernel⟩
theorem lay_7 : ∀ k, k < 3 → u_lay "ForkedInvites$Timer" TC7 k ∈ Tw := (ix_allS (ix_allS (ix_allS ix_all0 (tw_1 (List.mem_of_getElem? (i := 154) rfl) rfl)) (tw_1 (List.mem_of_getElem? (i := 156) rfl) rfl)) (tw_1 (List.mem_of_getElem? (i := 158) rfl) rfl))
theorem kok_7 : ∀ k, k < 3 → ix_kok (ix_tt 7 k) (ix_fk 7 k) := (ix_allS (ix_allS (ix_allS ix_all0 (Or.inr (Or.inl ⟨rfl, Or.inl ⟨_, rfl⟩⟩))) (Or.inl ⟨rfl, rfl⟩)) (Or.inl ⟨rfl, rfl⟩))
theorem okc_7 : ix_okc 7 := ⟨by decide, rfl, rfl, uws_of lay_7, by decide +kernel, by decide +kernel, kok_7, by decide +kernel, by decide +kernel⟩
theorem lay_8 : ∀ k, k < 9 → u_lay "ForkedInvites$User" TC8 k ∈ Tw := (ix_allS (ix_allS (ix_allS (ix_allS (ix_allS (ix_allS (ix_allS (ix_allS (ix_allS ix_all0 (tw_1 (List.mem_of_getElem? (i := 108) rfl) rfl)) (tw_1 (List.mem_of_getElem? (i := 110) rfl) rfl)) (tw_1 (List.mem_of_getElem? (i := 112) rfl) rfl)) (tw_1 (List.mem_of_getElem? (i := 114) rfl) rfl)) (tw_1 (List.mem_of_getElem? (i := 116) rfl) rfl)) (tw_1 (List.mem_of_getElem? (i := 118) rfl) rfl)) (tw_1 (List.mem_of_getElem? (i := 120) rfl) rfl)) (tw_1 (List.mem_of_getElem? (i := 122) rfl) rfl)) (tw_1 (List.mem_of_getElem? (i := 124) rfl) rfl))
theorem kok_8 : ∀ k, k < 9 → ix_kok (ix_tt 8 k) (ix_fk 8 k) := (ix_allS (ix_allS (ix_allS (ix_allS (ix_allS (ix_allS (ix_allS (ix_allS (ix_allS ix_all0 (Or.inr (Or.inl ⟨rfl, Or.inl ⟨_, rfl⟩⟩))) (Or.inl ⟨rfl, rfl⟩)) (Or.inr (Or.inr (Or.inr ⟨rfl, rfl⟩)))) (Or.inr (Or.inr (Or.inr ⟨rfl, rfl⟩)))) (Or.inl ⟨rfl, rfl⟩)) (Or.inl ⟨rfl, rfl⟩)) (Or.inl ⟨rfl, rfl⟩)) (Or.inr (Or.inl ⟨rfl, Or.inr ⟨_, rfl⟩⟩))) (Or.inl ⟨rfl, rfl⟩))
theorem okc_8 : ix_okc 8 := ⟨by decide, rfl, rfl, uws_of lay_8, by decide +kernel, by decide +kernel, kok_8, by decide +kernel, by decide +kernel⟩
theorem lay_9 : ∀ k, k < 31 → u_lay "ForkedInvitesModel" TC9 k ∈ Tw := (ix_allS (ix_allS (ix_allS (ix_allS (ix_allS (ix_allS (ix_allS (ix_allS (ix_allS (ix_allS (ix_allS (ix_allS (ix_allS (ix_allS (ix_allS (ix_allS (ix_allS (ix_allS (ix_allS (ix_allS (ix_allS (ix_allS (ix_allS (ix_allS (ix_allS (ix_allS (ix_allS (ix_allS (ix_allS (ix_allS (ix_allS ix_all0 (tw_3 (List.mem_of_getElem? (i := 216) rfl) rfl)) (tw_3 (List.mem_of_getElem? (i := 218) rfl) rfl)) (tw_3 (List.mem_of_getElem? (i := 220) rfl) rfl)) (tw_3 (List.mem_of_getElem? (i := 222) rfl) rfl)) (tw_3 (List.mem_of_getElem? (i := 224) rfl) rfl)) (tw_3 (List.mem_of_getElem? (i := 226) rfl) rfl)) (tw_3 (List.mem_of_getElem? (i := 228) rfl) rfl)) (tw_3 (List.mem_of_getElem? (i := 230) rfl) rfl)) (tw_3 (List.mem_of_getElem? (i := 232) rfl) rfl)) (tw_3 (List.mem_of_getElem? (i := 234) rfl) rfl)) (tw_3 (List.mem_of_getElem? (i := 236) rfl) rfl)) (tw_3 (List.mem_of_getElem? (i := 238) rfl) rfl)) (tw_4 (List.mem_of_getElem? (i := 0) rfl) rfl)) (tw_4 (List.mem_of_getElem? (i := 2) rfl) rfl)) (tw_4 (List.mem_of_getElem? (i := 4) rfl) rfl)) (tw_4 (List.mem_of_getElem? (i := 6) rfl) rfl)) (tw_4 (List.mem_of_getElem? (i := 8) rfl) rfl)) (tw_4 (List.mem_of_getElem? (i := 10) rfl) rfl)) (tw_4 (List.mem_of_getElem? (i := 12) rfl) rfl)) (tw_4 (List.mem_of_getElem? (i := 14) rfl) rfl)) (tw_4 (List.mem_of_getElem? (i := 16) rfl) rfl)) (tw_4 (List.mem_of_getElem? (i := 18) rfl) rfl)) (tw_4 (List.mem_of_getElem? (i := 20) rfl) rfl)) (tw_4 (List.mem_of_getElem? (i := 22) rfl) rfl)) (tw_4 (List.mem_of_getElem? (i := 24) rfl) rfl)) (tw_4 (List.mem_of_getElem? (i := 26) rfl) rfl)) (tw_4 (List.mem_of_getElem? (i := 28) rfl) rfl)) (tw_4 (List.mem_of_getElem? (i := 30) rfl) rfl)) (tw_4 (List.mem_of_getElem? (i := 32) rfl) rfl)) (tw_4 (List.mem_of_getElem? (i := 34) rfl) rfl)) (tw_4 (List.mem_of_getElem? (i := 36) rfl) rfl))
theorem kok_9 : ∀ k, k < 31 → ix_kok (ix_tt 9 k) (ix_fk 9 k) := (ix_allS (ix_allS (ix_allS (ix_allS (ix_allS (ix_allS (ix_allS (ix_allS (ix_allS (ix_allS (ix_allS (ix_allS (ix_allS (ix_allS (ix_allS (ix_allS (ix_allS (ix_allS (ix_allS (ix_allS (ix_allS (ix_allS (ix_allS (ix_allS (ix_allS (ix_allS (ix_allS (ix_allS (ix_allS (ix_allS (ix_allS ix_all0 (Or.inl ⟨rfl, rfl⟩)) (Or.inl ⟨rfl, rfl⟩)) (Or.inl ⟨rfl, rfl⟩)) (Or.inr (Or.inl ⟨rfl, Or.inr ⟨_, rfl⟩⟩))) (Or.inr (Or.inl ⟨rfl, Or.inr ⟨_, rfl⟩⟩))) (Or.inr (Or.inl ⟨rfl, Or.inr ⟨_, rfl⟩⟩))) (Or.inr (Or.inl ⟨rfl, Or.inr ⟨_, rfl⟩⟩))) (Or.inr (Or.inl ⟨rfl, Or.inr ⟨_, rfl⟩⟩))) (Or.inr (Or.inl ⟨rfl, Or.inr ⟨_, rfl⟩⟩))) (Or.inr (Or.inl ⟨rfl, Or.inr ⟨_, rfl⟩⟩))) (Or.inr (Or.inl ⟨rfl, Or.inr ⟨_, rfl⟩⟩))) (Or.inr (Or.inl ⟨rfl, Or.inr ⟨_, rfl⟩⟩))) (Or.inr (Or.inl ⟨rfl, Or.inr ⟨_, rfl⟩⟩))) (Or.inl ⟨rfl, rfl⟩)) (Or.inr (Or.inl ⟨rfl, Or.inr ⟨_, rfl⟩⟩))) (Or.inr (Or.inl ⟨rfl, Or.inr ⟨_, rfl⟩⟩))) (Or.inr (Or.inl ⟨rfl, Or.inr ⟨_, rfl⟩⟩))) (Or.inr (Or.inl ⟨rfl, Or.inr ⟨_, rfl⟩⟩))) (Or.inr (Or.inl ⟨rfl, Or.inr ⟨_, rfl⟩⟩))) (Or.inr (Or.inl ⟨rfl, Or.inr ⟨_, rfl⟩⟩))) (Or.inr (Or.inl ⟨rfl, Or.inr ⟨_, rfl⟩⟩))) (Or.inr (Or.inl ⟨rfl, Or.inr ⟨_, rfl⟩⟩))) (Or.inr (Or.inl ⟨rfl, Or.inr ⟨_, rfl⟩⟩))) (Or.inr (Or.inl ⟨rfl, Or.inr ⟨_, rfl⟩⟩))) (Or.inr (Or.inl ⟨rfl, Or.inr ⟨_, rfl⟩⟩))) (Or.inr (Or.inl ⟨rfl, Or.inr ⟨_, rfl⟩⟩))) (Or.inr (Or.inl ⟨rfl, Or.inr ⟨_, rfl⟩⟩))) (Or.inr (Or.inl ⟨rfl, Or.inr ⟨_, rfl⟩⟩))) (Or.inl ⟨rfl, rfl⟩)) (Or.inr (Or.inl ⟨rfl, Or.inr ⟨_, rfl⟩⟩))) (Or.inl ⟨rfl, rfl⟩))
theorem okc_9 : ix_okc 9 := ⟨by decide, rfl, rfl, uws_of lay_9, by decide +kernel, by decide +kernel, kok_9, by decide +kernel, by decide +kernel⟩
def ix_rok (r : Option FieldType) (k : Nat) : Prop := (k = 0 ∧ r = none) ∨ (k = 1 ∧ r = some .int) ∨ (k = 2 ∧ r = some .boolean) ∨ (k = 3 ∧ r = some .long) ∨ (k = 4 ∧ ∃ rt, r = some rt ∧ ((∃ n, rt = .object n) ∨ ∃ t, rt = .array t))
def ix_mok (k : Nat) : Prop := Cond.code (ix_nm k) (ix_by k) (ix_ml k) (ix_rt k) ∈ Tw ∧ plainName (ix_nm k).cls = true ∧ (ix_nm k).cls = ix_ocl (ix_on k) ∧ (ix_nm k).cls ≠ "java/lang/invoke/MethodHandle" ∧ (ix_nm k).cls ≠ "java/lang/invoke/VarHandle" ∧ (parseMethodDescriptor (ix_nm k).desc).map (fun d => d.parameters.length) = some (ix_pn k) ∧ ix_rok (ix_rt k) (ix_rk k) ∧ ∀ t, ix_ci k = t + 1 → (ix_nm k).name = "<init>" ∧ (ix_nm k).cls = (ix_cl t).1
theorem mok_0 : ix_mok 0 := ⟨tw_1 (List.mem_of_getElem? (i := 16) rfl) rfl, by decide +kernel, by decide +kernel, by decide +kernel, by decide +kernel, by decide +kernel, Or.inl ⟨rfl, rfl⟩, fun t h => by cases h; exact ⟨rfl, rfl⟩⟩
theorem mok_1 : ix_mok 1 := ⟨tw_2 (List.mem_of_getElem? (i := 55) rfl) rfl, by decide +kernel, by decide +kernel, by decide +kernel, by decide +kernel, by decide +kernel, Or.inr (Or.inr (Or.inl ⟨rfl, rfl⟩)), fun t h => by cases h⟩
theorem mok_2 : ix_mok 2 := ⟨tw_2 (List.mem_of_getElem? (i := 63) rfl) rfl, by decide +kernel, by decide +kernel, by decide +kernel, by decide +kernel, by decide +kernel, Or.inr (Or.inl ⟨rfl, rfl⟩), fun t h => by cases h⟩
theorem mok_3 : ix_mok 3 := ⟨tw_2 (List.mem_of_getElem? (i := 72) rfl) rfl, by decide +kernel, by decide +kernel, by decide +kernel, by decide +kernel, by decide +kernel, Or.inr (Or.inr (Or.inl ⟨rfl, rfl⟩)), fun t h => by cases h⟩
theorem mok_4 : ix_mok 4 := ⟨tw_2 (List.mem_of_getElem? (i := 85) rfl) rfl, by decide +kernel, by decide +kernel, by decide +kernel, by decide +kernel, by decide +kernel, Or.inr (Or.inl ⟨rfl, rfl⟩), fun t h => by cases h⟩
theorem mok_5 : ix_mok 5 := ⟨tw_2 (List.mem_of_getElem? (i := 120) rfl) rfl, by decide +kernel, by decide +kernel, by decide +kernel, by decide +kernel, by decide +kernel, Or.inr (Or.inl ⟨rfl, rfl⟩), fun t h => by cases h⟩
theorem mok_6 : ix_mok 6 := ⟨tw_2 (List.mem_of_getElem? (i := 124) rfl) rfl, by decide +kernel, by decide +kernel, by decide +kernel, by decide +kernel, by decide +kernel, Or.inr (Or.inl ⟨rfl, rfl⟩), fun t h => by cases h⟩
theorem mok_7 : ix_mok 7 := ⟨tw_2 (List.mem_of_getElem? (i := 136) rfl) rfl, by decide +kernel, by decide +kernel, by decide +kernel, by decide +kernel, by decide +kernel, Or.inr (Or.inl ⟨rfl, rfl⟩), fun t h => by cases h⟩
theorem mok_8 : ix_mok 8 := ⟨tw_2 (List.mem_of_getElem? (i := 221) rfl) rfl, by decide +kernel, by decide +kernel, by decide +kernel, by decide +kernel, by decide +kernel, Or.inr (Or.inl ⟨rfl, rfl⟩), fun t h => by cases h⟩
theorem mok_9 : ix_mok 9 := ⟨tw_3 (List.mem_of_getElem? (i := 66) rfl) rfl, by decide +kernel, by decide +kernel, by decide +kernel, by decide +kernel, by decide +kernel, Or.inr (Or.inr (Or.inl ⟨rfl, rfl⟩)), fun t h => by cases h⟩
theorem mok_10 : ix_mok 10 := ⟨tw_3 (List.mem_of_getElem? (i := 75) rfl) rfl, by decide +kernel, by decide +kernel, by decide +kernel, by decide +kernel, by decide +kernel, Or.inr (Or.inl ⟨rfl, rfl⟩), fun t h => by cases h⟩
theorem mok_11 : ix_mok 11 := ⟨tw_3 (List.mem_of_getElem? (i := 80) rfl) rfl, by decide +kernel, by decide +kernel, by decide +kernel, by decide +kernel, by decide +kernel, Or.inr (Or.inr (Or.inl ⟨rfl, rfl⟩)), fun t h => by cases h⟩
theorem mok_12 : ix_mok 12 := ⟨tw_3 (List.mem_of_getElem? (i := 88) rfl) rfl, by decide +kernel, by decide +kernel, by decide +kernel, by decide +kernel, by decide +kernel, Or.inr (Or.inl ⟨rfl, rfl⟩), fun t h => by cases h⟩
theorem mok_13 : ix_mok 13 := ⟨tw_3 (List.mem_of_getElem? (i := 149) rfl) rfl, by decide +kernel, by decide +kernel, by decide +kernel, by decide +kernel, by decide +kernel, Or.inr (Or.inl ⟨rfl, rfl⟩), fun t h => by cases h⟩
theorem mok_14 : ix_mok 14 := ⟨tw_3 (List.mem_of_getElem? (i := 153) rfl) rfl, by decide +kernel, by decide +kernel, by decide +kernel, by decide +kernel, by decide +kernel, Or.inr (Or.inl ⟨rfl, rfl⟩), fun t h => by cases h⟩
theorem mok_15 : ix_mok 15 := ⟨tw_3 (List.mem_of_getElem? (i := 157) rfl) rfl, by decide +kernel, by decide +kernel, by decide +kernel, by decide +kernel, by decide +kernel, Or.inr (Or.inl ⟨rfl, rfl⟩), fun t h => by cases h⟩
theorem mok_16 : ix_mok 16 := ⟨tw_3 (List.mem_of_getElem? (i := 161) rfl) rfl, by decide +kernel, by decide +kernel, by decide +kernel, by decide +kernel, by decide +kernel, Or.inr (Or.inl ⟨rfl, rfl⟩), fun t h => by cases h⟩
theorem mok_17 : ix_mok 17 := ⟨tw_2 (List.mem_of_getElem? (i := 171) rfl) rfl, by decide +kernel, by decide +kernel, by decide +kernel, by decide +kernel, by decide +kernel, Or.inr (Or.inl ⟨rfl, rfl⟩), fun t h => by cases h⟩
theorem mok_18 : ix_mok 18 := ⟨tw_3 (List.mem_of_getElem? (i := 166) rfl) rfl, by decide +kernel, by decide +kernel, by decide +kernel, by decide +kernel, by decide +kernel, Or.inr (Or.inl ⟨rfl, rfl⟩), fun t h => by cases h⟩
theorem mok_19 : ix_mok 19 := ⟨tw_3 (List.mem_of_getElem? (i := 170) rfl) rfl, by decide +kernel, by decide +kernel, by decide +kernel, by decide +kernel, by decide +kernel, Or.inr (Or.inr (Or.inr (Or.inl ⟨rfl, rfl⟩))), fun t h => by cases h⟩
theorem mok_20 : ix_mok 20 := ⟨tw_2 (List.mem_of_getElem? (i := 59) rfl) rfl, by decide +kernel, by decide +kernel, by decide +kernel, by decide +kernel, by decide +kernel, Or.inr (Or.inr (Or.inr (Or.inr ⟨rfl, _, rfl, Or.inl ⟨_, rfl⟩⟩))), fun t h => by cases h⟩
theorem mok_21 : ix_mok 21 := ⟨tw_2 (List.mem_of_getElem? (i := 229) rfl) rfl, by decide +kernel, by decide +kernel, by decide +kernel, by decide +kernel, by decide +kernel, Or.inr (Or.inr (Or.inr (Or.inr ⟨rfl, _, rfl, Or.inl ⟨_, rfl⟩⟩))), fun t h => by cases h⟩
theorem mok_22 : ix_mok 22 := ⟨tw_2 (List.mem_of_getElem? (i := 225) rfl) rfl, by decide +kernel, by decide +kernel, by decide +kernel, by decide +kernel, by decide +kernel, Or.inr (Or.inr (Or.inr (Or.inr ⟨rfl, _, rfl, Or.inl ⟨_, rfl⟩⟩))), fun t h => by cases h⟩
theorem mok_23 : ix_mok 23 := ⟨tw_2 (List.mem_of_getElem? (i := 88) rfl) rfl, by decide +kernel, by decide +kernel, by decide +kernel, by decide +kernel, by decide +kernel, Or.inr (Or.inr (Or.inl ⟨rfl, rfl⟩)), fun t h => by cases h⟩
theorem mok_24 : ix_mok 24 := ⟨tw_2 (List.mem_of_getElem? (i := 163) rfl) rfl, by decide +kernel, by decide +kernel, by decide +kernel, by decide +kernel, by decide +kernel, Or.inr (Or.inl ⟨rfl, rfl⟩), fun t h => by cases h⟩
theorem mok_25 : ix_mok 25 := ⟨tw_2 (List.mem_of_getElem? (i := 167) rfl) rfl, by decide +kernel, by decide +kernel, by decide +kernel, by decide +kernel, by decide +kernel, Or.inl ⟨rfl, rfl⟩, fun t h => by cases h⟩
theorem mok_26 : ix_mok 26 := ⟨tw_3 (List.mem_of_getElem? (i := 92) rfl) rfl, by decide +kernel, by decide +kernel, by decide +kernel, by decide +kernel, by decide +kernel, Or.inr (Or.inl ⟨rfl, rfl⟩), fun t h => by cases h⟩
theorem mok_27 : ix_mok 27 := ⟨tw_3 (List.mem_of_getElem? (i := 112) rfl) rfl, by decide +kernel, by decide +kernel, by decide +kernel, by decide +kernel, by decide +kernel, Or.inl ⟨rfl, rfl⟩, fun t h => by cases h⟩
theorem mok_28 : ix_mok 28 := ⟨tw_1 (List.mem_of_getElem? (i := 75) rfl) rfl, by decide +kernel, by decide +kernel, by decide +kernel, by decide +kernel, by decide +kernel, Or.inl ⟨rfl, rfl⟩, fun t h => by cases h; exact ⟨rfl, rfl⟩⟩
theorem mok_29 : ix_mok 29 := ⟨tw_1 (List.mem_of_getElem? (i := 195) rfl) rfl, by decide +kernel, by decide +kernel, by decide +kernel, by decide +kernel, by decide +kernel, Or.inl ⟨rfl, rfl⟩, fun t h => by cases h; exact ⟨rfl, rfl⟩⟩
theorem mok_30 : ix_mok 30 := ⟨tw_2 (List.mem_of_getElem? (i := 194) rfl) rfl, by decide +kernel, by decide +kernel, by decide +kernel, by decide +kernel, by decide +kernel, Or.inl ⟨rfl, rfl⟩, fun t h => by cases h⟩
theorem mok_31 : ix_mok 31 := ⟨tw_2 (List.mem_of_getElem? (i := 203) rfl) rfl, by decide +kernel, by decide +kernel, by decide +kernel, by decide +kernel, by decide +kernel, Or.inr (Or.inr (Or.inl ⟨rfl, rfl⟩)), fun t h => by cases h⟩
theorem mok_32 : ix_mok 32 := ⟨tw_3 (List.mem_of_getElem? (i := 2) rfl) rfl, by decide +kernel, by decide +kernel, by decide +kernel, by decide +kernel, by decide +kernel, Or.inl ⟨rfl, rfl⟩, fun t h => by cases h⟩
theorem mok_33 : ix_mok 33 := ⟨tw_3 (List.mem_of_getElem? (i := 6) rfl) rfl, by decide +kernel, by decide +kernel, by decide +kernel, by decide +kernel, by decide +kernel, Or.inl ⟨rfl, rfl⟩, fun t h => by cases h⟩
theorem mok_34 : ix_mok 34 := ⟨tw_3 (List.mem_of_getElem? (i := 11) rfl) rfl, by decide +kernel, by decide +kernel, by decide +kernel, by decide +kernel, by decide +kernel, Or.inl ⟨rfl, rfl⟩, fun t h => by cases h⟩
theorem mok_35 : ix_mok 35 := ⟨tw_3 (List.mem_of_getElem? (i := 19) rfl) rfl, by decide +kernel, by decide +kernel, by decide +kernel, by decide +kernel, by decide +kernel, Or.inl ⟨rfl, rfl⟩, fun t h => by cases h⟩
theorem mok_36 : ix_mok 36 := ⟨tw_3 (List.mem_of_getElem? (i := 47) rfl) rfl, by decide +kernel, by decide +kernel, by decide +kernel, by decide +kernel, by decide +kernel, Or.inl ⟨rfl, rfl⟩, fun t h => by cases h⟩
theorem mok_37 : ix_mok 37 := ⟨tw_3 (List.mem_of_getElem? (i := 43) rfl) rfl, by decide +kernel, by decide +kernel, by decide +kernel, by decide +kernel, by decide +kernel, Or.inl ⟨rfl, rfl⟩, fun t h => by cases h⟩
theorem mok_38 : ix_mok 38 := ⟨tw_3 (List.mem_of_getElem? (i := 143) rfl) rfl, by decide +kernel, by decide +kernel, by decide +kernel, by decide +kernel, by decide +kernel, Or.inl ⟨rfl, rfl⟩, fun t h => by cases h⟩
theorem mok_39 : ix_mok 39 := ⟨tw_2 (List.mem_of_getElem? (i := 198) rfl) rfl, by decide +kernel, by decide +kernel, by decide +kernel, by decide +kernel, by decide +kernel, Or.inl ⟨rfl, rfl⟩, fun t h => by cases h⟩
theorem mok_40 : ix_mok 40 := ⟨tw_3 (List.mem_of_getElem? (i := 134) rfl) rfl, by decide +kernel, by decide +kernel, by decide +kernel, by decide +kernel, by decide +kernel, Or.inr (Or.inr (Or.inl ⟨rfl, rfl⟩)), fun t h => by cases h⟩
theorem mok_41 : ix_mok 41 := ⟨tw_3 (List.mem_of_getElem? (i := 106) rfl) rfl, by decide +kernel, by decide +kernel, by decide +kernel, by decide +kernel, by decide +kernel, Or.inr (Or.inl ⟨rfl, rfl⟩), fun t h => by cases h⟩
theorem mok_42 : ix_mok 42 := ⟨tw_1 (List.mem_of_getElem? (i := 132) rfl) rfl, by decide +kernel, by decide +kernel, by decide +kernel, by decide +kernel, by decide +kernel, Or.inl ⟨rfl, rfl⟩, fun t h => by cases h; exact ⟨rfl, rfl⟩⟩
theorem mok_43 : ix_mok 43 := ⟨tw_2 (List.mem_of_getElem? (i := 140) rfl) rfl, by decide +kernel, by decide +kernel, by decide +kernel, by decide +kernel, by decide +kernel, Or.inr (Or.inr (Or.inl ⟨rfl, rfl⟩)), fun t h => by cases h⟩
theorem mok_44 : ix_mok 44 := ⟨tw_2 (List.mem_of_getElem? (i := 144) rfl) rfl, by decide +kernel, by decide +kernel, by decide +kernel, by decide +kernel, by decide +kernel, Or.inr (Or.inl ⟨rfl, rfl⟩), fun t h => by cases h⟩
theorem mok_45 : ix_mok 45 := ⟨tw_2 (List.mem_of_getElem? (i := 212) rfl) rfl, by decide +kernel, by decide +kernel, by decide +kernel, by decide +kernel, by decide +kernel, Or.inl ⟨rfl, rfl⟩, fun t h => by cases h⟩
theorem mok_46 : ix_mok 46 := ⟨tw_2 (List.mem_of_getElem? (i := 177) rfl) rfl, by decide +kernel, by decide +kernel, by decide +kernel, by decide +kernel, by decide +kernel, Or.inl ⟨rfl, rfl⟩, fun t h => by cases h⟩
theorem mok_47 : ix_mok 47 := ⟨tw_3 (List.mem_of_getElem? (i := 35) rfl) rfl, by decide +kernel, by decide +kernel, by decide +kernel, by decide +kernel, by decide +kernel, Or.inl ⟨rfl, rfl⟩, fun t h => by cases h⟩
theorem mok_48 : ix_mok 48 := ⟨tw_2 (List.mem_of_getElem? (i := 233) rfl) rfl, by decide +kernel, by decide +kernel, by decide +kernel, by decide +kernel, by decide +kernel, Or.inl ⟨rfl, rfl⟩, fun t h => by cases h⟩
theorem mok_49 : ix_mok 49 := ⟨tw_2 (List.mem_of_getElem? (i := 237) rfl) rfl, by decide +kernel, by decide +kernel, by decide +kernel, by decide +kernel, by decide +kernel, Or.inl ⟨rfl, rfl⟩, fun t h => by cases h⟩
theorem mok_50 : ix_mok 50 := ⟨tw_3 (List.mem_of_getElem? (i := 15) rfl) rfl, by decide +kernel, by decide +kernel, by decide +kernel, by decide +kernel, by decide +kernel, Or.inl ⟨rfl, rfl⟩, fun t h => by cases h⟩
theorem mok_51 : ix_mok 51 := ⟨tw_3 (List.mem_of_getElem? (i := 39) rfl) rfl, by decide +kernel, by decide +kernel, by decide +kernel, by decide +kernel, by decide +kernel, Or.inl ⟨rfl, rfl⟩, fun t h => by cases h⟩
theorem mok_52 : ix_mok 52 := ⟨tw_3 (List.mem_of_getElem? (i := 23) rfl) rfl, by decide +kernel, by decide +kernel, by decide +kernel, by decide +kernel, by decide +kernel, Or.inl ⟨rfl, rfl⟩, fun t h => by cases h⟩
theorem mok_53 : ix_mok 53 := ⟨tw_3 (List.mem_of_getElem? (i := 52) rfl) rfl, by decide +kernel, by decide +kernel, by decide +kernel, by decide +kernel, by decide +kernel, Or.inl ⟨rfl, rfl⟩, fun t h => by cases h⟩
theorem mok_54 : ix_mok 54 := ⟨tw_3 (List.mem_of_getElem? (i := 56) rfl) rfl, by decide +kernel, by decide +kernel, by decide +kernel, by decide +kernel, by decide +kernel, Or.inr (Or.inl ⟨rfl, rfl⟩), fun t h => by cases h⟩
theorem mok_55 : ix_mok 55 := ⟨tw_3 (List.mem_of_getElem? (i := 59) rfl) rfl, by decide +kernel, by decide +kernel, by decide +kernel, by decide +kernel, by decide +kernel, Or.inr (Or.inr (Or.inl ⟨rfl, rfl⟩)), fun t h => by cases h⟩
theorem mok_56 : ix_mok 56 := ⟨tw_3 (List.mem_of_getElem? (i := 62) rfl) rfl, by decide +kernel, by decide +kernel, by decide +kernel, by decide +kernel, by decide +kernel, Or.inr (Or.inl ⟨rfl, rfl⟩), fun t h => by cases h⟩
theorem mok_57 : ix_mok 57 := ⟨tw_3 (List.mem_of_getElem? (i := 116) rfl) rfl, by decide +kernel, by decide +kernel, by decide +kernel, by decide +kernel, by decide +kernel, Or.inl ⟨rfl, rfl⟩, fun t h => by cases h⟩
theorem mok_58 : ix_mok 58 := ⟨tw_3 (List.mem_of_getElem? (i := 97) rfl) rfl, by decide +kernel, by decide +kernel, by decide +kernel, by decide +kernel, by decide +kernel, Or.inr (Or.inl ⟨rfl, rfl⟩), fun t h => by cases h⟩
theorem mok_59 : ix_mok 59 := ⟨tw_1 (List.mem_of_getElem? (i := 30) rfl) rfl, by decide +kernel, by decide +kernel, by decide +kernel, by decide +kernel, by decide +kernel, Or.inl ⟨rfl, rfl⟩, fun t h => by cases h; exact ⟨rfl, rfl⟩⟩
theorem mok_60 : ix_mok 60 := ⟨tw_1 (List.mem_of_getElem? (i := 49) rfl) rfl, by decide +kernel, by decide +kernel, by decide +kernel, by decide +kernel, by decide +kernel, Or.inl ⟨rfl, rfl⟩, fun t h => by cases h; exact ⟨rfl, rfl⟩⟩
theorem mok_61 : ix_mok 61 := ⟨tw_2 (List.mem_of_getElem? (i := 156) rfl) rfl, by decide +kernel, by decide +kernel, by decide +kernel, by decide +kernel, by decide +kernel, Or.inl ⟨rfl, rfl⟩, fun t h => by cases h⟩
theorem mok_62 : ix_mok 62 := ⟨tw_3 (List.mem_of_getElem? (i := 174) rfl) rfl, by decide +kernel, by decide +kernel, by decide +kernel, by decide +kernel, by decide +kernel, Or.inr (Or.inr (Or.inr (Or.inl ⟨rfl, rfl⟩))), fun t h => by cases h⟩
theorem mok_63 : ix_mok 63 := ⟨tw_1 (List.mem_of_getElem? (i := 140) rfl) rfl, by decide +kernel, by decide +kernel, by decide +kernel, by decide +kernel, by decide +kernel, Or.inl ⟨rfl, rfl⟩, fun t h => by cases h; exact ⟨rfl, rfl⟩⟩
theorem mok_64 : ix_mok 64 := ⟨tw_2 (List.mem_of_getElem? (i := 181) rfl) rfl, by decide +kernel, by decide +kernel, by decide +kernel, by decide +kernel, by decide +kernel, Or.inl ⟨rfl, rfl⟩, fun t h => by cases h⟩
theorem mok_65 : ix_mok 65 := ⟨tw_2 (List.mem_of_getElem? (i := 152) rfl) rfl, by decide +kernel, by decide +kernel, by decide +kernel, by decide +kernel, by decide +kernel, Or.inl ⟨rfl, rfl⟩, fun t h => by cases h⟩
theorem mok_66 : ix_mok 66 := ⟨tw_3 (List.mem_of_getElem? (i := 27) rfl) rfl, by decide +kernel, by decide +kernel, by decide +kernel, by decide +kernel, by decide +kernel, Or.inl ⟨rfl, rfl⟩, fun t h => by cases h⟩
theorem mok_67 : ix_mok 67 := ⟨tw_2 (List.mem_of_getElem? (i := 148) rfl) rfl, by decide +kernel, by decide +kernel, by decide +kernel, by decide +kernel, by decide +kernel, Or.inl ⟨rfl, rfl⟩, fun t h => by cases h⟩
theorem mok_68 : ix_mok 68 := ⟨tw_3 (List.mem_of_getElem? (i := 31) rfl) rfl, by decide +kernel, by decide +kernel, by decide +kernel, by decide +kernel, by decide +kernel, Or.inl ⟨rfl, rfl⟩, fun t h => by cases h⟩
theorem mok_69 : ix_mok 69 := ⟨tw_2 (List.mem_of_getElem? (i := 216) rfl) rfl, by decide +kernel, by decide +kernel, by decide +kernel, by decide +kernel, by decide +kernel, Or.inl ⟨rfl, rfl⟩, fun t h => by cases h⟩
theorem mok_70 : ix_mok 70 := ⟨tw_3 (List.mem_of_getElem? (i := 84) rfl) rfl, by decide +kernel, by decide +kernel, by decide +kernel, by decide +kernel, by decide +kernel, Or.inl ⟨rfl, rfl⟩, fun t h => by cases h⟩
theorem mok_71 : ix_mok 71 := ⟨tw_2 (List.mem_of_getElem? (i := 185) rfl) rfl, by decide +kernel, by decide +kernel, by decide +kernel, by decide +kernel, by decide +kernel, Or.inl ⟨rfl, rfl⟩, fun t h => by cases h⟩
theorem mok_72 : ix_mok 72 := ⟨tw_3 (List.mem_of_getElem? (i := 120) rfl) rfl, by decide +kernel, by decide +kernel, by decide +kernel, by decide +kernel, by decide +kernel, Or.inl ⟨rfl, rfl⟩, fun t h => by cases h⟩
theorem mok_73 : ix_mok 73 := ⟨tw_3 (List.mem_of_getElem? (i := 101) rfl) rfl, by decide +kernel, by decide +kernel, by decide +kernel, by decide +kernel, by decide +kernel, Or.inr (Or.inl ⟨rfl, rfl⟩), fun t h => by cases h⟩
theorem mok_74 : ix_mok 74 := ⟨tw_1 (List.mem_of_getElem? (i := 146) rfl) rfl, by decide +kernel, by decide +kernel, by decide +kernel, by decide +kernel, by decide +kernel, Or.inl ⟨rfl, rfl⟩, fun t h => by cases h; exact ⟨rfl, rfl⟩⟩
theorem mok_75 : ix_mok 75 := ⟨tw_2 (List.mem_of_getElem? (i := 208) rfl) rfl, by decide +kernel, by decide +kernel, by decide +kernel, by decide +kernel, by decide +kernel, Or.inl ⟨rfl, rfl⟩, fun t h => by cases h⟩
theorem mok_76 : ix_mok 76 := ⟨tw_3 (List.mem_of_getElem? (i := 139) rfl) rfl, by decide +kernel, by decide +kernel, by decide +kernel, by decide +kernel, by decide +kernel, Or.inl ⟨rfl, rfl⟩, fun t h => by cases h⟩
theorem mok_77 : ix_mok 77 := ⟨tw_3 (List.mem_of_getElem? (i := 128) rfl) rfl, by decide +kernel, by decide +kernel, by decide +kernel, by decide +kernel, by decide +kernel, Or.inl ⟨rfl, rfl⟩, fun t h => by cases h⟩
theorem mok_78 : ix_mok 78 := ⟨tw_2 (List.mem_of_getElem? (i := 189) rfl) rfl, by decide +kernel, by decide +kernel, by decide +kernel, by decide +kernel, by decide +kernel, Or.inl ⟨rfl, rfl⟩, fun t h => by cases h⟩
theorem mok_79 : ix_mok 79 := ⟨tw_3 (List.mem_of_getElem? (i := 70) rfl) rfl, by decide +kernel, by decide +kernel, by decide +kernel, by decide +kernel, by decide +kernel, Or.inr (Or.inr (Or.inl ⟨rfl, rfl⟩)), fun t h => by cases h⟩
theorem mok_80 : ix_mok 80 := ⟨tw_3 (List.mem_of_getElem? (i := 124) rfl) rfl, by decide +kernel, by decide +kernel, by decide +kernel, by decide +kernel, by decide +kernel, Or.inr (Or.inr (Or.inl ⟨rfl, rfl⟩)), fun t h => by cases h⟩
theorem mok_81 : ix_mok 81 := ⟨tw_1 (List.mem_of_getElem? (i := 68) rfl) rfl, by decide +kernel, by decide +kernel, by decide +kernel, by decide +kernel, by decide +kernel, Or.inl ⟨rfl, rfl⟩, fun t h => by cases h; exact ⟨rfl, rfl⟩⟩
theorem mok_82 : ix_mok 82 := ⟨tw_2 (List.mem_of_getElem? (i := 68) rfl) rfl, by decide +kernel, by decide +kernel, by decide +kernel, by decide +kernel, by decide +kernel, Or.inl ⟨rfl, rfl⟩, fun t h => by cases h⟩
theorem mok_83 : ix_mok 83 := ⟨tw_2 (List.mem_of_getElem? (i := 76) rfl) rfl, by decide +kernel, by decide +kernel, by decide +kernel, by decide +kernel, by decide +kernel, Or.inr (Or.inr (Or.inl ⟨rfl, rfl⟩)), fun t h => by cases h⟩
theorem mok_84 : ix_mok 84 := ⟨tw_2 (List.mem_of_getElem? (i := 79) rfl) rfl, by decide +kernel, by decide +kernel, by decide +kernel, by decide +kernel, by decide +kernel, Or.inr (Or.inl ⟨rfl, rfl⟩), fun t h => by cases h⟩
theorem mok_85 : ix_mok 85 := ⟨tw_2 (List.mem_of_getElem? (i := 92) rfl) rfl, by decide +kernel, by decide +kernel, by decide +kernel, by decide +kernel, by decide +kernel, Or.inl ⟨rfl, rfl⟩, fun t h => by cases h⟩
theorem mok_86 : ix_mok 86 := ⟨tw_2 (List.mem_of_getElem? (i := 100) rfl) rfl, by decide +kernel, by decide +kernel, by decide +kernel, by decide +kernel, by decide +kernel, Or.inr (Or.inr (Or.inl ⟨rfl, rfl⟩)), fun t h => by cases h⟩
theorem mok_87 : ix_mok 87 := ⟨tw_2 (List.mem_of_getElem? (i := 104) rfl) rfl, by decide +kernel, by decide +kernel, by decide +kernel, by decide +kernel, by decide +kernel, Or.inl ⟨rfl, rfl⟩, fun t h => by cases h⟩
theorem mok_88 : ix_mok 88 := ⟨tw_2 (List.mem_of_getElem? (i := 108) rfl) rfl, by decide +kernel, by decide +kernel, by decide +kernel, by decide +kernel, by decide +kernel, Or.inl ⟨rfl, rfl⟩, fun t h => by cases h⟩
theorem mok_89 : ix_mok 89 := ⟨tw_2 (List.mem_of_getElem? (i := 96) rfl) rfl, by decide +kernel, by decide +kernel, by decide +kernel, by decide +kernel, by decide +kernel, Or.inl ⟨rfl, rfl⟩, fun t h => by cases h⟩
theorem mok_90 : ix_mok 90 := ⟨tw_2 (List.mem_of_getElem? (i := 112) rfl) rfl, by decide +kernel, by decide +kernel, by decide +kernel, by decide +kernel, by decide +kernel, Or.inr (Or.inr (Or.inl ⟨rfl, rfl⟩)), fun t h => by cases h⟩
theorem mok_91 : ix_mok 91 := ⟨tw_2 (List.mem_of_getElem? (i := 116) rfl) rfl, by decide +kernel, by decide +kernel, by decide +kernel, by decide +kernel, by decide +kernel, Or.inr (Or.inr (Or.inr (Or.inr ⟨rfl, _, rfl, Or.inl ⟨_, rfl⟩⟩))), fun t h => by cases h⟩
theorem mok_92 : ix_mok 92 := ⟨tw_2 (List.mem_of_getElem? (i := 128) rfl) rfl, by decide +kernel, by decide +kernel, by decide +kernel, by decide +kernel, by decide +kernel, Or.inr (Or.inr (Or.inr (Or.inr ⟨rfl, _, rfl, Or.inl ⟨_, rfl⟩⟩))), fun t h => by cases h⟩
theorem mok_93 : ix_mok 93 := ⟨tw_2 (List.mem_of_getElem? (i := 132) rfl) rfl, by decide +kernel, by decide +kernel, by decide +kernel, by decide +kernel, by decide +kernel, Or.inr (Or.inl ⟨rfl, rfl⟩), fun t h => by cases h⟩
theorem mok_94 : ix_mok 94 := ⟨tw_3 (List.mem_of_getElem? (i := 183) rfl) rfl, by decide +kernel, by decide +kernel, by decide +kernel, by decide +kernel, by decide +kernel, Or.inl ⟨rfl, rfl⟩, fun t h => by cases h; exact ⟨rfl, rfl⟩⟩
theorem mok_95 : ix_mok 95 := ⟨tw_4 (List.mem_of_getElem? (i := 47) rfl) rfl, by decide +kernel, by decide +kernel, by decide +kernel, by decide +kernel, by decide +kernel, Or.inr (Or.inr (Or.inl ⟨rfl, rfl⟩)), fun t h => by cases h⟩
theorem mok_96 : ix_mok 96 := ⟨tw_4 (List.mem_of_getElem? (i := 44) rfl) rfl, by decide +kernel, by decide +kernel, by decide +kernel, by decide +kernel, by decide +kernel, Or.inr (Or.inr (Or.inl ⟨rfl, rfl⟩)), fun t h => by cases h⟩
theorem mok_97 : ix_mok 97 := ⟨tw_4 (List.mem_of_getElem? (i := 51) rfl) rfl, by decide +kernel, by decide +kernel, by decide +kernel, by decide +kernel, by decide +kernel, Or.inr (Or.inl ⟨rfl, rfl⟩), fun t h => by cases h⟩
theorem mok_98 : ix_mok 98 := ⟨tw_4 (List.mem_of_getElem? (i := 59) rfl) rfl, by decide +kernel, by decide +kernel, by decide +kernel, by decide +kernel, by decide +kernel, Or.inr (Or.inl ⟨rfl, rfl⟩), fun t h => by cases h⟩
theorem mok_99 : ix_mok 99 := ⟨tw_4 (List.mem_of_getElem? (i := 56) rfl) rfl, by decide +kernel, by decide +kernel, by decide +kernel, by decide +kernel, by decide +kernel, Or.inr (Or.inr (Or.inl ⟨rfl, rfl⟩)), fun t h => by cases h⟩
theorem mok_100 : ix_mok 100 := ⟨tw_4 (List.mem_of_getElem? (i := 73) rfl) rfl, by decide +kernel, by decide +kernel, by decide +kernel, by decide +kernel, by decide +kernel, Or.inr (Or.inr (Or.inl ⟨rfl, rfl⟩)), fun t h => by cases h⟩
theorem mok_101 : ix_mok 101 := ⟨tw_4 (List.mem_of_getElem? (i := 69) rfl) rfl, by decide +kernel, by decide +kernel, by decide +kernel, by decide +kernel, by decide +kernel, Or.inr (Or.inr (Or.inl ⟨rfl, rfl⟩)), fun t h => by cases h⟩
theorem mok_102 : ix_mok 102 := ⟨tw_4 (List.mem_of_getElem? (i := 65) rfl) rfl, by decide +kernel, by decide +kernel, by decide +kernel, by decide +kernel, by decide +kernel, Or.inr (Or.inl ⟨rfl, rfl⟩), fun t h => by cases h⟩
theorem mok_103 : ix_mok 103 := ⟨tw_4 (List.mem_of_getElem? (i := 77) rfl) rfl, by decide +kernel, by decide +kernel, by decide +kernel, by decide +kernel, by decide +kernel, Or.inr (Or.inl ⟨rfl, rfl⟩), fun t h => by cases h⟩
theorem mok_104 : ix_mok 104 := ⟨tw_4 (List.mem_of_getElem? (i := 90) rfl) rfl, by decide +kernel, by decide +kernel, by decide +kernel, by decide +kernel, by decide +kernel, Or.inr (Or.inl ⟨rfl, rfl⟩), fun t h => by cases h⟩
theorem mok_105 : ix_mok 105 := ⟨tw_4 (List.mem_of_getElem? (i := 86) rfl) rfl, by decide +kernel, by decide +kernel, by decide +kernel, by decide +kernel, by decide +kernel, Or.inr (Or.inl ⟨rfl, rfl⟩), fun t h => by cases h⟩
theorem mok_106 : ix_mok 106 := ⟨tw_4 (List.mem_of_getElem? (i := 82) rfl) rfl, by decide +kernel, by decide +kernel, by decide +kernel, by decide +kernel, by decide +kernel, Or.inr (Or.inl ⟨rfl, rfl⟩), fun t h => by cases h⟩
theorem mok_107 : ix_mok 107 := ⟨tw_4 (List.mem_of_getElem? (i := 106) rfl) rfl, by decide +kernel, by decide +kernel, by decide +kernel, by decide +kernel, by decide +kernel, Or.inl ⟨rfl, rfl⟩, fun t h => by cases h⟩
theorem mok_108 : ix_mok 108 := ⟨tw_4 (List.mem_of_getElem? (i := 102) rfl) rfl, by decide +kernel, by decide +kernel, by decide +kernel, by decide +kernel, by decide +kernel, Or.inl ⟨rfl, rfl⟩, fun t h => by cases h⟩
theorem mok_109 : ix_mok 109 := ⟨tw_4 (List.mem_of_getElem? (i := 98) rfl) rfl, by decide +kernel, by decide +kernel, by decide +kernel, by decide +kernel, by decide +kernel, Or.inr (Or.inr (Or.inl ⟨rfl, rfl⟩)), fun t h => by cases h⟩
theorem mok_110 : ix_mok 110 := ⟨tw_4 (List.mem_of_getElem? (i := 133) rfl) rfl, by decide +kernel, by decide +kernel, by decide +kernel, by decide +kernel, by decide +kernel, Or.inr (Or.inr (Or.inl ⟨rfl, rfl⟩)), fun t h => by cases h⟩
theorem mok_111 : ix_mok 111 := ⟨tw_4 (List.mem_of_getElem? (i := 121) rfl) rfl, by decide +kernel, by decide +kernel, by decide +kernel, by decide +kernel, by decide +kernel, Or.inl ⟨rfl, rfl⟩, fun t h => by cases h⟩
theorem mok_112 : ix_mok 112 := ⟨tw_4 (List.mem_of_getElem? (i := 117) rfl) rfl, by decide +kernel, by decide +kernel, by decide +kernel, by decide +kernel, by decide +kernel, Or.inl ⟨rfl, rfl⟩, fun t h => by cases h⟩
theorem mok_113 : ix_mok 113 := ⟨tw_4 (List.mem_of_getElem? (i := 125) rfl) rfl, by decide +kernel, by decide +kernel, by decide +kernel, by decide +kernel, by decide +kernel, Or.inl ⟨rfl, rfl⟩, fun t h => by cases h⟩
theorem mok_114 : ix_mok 114 := ⟨tw_4 (List.mem_of_getElem? (i := 149) rfl) rfl, by decide +kernel, by decide +kernel, by decide +kernel, by decide +kernel, by decide +kernel, Or.inl ⟨rfl, rfl⟩, fun t h => by cases h⟩
theorem mok_115 : ix_mok 115 := ⟨tw_4 (List.mem_of_getElem? (i := 141) rfl) rfl, by decide +kernel, by decide +kernel, by decide +kernel, by decide +kernel, by decide +kernel, Or.inr (Or.inr (Or.inl ⟨rfl, rfl⟩)), fun t h => by cases h⟩
theorem mok_116 : ix_mok 116 := ⟨tw_4 (List.mem_of_getElem? (i := 153) rfl) rfl, by decide +kernel, by decide +kernel, by decide +kernel, by decide +kernel, by decide +kernel, Or.inl ⟨rfl, rfl⟩, fun t h => by cases h⟩
theorem mok_117 : ix_mok 117 := ⟨tw_4 (List.mem_of_getElem? (i := 161) rfl) rfl, by decide +kernel, by decide +kernel, by decide +kernel, by decide +kernel, by decide +kernel, Or.inl ⟨rfl, rfl⟩, fun t h => by cases h⟩
theorem mok_118 : ix_mok 118 := ⟨tw_4 (List.mem_of_getElem? (i := 157) rfl) rfl, by decide +kernel, by decide +kernel, by decide +kernel, by decide +kernel, by decide +kernel, Or.inl ⟨rfl, rfl⟩, fun t h => by cases h⟩
theorem mok_119 : ix_mok 119 := ⟨tw_4 (List.mem_of_getElem? (i := 168) rfl) rfl, by decide +kernel, by decide +kernel, by decide +kernel, by decide +kernel, by decide +kernel, Or.inr (Or.inl ⟨rfl, rfl⟩), fun t h => by cases h⟩
theorem mok_120 : ix_mok 120 := ⟨tw_4 (List.mem_of_getElem? (i := 165) rfl) rfl, by decide +kernel, by decide +kernel, by decide +kernel, by decide +kernel, by decide +kernel, Or.inl ⟨rfl, rfl⟩, fun t h => by cases h⟩
theorem mok_121 : ix_mok 121 := ⟨tw_4 (List.mem_of_getElem? (i := 200) rfl) rfl, by decide +kernel, by decide +kernel, by decide +kernel, by decide +kernel, by decide +kernel, Or.inl ⟨rfl, rfl⟩, fun t h => by cases h⟩
theorem mok_122 : ix_mok 122 := ⟨tw_4 (List.mem_of_getElem? (i := 137) rfl) rfl, by decide +kernel, by decide +kernel, by decide +kernel, by decide +kernel, by decide +kernel, Or.inl ⟨rfl, rfl⟩, fun t h => by cases h⟩
theorem mok_123 : ix_mok 123 := ⟨tw_4 (List.mem_of_getElem? (i := 145) rfl) rfl, by decide +kernel, by decide +kernel, by decide +kernel, by decide +kernel, by decide +kernel, Or.inl ⟨rfl, rfl⟩, fun t h => by cases h⟩
theorem mok_124 : ix_mok 124 := ⟨tw_4 (List.mem_of_getElem? (i := 94) rfl) rfl, by decide +kernel, by decide +kernel, by decide +kernel, by decide +kernel, by decide +kernel, Or.inr (Or.inl ⟨rfl, rfl⟩), fun t h => by cases h⟩
theorem mok_125 : ix_mok 125 := ⟨tw_4 (List.mem_of_getElem? (i := 129) rfl) rfl, by decide +kernel, by decide +kernel, by decide +kernel, by decide +kernel, by decide +kernel, Or.inr (Or.inl ⟨rfl, rfl⟩), fun t h => by cases h⟩
theorem mok_126 : ix_mok 126 := ⟨tw_4 (List.mem_of_getElem? (i := 172) rfl) rfl, by decide +kernel, by decide +kernel, by decide +kernel, by decide +kernel, by decide +kernel, Or.inr (Or.inr (Or.inl ⟨rfl, rfl⟩)), fun t h => by cases h⟩
theorem mok_127 : ix_mok 127 := ⟨tw_4 (List.mem_of_getElem? (i := 176) rfl) rfl, by decide +kernel, by decide +kernel, by decide +kernel, by decide +kernel, by decide +kernel, Or.inr (Or.inl ⟨rfl, rfl⟩), fun t h => by cases h⟩
theorem mok_128 : ix_mok 128 := ⟨tw_4 (List.mem_of_getElem? (i := 180) rfl) rfl, by decide +kernel, by decide +kernel, by decide +kernel, by decide +kernel, by decide +kernel, Or.inr (Or.inr (Or.inl ⟨rfl, rfl⟩)), fun t h => by cases h⟩
theorem mok_129 : ix_mok 129 := ⟨tw_4 (List.mem_of_getElem? (i := 192) rfl) rfl, by decide +kernel, by decide +kernel, by decide +kernel, by decide +kernel, by decide +kernel, Or.inr (Or.inl ⟨rfl, rfl⟩), fun t h => by cases h⟩
theorem mok_130 : ix_mok 130 := ⟨tw_4 (List.mem_of_getElem? (i := 188) rfl) rfl, by decide +kernel, by decide +kernel, by decide +kernel, by decide +kernel, by decide +kernel, Or.inl ⟨rfl, rfl⟩, fun t h => by cases h⟩
theorem mok_131 : ix_mok 131 := ⟨tw_4 (List.mem_of_getElem? (i := 196) rfl) rfl, by decide +kernel, by decide +kernel, by decide +kernel, by decide +kernel, by decide +kernel, Or.inl ⟨rfl, rfl⟩, fun t h => by cases h⟩
theorem mok_132 : ix_mok 132 := ⟨tw_4 (List.mem_of_getElem? (i := 184) rfl) rfl, by decide +kernel, by decide +kernel, by decide +kernel, by decide +kernel, by decide +kernel, Or.inr (Or.inl ⟨rfl, rfl⟩), fun t h => by cases h⟩
theorem mok_133 : ix_mok 133 := ⟨tw_4 (List.mem_of_getElem? (i := 204) rfl) rfl, by decide +kernel, by decide +kernel, by decide +kernel, by decide +kernel, by decide +kernel, Or.inr (Or.inl ⟨rfl, rfl⟩), fun t h => by cases h⟩
theorem mok_134 : ix_mok 134 := ⟨tw_4 (List.mem_of_getElem? (i := 208) rfl) rfl, by decide +kernel, by decide +kernel, by decide +kernel, by decide +kernel, by decide +kernel, Or.inr (Or.inl ⟨rfl, rfl⟩), fun t h => by cases h⟩
theorem mok_135 : ix_mok 135 := ⟨tw_4 (List.mem_of_getElem? (i := 212) rfl) rfl, by decide +kernel, by decide +kernel, by decide +kernel, by decide +kernel, by decide +kernel, Or.inr (Or.inl ⟨rfl, rfl⟩), fun t h => by cases h⟩
theorem mok_136 : ix_mok 136 := ⟨tw_4 (List.mem_of_getElem? (i := 216) rfl) rfl, by decide +kernel, by decide +kernel, by decide +kernel, by decide +kernel, by decide +kernel, Or.inr (Or.inl ⟨rfl, rfl⟩), fun t h => by cases h⟩
theorem mok_137 : ix_mok 137 := ⟨tw_4 (List.mem_of_getElem? (i := 113) rfl) rfl, by decide +kernel, by decide +kernel, by decide +kernel, by decide +kernel, by decide +kernel, Or.inr (Or.inl ⟨rfl, rfl⟩), fun t h => by cases h⟩
theorem mok_138 : ix_mok 138 := ⟨tw_4 (List.mem_of_getElem? (i := 221) rfl) rfl, by decide +kernel, by decide +kernel, by decide +kernel, by decide +kernel, by decide +kernel, Or.inr (Or.inl ⟨rfl, rfl⟩), fun t h => by cases h⟩
theorem mok_139 : ix_mok 139 := ⟨tw_4 (List.mem_of_getElem? (i := 225) rfl) rfl, by decide +kernel, by decide +kernel, by decide +kernel, by decide +kernel, by decide +kernel, Or.inr (Or.inr (Or.inr (Or.inl ⟨rfl, rfl⟩))), fun t h => by cases h⟩
theorem mok_140 : ix_mok 140 := ⟨tw_3 (List.mem_of_getElem? (i := 178) rfl) rfl, by decide +kernel, by decide +kernel, by decide +kernel, by decide +kernel, by decide +kernel, Or.inr (Or.inl ⟨rfl, rfl⟩), fun t h => by cases h⟩
theorem moks_40 : ∀ k, k < 40 → ix_mok k := (ix_allS (ix_allS (ix_allS (ix_allS (ix_allS (ix_allS (ix_allS (ix_allS (ix_allS (ix_allS (ix_allS (ix_allS (ix_allS (ix_allS (ix_allS (ix_allS (ix_allS (ix_allS (ix_allS (ix_allS (ix_allS (ix_allS (ix_allS (ix_allS (ix_allS (ix_allS (ix_allS (ix_allS (ix_allS (ix_allS (ix_allS (ix_allS (ix_allS (ix_allS (ix_allS (ix_allS (ix_allS (ix_allS (ix_allS (ix_allS ix_all0 mok_0) mok_1) mok_2) mok_3) mok_4) mok_5) mok_6) mok_7) mok_8) mok_9) mok_10) mok_11) mok_12) mok_13) mok_14) mok_15) mok_16) mok_17) mok_18) mok_19) mok_20) mok_21) mok_22) mok_23) mok_24) mok_25) mok_26) mok_27) mok_28) mok_29) mok_30) mok_31) mok_32) mok_33) mok_34) mok_35) mok_36) mok_37) mok_38) mok_39)
theorem moks_80 : ∀ k, k < 80 → ix_mok k := (ix_allS (ix_allS (ix_allS (ix_allS (ix_allS (ix_allS (ix_allS (ix_allS (ix_allS (ix_allS (ix_allS (ix_allS (ix_allS (ix_allS (ix_allS (ix_allS (ix_allS (ix_allS (ix_allS (ix_allS (ix_allS (ix_allS (ix_allS (ix_allS (ix_allS (ix_allS (ix_allS (ix_allS (ix_allS (ix_allS (ix_allS (ix_allS (ix_allS (ix_allS (ix_allS (ix_allS (ix_allS (ix_allS (ix_allS (ix_allS moks_40 mok_40) mok_41) mok_42) mok_43) mok_44) mok_45) mok_46) mok_47) mok_48) mok_49) mok_50) mok_51) mok_52) mok_53) mok_54) mok_55) mok_56) mok_57) mok_58) mok_59) mok_60) mok_61) mok_62) mok_63) mok_64) mok_65) mok_66) mok_67) mok_68) mok_69) mok_70) mok_71) mok_72) mok_73) mok_74) mok_75) mok_76) mok_77) mok_78) mok_79)
theorem moks_120 : ∀ k, k < 120 → ix_mok k := (ix_allS (ix_allS (ix_allS (ix_allS (ix_allS (ix_allS (ix_allS (ix_allS (ix_allS (ix_allS (ix_allS (ix_allS (ix_allS (ix_allS (ix_allS (ix_allS (ix_allS (ix_allS (ix_allS (ix_allS (ix_allS (ix_allS (ix_allS (ix_allS (ix_allS (ix_allS (ix_allS (ix_allS (ix_allS (ix_allS (ix_allS (ix_allS (ix_allS (ix_allS (ix_allS (ix_allS (ix_allS (ix_allS (ix_allS (ix_allS moks_80 mok_80) mok_81) mok_82) mok_83) mok_84) mok_85) mok_86) mok_87) mok_88) mok_89) mok_90) mok_91) mok_92) mok_93) mok_94) mok_95) mok_96) mok_97) mok_98) mok_99) mok_100) mok_101) mok_102) mok_103) mok_104) mok_105) mok_106) mok_107) mok_108) mok_109) mok_110) mok_111) mok_112) mok_113) mok_114) mok_115) mok_116) mok_117) mok_118) mok_119)
theorem moks_141 : ∀ k, k < 141 → ix_mok k := (ix_allS (ix_allS (ix_allS (ix_allS (ix_allS (ix_allS (ix_allS (ix_allS (ix_allS (ix_allS (ix_allS (ix_allS (ix_allS (ix_allS (ix_allS (ix_allS (ix_allS (ix_allS (ix_allS (ix_allS (ix_allS moks_120 mok_120) mok_121) mok_122) mok_123) mok_124) mok_125) mok_126) mok_127) mok_128) mok_129) mok_130) mok_131) mok_132) mok_133) mok_134) mok_135) mok_136) mok_137) mok_138) mok_139) mok_140)
theorem md_ok {k : Nat} (h : k < ix_M) : ix_mok k := moks_141 k h
end
section
def ix_NW : List (String × Nat × MethodName × String) := [("ForkedInvites$User", 21, ({ cls := "ForkedInvites$Binding", name := "<init>", desc := "()V" } : Jvm.MethodName), "ForkedInvites")]
def ix_pk (o x z a b : Nat) : Prop := match z with
  | 1 => Cond.constant (ix_ocl o) x (Int32.ofNat a) ∈ Tw
  | 2 => Cond.constantLong (ix_ocl o) x (Int64.ofNat a) ∈ Tw
  | 3 => ix_okc a ∧ b < ix_nf a ∧ Cond.fieldLink (ix_ocl o) x ((ix_cl a).2.1 b).1 ((ix_cl a).2.1 b).2.1 ((ix_cl a).2.1 b).2.2.1 ∈ Tw
  | 4 => ix_okc a ∧ Cond.classLink (ix_ocl o) x (ix_cl a).1 ∈ Tw ∧ Cond.instantiable (ix_cl a).1 (ix_nf a) ∈ Tw ∧ Cond.initialized (ix_cl a).1 ∈ Tw ∧ (¬ b = 0 → 103 ≤ b ∧ b < ix_tz ∧ ix_aty[b - 100]? = some (.object (ix_cl a).1) ∧ (ix_cl a).1 ∈ ix_AO)
  | 6 => a < ix_M ∧ b = ix_pn a + 1 ∧ ix_okc (ix_mt a) ∧ (ix_cl (ix_mt a)).1 = (ix_nm a).cls ∧ Cond.methodLink (ix_ocl o) x (ix_nm a) ∈ Tw ∧ Cond.instanceMethod (ix_nm a) ∈ Tw ∧ Cond.selects (ix_nm a).cls (ix_nm a) (ix_nm a) ∈ Tw ∧ Cond.initialized (ix_nm a).cls ∈ Tw
  | 7 => a < ix_M ∧ b = ix_pn a + 1 ∧ ix_rt a = none ∧ (ix_nm a).name = "<init>" ∧ Cond.methodLink (ix_ocl o) x (ix_nm a) ∈ Tw ∧ Cond.instanceMethod (ix_nm a) ∈ Tw ∧ Cond.initialized (ix_nm a).cls ∈ Tw
  | 12 => a < ix_M ∧ b = ix_pn a + 1 ∧ ix_rt a = none ∧ (ix_nm a).name = "<init>" ∧ (∃ host, (ix_ocl o, x, ix_nm a, host) ∈ ix_NW) ∧ Cond.instanceMethod (ix_nm a) ∈ Tw ∧ Cond.initialized (ix_nm a).cls ∈ Tw
  | 8 => a < ix_M ∧ b = ix_pn a ∧ Cond.methodLink (ix_ocl o) x (ix_nm a) ∈ Tw ∧ Cond.static (ix_nm a) ∈ Tw ∧ Cond.initialized (ix_nm a).cls ∈ Tw
  | 9 => Cond.methodLink (ix_ocl o) x objectInit ∈ Tw ∧ Cond.instanceMethod objectInit ∈ Tw ∧ Cond.code objectInit ⟨#[0xb1]⟩ 1 none ∈ Tw
  | 10 => Cond.methodLink (ix_ocl o) x Lib.Math.max.name ∈ Tw ∧ Cond.static Lib.Math.max.name ∈ Tw ∧ Cond.initialized "java/lang/Math" ∈ Tw ∧ Cond.code Lib.Math.max.name Lib.Math.max.code 2 (some .int) ∈ Tw
  | 11 => Cond.methodLink (ix_ocl o) x Lib.Math.min.name ∈ Tw ∧ Cond.static Lib.Math.min.name ∈ Tw ∧ Cond.initialized "java/lang/Math" ∈ Tw ∧ Cond.code Lib.Math.min.name Lib.Math.min.code 2 (some .int) ∈ Tw
  | _ => False
theorem wi_0 : Cond.instanceMethod (ix_nm 0) ∈ Tw := tw_1 (List.mem_of_getElem? (i := 15) rfl) rfl
theorem wi_1 : Cond.instanceMethod (ix_nm 1) ∈ Tw := tw_2 (List.mem_of_getElem? (i := 53) rfl) rfl
theorem wi_2 : Cond.instanceMethod (ix_nm 2) ∈ Tw := tw_2 (List.mem_of_getElem? (i := 61) rfl) rfl
theorem wi_3 : Cond.instanceMethod (ix_nm 3) ∈ Tw := tw_2 (List.mem_of_getElem? (i := 70) rfl) rfl
theorem wi_4 : Cond.instanceMethod (ix_nm 4) ∈ Tw := tw_2 (List.mem_of_getElem? (i := 83) rfl) rfl
theorem wi_5 : Cond.instanceMethod (ix_nm 5) ∈ Tw := tw_2 (List.mem_of_getElem? (i := 118) rfl) rfl
theorem wi_6 : Cond.instanceMethod (ix_nm 6) ∈ Tw := tw_2 (List.mem_of_getElem? (i := 122) rfl) rfl
theorem wi_7 : Cond.instanceMethod (ix_nm 7) ∈ Tw := tw_2 (List.mem_of_getElem? (i := 134) rfl) rfl
theorem wi_8 : Cond.instanceMethod (ix_nm 8) ∈ Tw := tw_2 (List.mem_of_getElem? (i := 219) rfl) rfl
theorem wi_9 : Cond.instanceMethod (ix_nm 9) ∈ Tw := tw_3 (List.mem_of_getElem? (i := 64) rfl) rfl
theorem wi_10 : Cond.instanceMethod (ix_nm 10) ∈ Tw := tw_3 (List.mem_of_getElem? (i := 73) rfl) rfl
theorem wi_11 : Cond.instanceMethod (ix_nm 11) ∈ Tw := tw_3 (List.mem_of_getElem? (i := 78) rfl) rfl
theorem wi_12 : Cond.instanceMethod (ix_nm 12) ∈ Tw := tw_3 (List.mem_of_getElem? (i := 86) rfl) rfl
theorem wi_13 : Cond.instanceMethod (ix_nm 13) ∈ Tw := tw_3 (List.mem_of_getElem? (i := 147) rfl) rfl
theorem wi_14 : Cond.instanceMethod (ix_nm 14) ∈ Tw := tw_3 (List.mem_of_getElem? (i := 151) rfl) rfl
theorem wi_15 : Cond.instanceMethod (ix_nm 15) ∈ Tw := tw_3 (List.mem_of_getElem? (i := 155) rfl) rfl
theorem wi_16 : Cond.instanceMethod (ix_nm 16) ∈ Tw := tw_3 (List.mem_of_getElem? (i := 159) rfl) rfl
theorem wi_17 : Cond.instanceMethod (ix_nm 17) ∈ Tw := tw_2 (List.mem_of_getElem? (i := 169) rfl) rfl
theorem wi_18 : Cond.instanceMethod (ix_nm 18) ∈ Tw := tw_3 (List.mem_of_getElem? (i := 164) rfl) rfl
theorem wi_19 : Cond.instanceMethod (ix_nm 19) ∈ Tw := tw_3 (List.mem_of_getElem? (i := 168) rfl) rfl
theorem wi_20 : Cond.instanceMethod (ix_nm 20) ∈ Tw := tw_2 (List.mem_of_getElem? (i := 58) rfl) rfl
theorem wi_21 : Cond.instanceMethod (ix_nm 21) ∈ Tw := tw_2 (List.mem_of_getElem? (i := 228) rfl) rfl
theorem wi_22 : Cond.instanceMethod (ix_nm 22) ∈ Tw := tw_2 (List.mem_of_getElem? (i := 224) rfl) rfl
theorem wi_23 : Cond.static (ix_nm 23) ∈ Tw := tw_2 (List.mem_of_getElem? (i := 87) rfl) rfl
theorem wi_24 : Cond.instanceMethod (ix_nm 24) ∈ Tw := tw_2 (List.mem_of_getElem? (i := 162) rfl) rfl
theorem wi_25 : Cond.instanceMethod (ix_nm 25) ∈ Tw := tw_2 (List.mem_of_getElem? (i := 166) rfl) rfl
theorem wi_26 : Cond.instanceMethod (ix_nm 26) ∈ Tw := tw_3 (List.mem_of_getElem? (i := 91) rfl) rfl
theorem wi_27 : Cond.instanceMethod (ix_nm 27) ∈ Tw := tw_3 (List.mem_of_getElem? (i := 111) rfl) rfl
theorem wi_28 : Cond.instanceMethod (ix_nm 28) ∈ Tw := tw_1 (List.mem_of_getElem? (i := 74) rfl) rfl
theorem wi_29 : Cond.instanceMethod (ix_nm 29) ∈ Tw := tw_1 (List.mem_of_getElem? (i := 194) rfl) rfl
theorem wi_30 : Cond.instanceMethod (ix_nm 30) ∈ Tw := tw_2 (List.mem_of_getElem? (i := 192) rfl) rfl
theorem wi_31 : Cond.instanceMethod (ix_nm 31) ∈ Tw := tw_2 (List.mem_of_getElem? (i := 201) rfl) rfl
theorem wi_32 : Cond.instanceMethod (ix_nm 32) ∈ Tw := tw_3 (List.mem_of_getElem? (i := 0) rfl) rfl
theorem wi_33 : Cond.instanceMethod (ix_nm 33) ∈ Tw := tw_3 (List.mem_of_getElem? (i := 4) rfl) rfl
theorem wi_34 : Cond.instanceMethod (ix_nm 34) ∈ Tw := tw_3 (List.mem_of_getElem? (i := 9) rfl) rfl
theorem wi_35 : Cond.instanceMethod (ix_nm 35) ∈ Tw := tw_3 (List.mem_of_getElem? (i := 17) rfl) rfl
theorem wi_36 : Cond.instanceMethod (ix_nm 36) ∈ Tw := tw_3 (List.mem_of_getElem? (i := 45) rfl) rfl
theorem wi_37 : Cond.instanceMethod (ix_nm 37) ∈ Tw := tw_3 (List.mem_of_getElem? (i := 41) rfl) rfl
theorem wi_38 : Cond.instanceMethod (ix_nm 38) ∈ Tw := tw_3 (List.mem_of_getElem? (i := 142) rfl) rfl
theorem wi_39 : Cond.instanceMethod (ix_nm 39) ∈ Tw := tw_2 (List.mem_of_getElem? (i := 197) rfl) rfl
theorem wi_40 : Cond.instanceMethod (ix_nm 40) ∈ Tw := tw_3 (List.mem_of_getElem? (i := 132) rfl) rfl
theorem wi_41 : Cond.instanceMethod (ix_nm 41) ∈ Tw := tw_3 (List.mem_of_getElem? (i := 104) rfl) rfl
theorem wi_42 : Cond.instanceMethod (ix_nm 42) ∈ Tw := tw_1 (List.mem_of_getElem? (i := 131) rfl) rfl
theorem wi_43 : Cond.instanceMethod (ix_nm 43) ∈ Tw := tw_2 (List.mem_of_getElem? (i := 138) rfl) rfl
theorem wi_44 : Cond.instanceMethod (ix_nm 44) ∈ Tw := tw_2 (List.mem_of_getElem? (i := 142) rfl) rfl
theorem wi_45 : Cond.instanceMethod (ix_nm 45) ∈ Tw := tw_2 (List.mem_of_getElem? (i := 210) rfl) rfl
theorem wi_46 : Cond.instanceMethod (ix_nm 46) ∈ Tw := tw_2 (List.mem_of_getElem? (i := 175) rfl) rfl
theorem wi_47 : Cond.instanceMethod (ix_nm 47) ∈ Tw := tw_3 (List.mem_of_getElem? (i := 33) rfl) rfl
theorem wi_48 : Cond.instanceMethod (ix_nm 48) ∈ Tw := tw_2 (List.mem_of_getElem? (i := 231) rfl) rfl
theorem wi_49 : Cond.instanceMethod (ix_nm 49) ∈ Tw := tw_2 (List.mem_of_getElem? (i := 236) rfl) rfl
theorem wi_50 : Cond.instanceMethod (ix_nm 50) ∈ Tw := tw_3 (List.mem_of_getElem? (i := 14) rfl) rfl
theorem wi_51 : Cond.instanceMethod (ix_nm 51) ∈ Tw := tw_3 (List.mem_of_getElem? (i := 38) rfl) rfl
theorem wi_52 : Cond.instanceMethod (ix_nm 52) ∈ Tw := tw_3 (List.mem_of_getElem? (i := 22) rfl) rfl
theorem wi_53 : Cond.instanceMethod (ix_nm 53) ∈ Tw := tw_3 (List.mem_of_getElem? (i := 51) rfl) rfl
theorem wi_54 : Cond.instanceMethod (ix_nm 54) ∈ Tw := tw_3 (List.mem_of_getElem? (i := 55) rfl) rfl
theorem wi_55 : Cond.static (ix_nm 55) ∈ Tw := tw_3 (List.mem_of_getElem? (i := 58) rfl) rfl
theorem wi_56 : Cond.static (ix_nm 56) ∈ Tw := tw_3 (List.mem_of_getElem? (i := 61) rfl) rfl
theorem wi_57 : Cond.instanceMethod (ix_nm 57) ∈ Tw := tw_3 (List.mem_of_getElem? (i := 114) rfl) rfl
theorem wi_58 : Cond.instanceMethod (ix_nm 58) ∈ Tw := tw_3 (List.mem_of_getElem? (i := 95) rfl) rfl
theorem wi_59 : Cond.instanceMethod (ix_nm 59) ∈ Tw := tw_1 (List.mem_of_getElem? (i := 29) rfl) rfl
theorem wi_60 : Cond.instanceMethod (ix_nm 60) ∈ Tw := tw_1 (List.mem_of_getElem? (i := 48) rfl) rfl
theorem wi_61 : Cond.instanceMethod (ix_nm 61) ∈ Tw := tw_2 (List.mem_of_getElem? (i := 154) rfl) rfl
theorem wi_62 : Cond.instanceMethod (ix_nm 62) ∈ Tw := tw_3 (List.mem_of_getElem? (i := 172) rfl) rfl
theorem wi_63 : Cond.instanceMethod (ix_nm 63) ∈ Tw := tw_1 (List.mem_of_getElem? (i := 139) rfl) rfl
theorem wi_64 : Cond.instanceMethod (ix_nm 64) ∈ Tw := tw_2 (List.mem_of_getElem? (i := 179) rfl) rfl
theorem wi_65 : Cond.instanceMethod (ix_nm 65) ∈ Tw := tw_2 (List.mem_of_getElem? (i := 150) rfl) rfl
theorem wi_66 : Cond.instanceMethod (ix_nm 66) ∈ Tw := tw_3 (List.mem_of_getElem? (i := 25) rfl) rfl
theorem wi_67 : Cond.instanceMethod (ix_nm 67) ∈ Tw := tw_2 (List.mem_of_getElem? (i := 146) rfl) rfl
theorem wi_68 : Cond.instanceMethod (ix_nm 68) ∈ Tw := tw_3 (List.mem_of_getElem? (i := 29) rfl) rfl
theorem wi_69 : Cond.instanceMethod (ix_nm 69) ∈ Tw := tw_2 (List.mem_of_getElem? (i := 214) rfl) rfl
theorem wi_70 : Cond.instanceMethod (ix_nm 70) ∈ Tw := tw_3 (List.mem_of_getElem? (i := 82) rfl) rfl
theorem wi_71 : Cond.instanceMethod (ix_nm 71) ∈ Tw := tw_2 (List.mem_of_getElem? (i := 184) rfl) rfl
theorem wi_72 : Cond.instanceMethod (ix_nm 72) ∈ Tw := tw_3 (List.mem_of_getElem? (i := 118) rfl) rfl
theorem wi_73 : Cond.instanceMethod (ix_nm 73) ∈ Tw := tw_3 (List.mem_of_getElem? (i := 99) rfl) rfl
theorem wi_74 : Cond.instanceMethod (ix_nm 74) ∈ Tw := tw_1 (List.mem_of_getElem? (i := 145) rfl) rfl
theorem wi_75 : Cond.instanceMethod (ix_nm 75) ∈ Tw := tw_2 (List.mem_of_getElem? (i := 206) rfl) rfl
theorem wi_76 : Cond.instanceMethod (ix_nm 76) ∈ Tw := tw_3 (List.mem_of_getElem? (i := 137) rfl) rfl
theorem wi_77 : Cond.instanceMethod (ix_nm 77) ∈ Tw := tw_3 (List.mem_of_getElem? (i := 126) rfl) rfl
theorem wi_78 : Cond.instanceMethod (ix_nm 78) ∈ Tw := tw_2 (List.mem_of_getElem? (i := 187) rfl) rfl
theorem wi_79 : Cond.instanceMethod (ix_nm 79) ∈ Tw := tw_3 (List.mem_of_getElem? (i := 68) rfl) rfl
theorem wi_80 : Cond.instanceMethod (ix_nm 80) ∈ Tw := tw_3 (List.mem_of_getElem? (i := 122) rfl) rfl
theorem wi_81 : Cond.instanceMethod (ix_nm 81) ∈ Tw := tw_1 (List.mem_of_getElem? (i := 67) rfl) rfl
theorem wi_82 : Cond.instanceMethod (ix_nm 82) ∈ Tw := tw_2 (List.mem_of_getElem? (i := 66) rfl) rfl
theorem wi_83 : Cond.instanceMethod (ix_nm 83) ∈ Tw := tw_2 (List.mem_of_getElem? (i := 74) rfl) rfl
theorem wi_84 : Cond.static (ix_nm 84) ∈ Tw := tw_2 (List.mem_of_getElem? (i := 78) rfl) rfl
theorem wi_85 : Cond.instanceMethod (ix_nm 85) ∈ Tw := tw_2 (List.mem_of_getElem? (i := 90) rfl) rfl
theorem wi_86 : Cond.instanceMethod (ix_nm 86) ∈ Tw := tw_2 (List.mem_of_getElem? (i := 98) rfl) rfl
theorem wi_87 : Cond.instanceMethod (ix_nm 87) ∈ Tw := tw_2 (List.mem_of_getElem? (i := 102) rfl) rfl
theorem wi_88 : Cond.instanceMethod (ix_nm 88) ∈ Tw := tw_2 (List.mem_of_getElem? (i := 106) rfl) rfl
theorem wi_89 : Cond.instanceMethod (ix_nm 89) ∈ Tw := tw_2 (List.mem_of_getElem? (i := 95) rfl) rfl
theorem wi_90 : Cond.instanceMethod (ix_nm 90) ∈ Tw := tw_2 (List.mem_of_getElem? (i := 110) rfl) rfl
theorem wi_91 : Cond.instanceMethod (ix_nm 91) ∈ Tw := tw_2 (List.mem_of_getElem? (i := 115) rfl) rfl
theorem wi_92 : Cond.instanceMethod (ix_nm 92) ∈ Tw := tw_2 (List.mem_of_getElem? (i := 126) rfl) rfl
theorem wi_93 : Cond.instanceMethod (ix_nm 93) ∈ Tw := tw_2 (List.mem_of_getElem? (i := 131) rfl) rfl
theorem wi_94 : Cond.instanceMethod (ix_nm 94) ∈ Tw := tw_3 (List.mem_of_getElem? (i := 182) rfl) rfl
theorem wi_95 : Cond.static (ix_nm 95) ∈ Tw := tw_4 (List.mem_of_getElem? (i := 46) rfl) rfl
theorem wi_96 : Cond.instanceMethod (ix_nm 96) ∈ Tw := tw_4 (List.mem_of_getElem? (i := 42) rfl) rfl
theorem wi_97 : Cond.instanceMethod (ix_nm 97) ∈ Tw := tw_4 (List.mem_of_getElem? (i := 49) rfl) rfl
theorem wi_98 : Cond.static (ix_nm 98) ∈ Tw := tw_4 (List.mem_of_getElem? (i := 58) rfl) rfl
theorem wi_99 : Cond.instanceMethod (ix_nm 99) ∈ Tw := tw_4 (List.mem_of_getElem? (i := 54) rfl) rfl
theorem wi_100 : Cond.instanceMethod (ix_nm 100) ∈ Tw := tw_4 (List.mem_of_getElem? (i := 72) rfl) rfl
theorem wi_101 : Cond.instanceMethod (ix_nm 101) ∈ Tw := tw_4 (List.mem_of_getElem? (i := 68) rfl) rfl
theorem wi_102 : Cond.instanceMethod (ix_nm 102) ∈ Tw := tw_4 (List.mem_of_getElem? (i := 63) rfl) rfl
theorem wi_103 : Cond.instanceMethod (ix_nm 103) ∈ Tw := tw_4 (List.mem_of_getElem? (i := 75) rfl) rfl
theorem wi_104 : Cond.instanceMethod (ix_nm 104) ∈ Tw := tw_4 (List.mem_of_getElem? (i := 89) rfl) rfl
theorem wi_105 : Cond.instanceMethod (ix_nm 105) ∈ Tw := tw_4 (List.mem_of_getElem? (i := 85) rfl) rfl
theorem wi_106 : Cond.instanceMethod (ix_nm 106) ∈ Tw := tw_4 (List.mem_of_getElem? (i := 80) rfl) rfl
theorem wi_107 : Cond.instanceMethod (ix_nm 107) ∈ Tw := tw_4 (List.mem_of_getElem? (i := 105) rfl) rfl
theorem wi_108 : Cond.instanceMethod (ix_nm 108) ∈ Tw := tw_4 (List.mem_of_getElem? (i := 101) rfl) rfl
theorem wi_109 : Cond.instanceMethod (ix_nm 109) ∈ Tw := tw_4 (List.mem_of_getElem? (i := 97) rfl) rfl
theorem wi_110 : Cond.instanceMethod (ix_nm 110) ∈ Tw := tw_4 (List.mem_of_getElem? (i := 132) rfl) rfl
theorem wi_111 : Cond.instanceMethod (ix_nm 111) ∈ Tw := tw_4 (List.mem_of_getElem? (i := 120) rfl) rfl
theorem wi_112 : Cond.instanceMethod (ix_nm 112) ∈ Tw := tw_4 (List.mem_of_getElem? (i := 116) rfl) rfl
theorem wi_113 : Cond.instanceMethod (ix_nm 113) ∈ Tw := tw_4 (List.mem_of_getElem? (i := 124) rfl) rfl
theorem wi_114 : Cond.instanceMethod (ix_nm 114) ∈ Tw := tw_4 (List.mem_of_getElem? (i := 148) rfl) rfl
theorem wi_115 : Cond.instanceMethod (ix_nm 115) ∈ Tw := tw_4 (List.mem_of_getElem? (i := 140) rfl) rfl
theorem wi_116 : Cond.instanceMethod (ix_nm 116) ∈ Tw := tw_4 (List.mem_of_getElem? (i := 152) rfl) rfl
theorem wi_117 : Cond.instanceMethod (ix_nm 117) ∈ Tw := tw_4 (List.mem_of_getElem? (i := 160) rfl) rfl
theorem wi_118 : Cond.instanceMethod (ix_nm 118) ∈ Tw := tw_4 (List.mem_of_getElem? (i := 156) rfl) rfl
theorem wi_119 : Cond.static (ix_nm 119) ∈ Tw := tw_4 (List.mem_of_getElem? (i := 167) rfl) rfl
theorem wi_120 : Cond.instanceMethod (ix_nm 120) ∈ Tw := tw_4 (List.mem_of_getElem? (i := 164) rfl) rfl
theorem wi_121 : Cond.instanceMethod (ix_nm 121) ∈ Tw := tw_4 (List.mem_of_getElem? (i := 199) rfl) rfl
theorem wi_122 : Cond.instanceMethod (ix_nm 122) ∈ Tw := tw_4 (List.mem_of_getElem? (i := 136) rfl) rfl
theorem wi_123 : Cond.instanceMethod (ix_nm 123) ∈ Tw := tw_4 (List.mem_of_getElem? (i := 144) rfl) rfl
theorem wi_124 : Cond.instanceMethod (ix_nm 124) ∈ Tw := tw_4 (List.mem_of_getElem? (i := 92) rfl) rfl
theorem wi_125 : Cond.instanceMethod (ix_nm 125) ∈ Tw := tw_4 (List.mem_of_getElem? (i := 127) rfl) rfl
theorem wi_126 : Cond.instanceMethod (ix_nm 126) ∈ Tw := tw_4 (List.mem_of_getElem? (i := 170) rfl) rfl
theorem wi_127 : Cond.instanceMethod (ix_nm 127) ∈ Tw := tw_4 (List.mem_of_getElem? (i := 174) rfl) rfl
theorem wi_128 : Cond.instanceMethod (ix_nm 128) ∈ Tw := tw_4 (List.mem_of_getElem? (i := 178) rfl) rfl
theorem wi_129 : Cond.instanceMethod (ix_nm 129) ∈ Tw := tw_4 (List.mem_of_getElem? (i := 191) rfl) rfl
theorem wi_130 : Cond.instanceMethod (ix_nm 130) ∈ Tw := tw_4 (List.mem_of_getElem? (i := 187) rfl) rfl
theorem wi_131 : Cond.instanceMethod (ix_nm 131) ∈ Tw := tw_4 (List.mem_of_getElem? (i := 195) rfl) rfl
theorem wi_132 : Cond.instanceMethod (ix_nm 132) ∈ Tw := tw_4 (List.mem_of_getElem? (i := 182) rfl) rfl
theorem wi_133 : Cond.instanceMethod (ix_nm 133) ∈ Tw := tw_4 (List.mem_of_getElem? (i := 202) rfl) rfl
theorem wi_134 : Cond.instanceMethod (ix_nm 134) ∈ Tw := tw_4 (List.mem_of_getElem? (i := 206) rfl) rfl
theorem wi_135 : Cond.instanceMethod (ix_nm 135) ∈ Tw := tw_4 (List.mem_of_getElem? (i := 210) rfl) rfl
theorem wi_136 : Cond.instanceMethod (ix_nm 136) ∈ Tw := tw_4 (List.mem_of_getElem? (i := 214) rfl) rfl
theorem wi_137 : Cond.instanceMethod (ix_nm 137) ∈ Tw := tw_4 (List.mem_of_getElem? (i := 111) rfl) rfl
theorem wi_138 : Cond.instanceMethod (ix_nm 138) ∈ Tw := tw_4 (List.mem_of_getElem? (i := 219) rfl) rfl
theorem wi_139 : Cond.instanceMethod (ix_nm 139) ∈ Tw := tw_4 (List.mem_of_getElem? (i := 223) rfl) rfl
theorem wi_140 : Cond.static (ix_nm 140) ∈ Tw := tw_3 (List.mem_of_getElem? (i := 177) rfl) rfl
theorem wn_0 : Cond.initialized "ForkedInvites" ∈ Tw := tw_1 (List.mem_of_getElem? (i := 1) rfl) rfl
theorem wn_1 : Cond.initialized "ForkedInvites$Binding" ∈ Tw := tw_1 (List.mem_of_getElem? (i := 6) rfl) rfl
theorem wn_2 : Cond.initialized "ForkedInvites$Branch" ∈ Tw := tw_1 (List.mem_of_getElem? (i := 10) rfl) rfl
theorem wn_3 : Cond.initialized "ForkedInvites$Call" ∈ Tw := tw_1 (List.mem_of_getElem? (i := 7) rfl) rfl
theorem wn_4 : Cond.initialized "ForkedInvites$Clock" ∈ Tw := tw_1 (List.mem_of_getElem? (i := 2) rfl) rfl
theorem wn_5 : Cond.initialized "ForkedInvites$MessageLog" ∈ Tw := tw_1 (List.mem_of_getElem? (i := 4) rfl) rfl
theorem wn_6 : Cond.initialized "ForkedInvites$Server" ∈ Tw := tw_1 (List.mem_of_getElem? (i := 8) rfl) rfl
theorem wn_7 : Cond.initialized "ForkedInvites$Timer" ∈ Tw := tw_1 (List.mem_of_getElem? (i := 9) rfl) rfl
theorem wn_8 : Cond.initialized "ForkedInvites$User" ∈ Tw := tw_1 (List.mem_of_getElem? (i := 5) rfl) rfl
theorem wn_9 : Cond.initialized "ForkedInvitesModel" ∈ Tw := tw_1 (List.mem_of_getElem? (i := 11) rfl) rfl
theorem wn_10 : Cond.initialized "ForkedInvitesLaw" ∈ Tw := tw_1 (List.mem_of_getElem? (i := 0) rfl) rfl
theorem wsl_1 : Cond.selects (ix_nm 1).cls (ix_nm 1) (ix_nm 1) ∈ Tw := tw_2 (List.mem_of_getElem? (i := 54) rfl) rfl
theorem wsl_2 : Cond.selects (ix_nm 2).cls (ix_nm 2) (ix_nm 2) ∈ Tw := tw_2 (List.mem_of_getElem? (i := 62) rfl) rfl
theorem wsl_3 : Cond.selects (ix_nm 3).cls (ix_nm 3) (ix_nm 3) ∈ Tw := tw_2 (List.mem_of_getElem? (i := 71) rfl) rfl
theorem wsl_4 : Cond.selects (ix_nm 4).cls (ix_nm 4) (ix_nm 4) ∈ Tw := tw_2 (List.mem_of_getElem? (i := 84) rfl) rfl
theorem wsl_5 : Cond.selects (ix_nm 5).cls (ix_nm 5) (ix_nm 5) ∈ Tw := tw_2 (List.mem_of_getElem? (i := 119) rfl) rfl
theorem wsl_6 : Cond.selects (ix_nm 6).cls (ix_nm 6) (ix_nm 6) ∈ Tw := tw_2 (List.mem_of_getElem? (i := 123) rfl) rfl
theorem wsl_7 : Cond.selects (ix_nm 7).cls (ix_nm 7) (ix_nm 7) ∈ Tw := tw_2 (List.mem_of_getElem? (i := 135) rfl) rfl
theorem wsl_8 : Cond.selects (ix_nm 8).cls (ix_nm 8) (ix_nm 8) ∈ Tw := tw_2 (List.mem_of_getElem? (i := 220) rfl) rfl
theorem wsl_9 : Cond.selects (ix_nm 9).cls (ix_nm 9) (ix_nm 9) ∈ Tw := tw_3 (List.mem_of_getElem? (i := 65) rfl) rfl
theorem wsl_10 : Cond.selects (ix_nm 10).cls (ix_nm 10) (ix_nm 10) ∈ Tw := tw_3 (List.mem_of_getElem? (i := 74) rfl) rfl
theorem wsl_11 : Cond.selects (ix_nm 11).cls (ix_nm 11) (ix_nm 11) ∈ Tw := tw_3 (List.mem_of_getElem? (i := 79) rfl) rfl
theorem wsl_12 : Cond.selects (ix_nm 12).cls (ix_nm 12) (ix_nm 12) ∈ Tw := tw_3 (List.mem_of_getElem? (i := 87) rfl) rfl
theorem wsl_13 : Cond.selects (ix_nm 13).cls (ix_nm 13) (ix_nm 13) ∈ Tw := tw_3 (List.mem_of_getElem? (i := 148) rfl) rfl
theorem wsl_14 : Cond.selects (ix_nm 14).cls (ix_nm 14) (ix_nm 14) ∈ Tw := tw_3 (List.mem_of_getElem? (i := 152) rfl) rfl
theorem wsl_15 : Cond.selects (ix_nm 15).cls (ix_nm 15) (ix_nm 15) ∈ Tw := tw_3 (List.mem_of_getElem? (i := 156) rfl) rfl
theorem wsl_16 : Cond.selects (ix_nm 16).cls (ix_nm 16) (ix_nm 16) ∈ Tw := tw_3 (List.mem_of_getElem? (i := 160) rfl) rfl
theorem wsl_17 : Cond.selects (ix_nm 17).cls (ix_nm 17) (ix_nm 17) ∈ Tw := tw_2 (List.mem_of_getElem? (i := 170) rfl) rfl
theorem wsl_18 : Cond.selects (ix_nm 18).cls (ix_nm 18) (ix_nm 18) ∈ Tw := tw_3 (List.mem_of_getElem? (i := 165) rfl) rfl
theorem wsl_19 : Cond.selects (ix_nm 19).cls (ix_nm 19) (ix_nm 19) ∈ Tw := tw_3 (List.mem_of_getElem? (i := 169) rfl) rfl
theorem wsl_20 : Cond.selects (ix_nm 20).cls (ix_nm 20) (ix_nm 20) ∈ Tw := tw_s (q := (ix_nm 20, 5)) (List.mem_append_left _ (List.mem_of_getElem? (i := 0) rfl))
theorem wsl_21 : Cond.selects (ix_nm 21).cls (ix_nm 21) (ix_nm 21) ∈ Tw := tw_s (q := (ix_nm 21, 5)) (List.mem_append_left _ (List.mem_of_getElem? (i := 9) rfl))
theorem wsl_22 : Cond.selects (ix_nm 22).cls (ix_nm 22) (ix_nm 22) ∈ Tw := tw_s (q := (ix_nm 22, 5)) (List.mem_append_left _ (List.mem_of_getElem? (i := 8) rfl))
theorem wsl_24 : Cond.selects (ix_nm 24).cls (ix_nm 24) (ix_nm 24) ∈ Tw := tw_s (q := (ix_nm 24, 5)) (List.mem_append_left _ (List.mem_of_getElem? (i := 4) rfl))
theorem wsl_25 : Cond.selects (ix_nm 25).cls (ix_nm 25) (ix_nm 25) ∈ Tw := tw_s (q := (ix_nm 25, 5)) (List.mem_append_left _ (List.mem_of_getElem? (i := 5) rfl))
theorem wsl_26 : Cond.selects (ix_nm 26).cls (ix_nm 26) (ix_nm 26) ∈ Tw := tw_s (q := (ix_nm 26, 5)) (List.mem_append_right _ (List.mem_append_left _ (List.mem_of_getElem? (i := 0) rfl)))
theorem wsl_27 : Cond.selects (ix_nm 27).cls (ix_nm 27) (ix_nm 27) ∈ Tw := tw_s (q := (ix_nm 27, 5)) (List.mem_append_right _ (List.mem_append_left _ (List.mem_of_getElem? (i := 1) rfl)))
theorem wsl_30 : Cond.selects (ix_nm 30).cls (ix_nm 30) (ix_nm 30) ∈ Tw := tw_2 (List.mem_of_getElem? (i := 193) rfl) rfl
theorem wsl_31 : Cond.selects (ix_nm 31).cls (ix_nm 31) (ix_nm 31) ∈ Tw := tw_2 (List.mem_of_getElem? (i := 202) rfl) rfl
theorem wsl_32 : Cond.selects (ix_nm 32).cls (ix_nm 32) (ix_nm 32) ∈ Tw := tw_3 (List.mem_of_getElem? (i := 1) rfl) rfl
theorem wsl_33 : Cond.selects (ix_nm 33).cls (ix_nm 33) (ix_nm 33) ∈ Tw := tw_3 (List.mem_of_getElem? (i := 5) rfl) rfl
theorem wsl_34 : Cond.selects (ix_nm 34).cls (ix_nm 34) (ix_nm 34) ∈ Tw := tw_3 (List.mem_of_getElem? (i := 10) rfl) rfl
theorem wsl_35 : Cond.selects (ix_nm 35).cls (ix_nm 35) (ix_nm 35) ∈ Tw := tw_3 (List.mem_of_getElem? (i := 18) rfl) rfl
theorem wsl_36 : Cond.selects (ix_nm 36).cls (ix_nm 36) (ix_nm 36) ∈ Tw := tw_3 (List.mem_of_getElem? (i := 46) rfl) rfl
theorem wsl_37 : Cond.selects (ix_nm 37).cls (ix_nm 37) (ix_nm 37) ∈ Tw := tw_3 (List.mem_of_getElem? (i := 42) rfl) rfl
theorem wsl_38 : Cond.selects (ix_nm 38).cls (ix_nm 38) (ix_nm 38) ∈ Tw := tw_s (q := (ix_nm 38, 16)) (List.mem_append_right _ (List.mem_append_left _ (List.mem_of_getElem? (i := 2) rfl)))
theorem wsl_39 : Cond.selects (ix_nm 39).cls (ix_nm 39) (ix_nm 39) ∈ Tw := tw_s (q := (ix_nm 39, 16)) (List.mem_append_left _ (List.mem_of_getElem? (i := 7) rfl))
theorem wsl_40 : Cond.selects (ix_nm 40).cls (ix_nm 40) (ix_nm 40) ∈ Tw := tw_3 (List.mem_of_getElem? (i := 133) rfl) rfl
theorem wsl_41 : Cond.selects (ix_nm 41).cls (ix_nm 41) (ix_nm 41) ∈ Tw := tw_3 (List.mem_of_getElem? (i := 105) rfl) rfl
theorem wsl_43 : Cond.selects (ix_nm 43).cls (ix_nm 43) (ix_nm 43) ∈ Tw := tw_2 (List.mem_of_getElem? (i := 139) rfl) rfl
theorem wsl_44 : Cond.selects (ix_nm 44).cls (ix_nm 44) (ix_nm 44) ∈ Tw := tw_2 (List.mem_of_getElem? (i := 143) rfl) rfl
theorem wsl_45 : Cond.selects (ix_nm 45).cls (ix_nm 45) (ix_nm 45) ∈ Tw := tw_2 (List.mem_of_getElem? (i := 211) rfl) rfl
theorem wsl_46 : Cond.selects (ix_nm 46).cls (ix_nm 46) (ix_nm 46) ∈ Tw := tw_2 (List.mem_of_getElem? (i := 176) rfl) rfl
theorem wsl_47 : Cond.selects (ix_nm 47).cls (ix_nm 47) (ix_nm 47) ∈ Tw := tw_3 (List.mem_of_getElem? (i := 34) rfl) rfl
theorem wsl_48 : Cond.selects (ix_nm 48).cls (ix_nm 48) (ix_nm 48) ∈ Tw := tw_2 (List.mem_of_getElem? (i := 232) rfl) rfl
theorem wsl_49 : Cond.selects (ix_nm 49).cls (ix_nm 49) (ix_nm 49) ∈ Tw := tw_s (q := (ix_nm 49, 5)) (List.mem_append_left _ (List.mem_of_getElem? (i := 10) rfl))
theorem wsl_50 : Cond.selects (ix_nm 50).cls (ix_nm 50) (ix_nm 50) ∈ Tw := tw_s (q := (ix_nm 50, 5)) (List.mem_append_left _ (List.mem_of_getElem? (i := 11) rfl))
theorem wsl_51 : Cond.selects (ix_nm 51).cls (ix_nm 51) (ix_nm 51) ∈ Tw := tw_s (q := (ix_nm 51, 5)) (List.mem_append_left _ (List.mem_of_getElem? (i := 13) rfl))
theorem wsl_52 : Cond.selects (ix_nm 52).cls (ix_nm 52) (ix_nm 52) ∈ Tw := tw_s (q := (ix_nm 52, 5)) (List.mem_append_left _ (List.mem_of_getElem? (i := 12) rfl))
theorem wsl_53 : Cond.selects (ix_nm 53).cls (ix_nm 53) (ix_nm 53) ∈ Tw := tw_s (q := (ix_nm 53, 5)) (List.mem_append_left _ (List.mem_of_getElem? (i := 14) rfl))
theorem wsl_54 : Cond.selects (ix_nm 54).cls (ix_nm 54) (ix_nm 54) ∈ Tw := tw_s (q := (ix_nm 54, 5)) (List.mem_append_left _ (List.mem_of_getElem? (i := 15) rfl))
theorem wsl_57 : Cond.selects (ix_nm 57).cls (ix_nm 57) (ix_nm 57) ∈ Tw := tw_3 (List.mem_of_getElem? (i := 115) rfl) rfl
theorem wsl_58 : Cond.selects (ix_nm 58).cls (ix_nm 58) (ix_nm 58) ∈ Tw := tw_3 (List.mem_of_getElem? (i := 96) rfl) rfl
theorem wsl_61 : Cond.selects (ix_nm 61).cls (ix_nm 61) (ix_nm 61) ∈ Tw := tw_2 (List.mem_of_getElem? (i := 155) rfl) rfl
theorem wsl_62 : Cond.selects (ix_nm 62).cls (ix_nm 62) (ix_nm 62) ∈ Tw := tw_3 (List.mem_of_getElem? (i := 173) rfl) rfl
theorem wsl_64 : Cond.selects (ix_nm 64).cls (ix_nm 64) (ix_nm 64) ∈ Tw := tw_2 (List.mem_of_getElem? (i := 180) rfl) rfl
theorem wsl_65 : Cond.selects (ix_nm 65).cls (ix_nm 65) (ix_nm 65) ∈ Tw := tw_2 (List.mem_of_getElem? (i := 151) rfl) rfl
theorem wsl_66 : Cond.selects (ix_nm 66).cls (ix_nm 66) (ix_nm 66) ∈ Tw := tw_3 (List.mem_of_getElem? (i := 26) rfl) rfl
theorem wsl_67 : Cond.selects (ix_nm 67).cls (ix_nm 67) (ix_nm 67) ∈ Tw := tw_2 (List.mem_of_getElem? (i := 147) rfl) rfl
theorem wsl_68 : Cond.selects (ix_nm 68).cls (ix_nm 68) (ix_nm 68) ∈ Tw := tw_3 (List.mem_of_getElem? (i := 30) rfl) rfl
theorem wsl_69 : Cond.selects (ix_nm 69).cls (ix_nm 69) (ix_nm 69) ∈ Tw := tw_2 (List.mem_of_getElem? (i := 215) rfl) rfl
theorem wsl_70 : Cond.selects (ix_nm 70).cls (ix_nm 70) (ix_nm 70) ∈ Tw := tw_3 (List.mem_of_getElem? (i := 83) rfl) rfl
theorem wsl_71 : Cond.selects (ix_nm 71).cls (ix_nm 71) (ix_nm 71) ∈ Tw := tw_s (q := (ix_nm 71, 9)) (List.mem_append_left _ (List.mem_of_getElem? (i := 6) rfl))
theorem wsl_72 : Cond.selects (ix_nm 72).cls (ix_nm 72) (ix_nm 72) ∈ Tw := tw_3 (List.mem_of_getElem? (i := 119) rfl) rfl
theorem wsl_73 : Cond.selects (ix_nm 73).cls (ix_nm 73) (ix_nm 73) ∈ Tw := tw_3 (List.mem_of_getElem? (i := 100) rfl) rfl
theorem wsl_75 : Cond.selects (ix_nm 75).cls (ix_nm 75) (ix_nm 75) ∈ Tw := tw_2 (List.mem_of_getElem? (i := 207) rfl) rfl
theorem wsl_76 : Cond.selects (ix_nm 76).cls (ix_nm 76) (ix_nm 76) ∈ Tw := tw_3 (List.mem_of_getElem? (i := 138) rfl) rfl
theorem wsl_77 : Cond.selects (ix_nm 77).cls (ix_nm 77) (ix_nm 77) ∈ Tw := tw_3 (List.mem_of_getElem? (i := 127) rfl) rfl
theorem wsl_78 : Cond.selects (ix_nm 78).cls (ix_nm 78) (ix_nm 78) ∈ Tw := tw_2 (List.mem_of_getElem? (i := 188) rfl) rfl
theorem wsl_79 : Cond.selects (ix_nm 79).cls (ix_nm 79) (ix_nm 79) ∈ Tw := tw_3 (List.mem_of_getElem? (i := 69) rfl) rfl
theorem wsl_80 : Cond.selects (ix_nm 80).cls (ix_nm 80) (ix_nm 80) ∈ Tw := tw_3 (List.mem_of_getElem? (i := 123) rfl) rfl
theorem wsl_82 : Cond.selects (ix_nm 82).cls (ix_nm 82) (ix_nm 82) ∈ Tw := tw_2 (List.mem_of_getElem? (i := 67) rfl) rfl
theorem wsl_83 : Cond.selects (ix_nm 83).cls (ix_nm 83) (ix_nm 83) ∈ Tw := tw_2 (List.mem_of_getElem? (i := 75) rfl) rfl
theorem wsl_85 : Cond.selects (ix_nm 85).cls (ix_nm 85) (ix_nm 85) ∈ Tw := tw_2 (List.mem_of_getElem? (i := 91) rfl) rfl
theorem wsl_86 : Cond.selects (ix_nm 86).cls (ix_nm 86) (ix_nm 86) ∈ Tw := tw_2 (List.mem_of_getElem? (i := 99) rfl) rfl
theorem wsl_87 : Cond.selects (ix_nm 87).cls (ix_nm 87) (ix_nm 87) ∈ Tw := tw_2 (List.mem_of_getElem? (i := 103) rfl) rfl
theorem wsl_88 : Cond.selects (ix_nm 88).cls (ix_nm 88) (ix_nm 88) ∈ Tw := tw_2 (List.mem_of_getElem? (i := 107) rfl) rfl
theorem wsl_89 : Cond.selects (ix_nm 89).cls (ix_nm 89) (ix_nm 89) ∈ Tw := tw_s (q := (ix_nm 89, 9)) (List.mem_append_left _ (List.mem_of_getElem? (i := 1) rfl))
theorem wsl_90 : Cond.selects (ix_nm 90).cls (ix_nm 90) (ix_nm 90) ∈ Tw := tw_2 (List.mem_of_getElem? (i := 111) rfl) rfl
theorem wsl_91 : Cond.selects (ix_nm 91).cls (ix_nm 91) (ix_nm 91) ∈ Tw := tw_s (q := (ix_nm 91, 9)) (List.mem_append_left _ (List.mem_of_getElem? (i := 2) rfl))
theorem wsl_92 : Cond.selects (ix_nm 92).cls (ix_nm 92) (ix_nm 92) ∈ Tw := tw_2 (List.mem_of_getElem? (i := 127) rfl) rfl
theorem wsl_93 : Cond.selects (ix_nm 93).cls (ix_nm 93) (ix_nm 93) ∈ Tw := tw_s (q := (ix_nm 93, 9)) (List.mem_append_left _ (List.mem_of_getElem? (i := 3) rfl))
theorem wsl_96 : Cond.selects (ix_nm 96).cls (ix_nm 96) (ix_nm 96) ∈ Tw := tw_4 (List.mem_of_getElem? (i := 43) rfl) rfl
theorem wsl_97 : Cond.selects (ix_nm 97).cls (ix_nm 97) (ix_nm 97) ∈ Tw := tw_4 (List.mem_of_getElem? (i := 50) rfl) rfl
theorem wsl_99 : Cond.selects (ix_nm 99).cls (ix_nm 99) (ix_nm 99) ∈ Tw := tw_4 (List.mem_of_getElem? (i := 55) rfl) rfl
theorem wsl_100 : Cond.selects (ix_nm 100).cls (ix_nm 100) (ix_nm 100) ∈ Tw := tw_s (q := (ix_nm 100, 31)) (List.mem_append_right _ (List.mem_append_left _ (List.mem_of_getElem? (i := 4) rfl)))
theorem wsl_101 : Cond.selects (ix_nm 101).cls (ix_nm 101) (ix_nm 101) ∈ Tw := tw_s (q := (ix_nm 101, 31)) (List.mem_append_right _ (List.mem_append_left _ (List.mem_of_getElem? (i := 3) rfl)))
theorem wsl_102 : Cond.selects (ix_nm 102).cls (ix_nm 102) (ix_nm 102) ∈ Tw := tw_4 (List.mem_of_getElem? (i := 64) rfl) rfl
theorem wsl_103 : Cond.selects (ix_nm 103).cls (ix_nm 103) (ix_nm 103) ∈ Tw := tw_4 (List.mem_of_getElem? (i := 76) rfl) rfl
theorem wsl_104 : Cond.selects (ix_nm 104).cls (ix_nm 104) (ix_nm 104) ∈ Tw := tw_s (q := (ix_nm 104, 31)) (List.mem_append_right _ (List.mem_append_left _ (List.mem_of_getElem? (i := 6) rfl)))
theorem wsl_105 : Cond.selects (ix_nm 105).cls (ix_nm 105) (ix_nm 105) ∈ Tw := tw_s (q := (ix_nm 105, 31)) (List.mem_append_right _ (List.mem_append_left _ (List.mem_of_getElem? (i := 5) rfl)))
theorem wsl_106 : Cond.selects (ix_nm 106).cls (ix_nm 106) (ix_nm 106) ∈ Tw := tw_4 (List.mem_of_getElem? (i := 81) rfl) rfl
theorem wsl_107 : Cond.selects (ix_nm 107).cls (ix_nm 107) (ix_nm 107) ∈ Tw := tw_s (q := (ix_nm 107, 31)) (List.mem_append_right _ (List.mem_append_left _ (List.mem_of_getElem? (i := 9) rfl)))
theorem wsl_108 : Cond.selects (ix_nm 108).cls (ix_nm 108) (ix_nm 108) ∈ Tw := tw_s (q := (ix_nm 108, 31)) (List.mem_append_right _ (List.mem_append_left _ (List.mem_of_getElem? (i := 8) rfl)))
theorem wsl_109 : Cond.selects (ix_nm 109).cls (ix_nm 109) (ix_nm 109) ∈ Tw := tw_s (q := (ix_nm 109, 31)) (List.mem_append_right _ (List.mem_append_left _ (List.mem_of_getElem? (i := 7) rfl)))
theorem wsl_110 : Cond.selects (ix_nm 110).cls (ix_nm 110) (ix_nm 110) ∈ Tw := tw_s (q := (ix_nm 110, 31)) (List.mem_append_right _ (List.mem_append_left _ (List.mem_of_getElem? (i := 13) rfl)))
theorem wsl_111 : Cond.selects (ix_nm 111).cls (ix_nm 111) (ix_nm 111) ∈ Tw := tw_s (q := (ix_nm 111, 31)) (List.mem_append_right _ (List.mem_append_left _ (List.mem_of_getElem? (i := 11) rfl)))
theorem wsl_112 : Cond.selects (ix_nm 112).cls (ix_nm 112) (ix_nm 112) ∈ Tw := tw_s (q := (ix_nm 112, 31)) (List.mem_append_right _ (List.mem_append_left _ (List.mem_of_getElem? (i := 10) rfl)))
theorem wsl_113 : Cond.selects (ix_nm 113).cls (ix_nm 113) (ix_nm 113) ∈ Tw := tw_s (q := (ix_nm 113, 31)) (List.mem_append_right _ (List.mem_append_left _ (List.mem_of_getElem? (i := 12) rfl)))
theorem wsl_114 : Cond.selects (ix_nm 114).cls (ix_nm 114) (ix_nm 114) ∈ Tw := tw_s (q := (ix_nm 114, 31)) (List.mem_append_right _ (List.mem_append_right _ (List.mem_of_getElem? (i := 1) rfl)))
theorem wsl_115 : Cond.selects (ix_nm 115).cls (ix_nm 115) (ix_nm 115) ∈ Tw := tw_s (q := (ix_nm 115, 31)) (List.mem_append_right _ (List.mem_append_left _ (List.mem_of_getElem? (i := 15) rfl)))
theorem wsl_116 : Cond.selects (ix_nm 116).cls (ix_nm 116) (ix_nm 116) ∈ Tw := tw_s (q := (ix_nm 116, 31)) (List.mem_append_right _ (List.mem_append_right _ (List.mem_of_getElem? (i := 2) rfl)))
theorem wsl_117 : Cond.selects (ix_nm 117).cls (ix_nm 117) (ix_nm 117) ∈ Tw := tw_s (q := (ix_nm 117, 31)) (List.mem_append_right _ (List.mem_append_right _ (List.mem_of_getElem? (i := 4) rfl)))
theorem wsl_118 : Cond.selects (ix_nm 118).cls (ix_nm 118) (ix_nm 118) ∈ Tw := tw_s (q := (ix_nm 118, 31)) (List.mem_append_right _ (List.mem_append_right _ (List.mem_of_getElem? (i := 3) rfl)))
theorem wsl_120 : Cond.selects (ix_nm 120).cls (ix_nm 120) (ix_nm 120) ∈ Tw := tw_s (q := (ix_nm 120, 31)) (List.mem_append_right _ (List.mem_append_right _ (List.mem_of_getElem? (i := 5) rfl)))
theorem wsl_121 : Cond.selects (ix_nm 121).cls (ix_nm 121) (ix_nm 121) ∈ Tw := tw_s (q := (ix_nm 121, 31)) (List.mem_append_right _ (List.mem_append_right _ (List.mem_of_getElem? (i := 9) rfl)))
theorem wsl_122 : Cond.selects (ix_nm 122).cls (ix_nm 122) (ix_nm 122) ∈ Tw := tw_s (q := (ix_nm 122, 31)) (List.mem_append_right _ (List.mem_append_left _ (List.mem_of_getElem? (i := 14) rfl)))
theorem wsl_123 : Cond.selects (ix_nm 123).cls (ix_nm 123) (ix_nm 123) ∈ Tw := tw_s (q := (ix_nm 123, 31)) (List.mem_append_right _ (List.mem_append_right _ (List.mem_of_getElem? (i := 0) rfl)))
theorem wsl_124 : Cond.selects (ix_nm 124).cls (ix_nm 124) (ix_nm 124) ∈ Tw := tw_4 (List.mem_of_getElem? (i := 93) rfl) rfl
theorem wsl_125 : Cond.selects (ix_nm 125).cls (ix_nm 125) (ix_nm 125) ∈ Tw := tw_4 (List.mem_of_getElem? (i := 128) rfl) rfl
theorem wsl_126 : Cond.selects (ix_nm 126).cls (ix_nm 126) (ix_nm 126) ∈ Tw := tw_4 (List.mem_of_getElem? (i := 171) rfl) rfl
theorem wsl_127 : Cond.selects (ix_nm 127).cls (ix_nm 127) (ix_nm 127) ∈ Tw := tw_4 (List.mem_of_getElem? (i := 175) rfl) rfl
theorem wsl_128 : Cond.selects (ix_nm 128).cls (ix_nm 128) (ix_nm 128) ∈ Tw := tw_4 (List.mem_of_getElem? (i := 179) rfl) rfl
theorem wsl_129 : Cond.selects (ix_nm 129).cls (ix_nm 129) (ix_nm 129) ∈ Tw := tw_s (q := (ix_nm 129, 31)) (List.mem_append_right _ (List.mem_append_right _ (List.mem_of_getElem? (i := 7) rfl)))
theorem wsl_130 : Cond.selects (ix_nm 130).cls (ix_nm 130) (ix_nm 130) ∈ Tw := tw_s (q := (ix_nm 130, 31)) (List.mem_append_right _ (List.mem_append_right _ (List.mem_of_getElem? (i := 6) rfl)))
theorem wsl_131 : Cond.selects (ix_nm 131).cls (ix_nm 131) (ix_nm 131) ∈ Tw := tw_s (q := (ix_nm 131, 31)) (List.mem_append_right _ (List.mem_append_right _ (List.mem_of_getElem? (i := 8) rfl)))
theorem wsl_132 : Cond.selects (ix_nm 132).cls (ix_nm 132) (ix_nm 132) ∈ Tw := tw_4 (List.mem_of_getElem? (i := 183) rfl) rfl
theorem wsl_133 : Cond.selects (ix_nm 133).cls (ix_nm 133) (ix_nm 133) ∈ Tw := tw_4 (List.mem_of_getElem? (i := 203) rfl) rfl
theorem wsl_134 : Cond.selects (ix_nm 134).cls (ix_nm 134) (ix_nm 134) ∈ Tw := tw_4 (List.mem_of_getElem? (i := 207) rfl) rfl
theorem wsl_135 : Cond.selects (ix_nm 135).cls (ix_nm 135) (ix_nm 135) ∈ Tw := tw_4 (List.mem_of_getElem? (i := 211) rfl) rfl
theorem wsl_136 : Cond.selects (ix_nm 136).cls (ix_nm 136) (ix_nm 136) ∈ Tw := tw_4 (List.mem_of_getElem? (i := 215) rfl) rfl
theorem wsl_137 : Cond.selects (ix_nm 137).cls (ix_nm 137) (ix_nm 137) ∈ Tw := tw_4 (List.mem_of_getElem? (i := 112) rfl) rfl
theorem wsl_138 : Cond.selects (ix_nm 138).cls (ix_nm 138) (ix_nm 138) ∈ Tw := tw_4 (List.mem_of_getElem? (i := 220) rfl) rfl
theorem wsl_139 : Cond.selects (ix_nm 139).cls (ix_nm 139) (ix_nm 139) ∈ Tw := tw_4 (List.mem_of_getElem? (i := 224) rfl) rfl
theorem wo_i : Cond.instanceMethod objectInit ∈ Tw := tw_1 (List.mem_of_getElem? (i := 18) rfl) rfl
theorem wo_c : Cond.code objectInit ⟨#[0xb1]⟩ 1 none ∈ Tw := tw_1 (List.mem_of_getElem? (i := 19) rfl) rfl
theorem wm_n : Cond.initialized "java/lang/Math" ∈ Tw := tw_1 (List.mem_of_getElem? (i := 3) rfl) rfl
theorem wm_smax : Cond.static Lib.Math.max.name ∈ Tw := tw_1 (List.mem_of_getElem? (i := 26) rfl) rfl
theorem wm_cmax : Cond.code Lib.Math.max.name Lib.Math.max.code 2 (some .int) ∈ Tw := tw_1 (List.mem_of_getElem? (i := 27) rfl) rfl
theorem wm_smin : Cond.static Lib.Math.min.name ∈ Tw := tw_1 (List.mem_of_getElem? (i := 23) rfl) rfl
theorem wm_cmin : Cond.code Lib.Math.min.name Lib.Math.min.code 2 (some .int) ∈ Tw := tw_1 (List.mem_of_getElem? (i := 24) rfl) rfl
theorem pk_0_1 : ix_pk 0 1 9 0 1 := ⟨tw_1 (List.mem_of_getElem? (i := 17) rfl) rfl, wo_i, wo_c⟩
theorem pk_0_7 : ix_pk 0 7 4 4 0 := ⟨okc_4, tw_1 (List.mem_of_getElem? (i := 20) rfl) rfl, tw_1 (List.mem_of_getElem? (i := 21) rfl) rfl, wn_4, fun h => absurd rfl h⟩
theorem pk_0_9 : ix_pk 0 9 11 0 2 := ⟨tw_1 (List.mem_of_getElem? (i := 22) rfl) rfl, wm_smin, wm_n, wm_cmin⟩
theorem pk_0_15 : ix_pk 0 15 10 0 2 := ⟨tw_1 (List.mem_of_getElem? (i := 25) rfl) rfl, wm_smax, wm_n, wm_cmax⟩
theorem pk_0_18 : ix_pk 0 18 7 59 2 := ⟨by decide, rfl, rfl, rfl, tw_1 (List.mem_of_getElem? (i := 28) rfl) rfl, wi_59, wn_4⟩
theorem pk_0_21 : ix_pk 0 21 3 0 0 := ⟨okc_0, by decide, tw_2 (List.mem_of_getElem? (i := 36) rfl) rfl⟩
theorem pk_0_27 : ix_pk 0 27 4 5 0 := ⟨okc_5, tw_1 (List.mem_of_getElem? (i := 45) rfl) rfl, tw_1 (List.mem_of_getElem? (i := 46) rfl) rfl, wn_5, fun h => absurd rfl h⟩
theorem pk_0_29 : ix_pk 0 29 7 60 2 := ⟨by decide, rfl, rfl, rfl, tw_1 (List.mem_of_getElem? (i := 47) rfl) rfl, wi_60, wn_5⟩
theorem pk_0_32 : ix_pk 0 32 3 0 1 := ⟨okc_0, by decide, tw_2 (List.mem_of_getElem? (i := 37) rfl) rfl⟩
theorem pk_0_36 : ix_pk 0 36 4 8 103 := ⟨okc_8, tw_1 (List.mem_of_getElem? (i := 63) rfl) rfl, tw_1 (List.mem_of_getElem? (i := 65) rfl) rfl, wn_8, fun _ => ⟨by decide, by decide, rfl, by decide +kernel⟩⟩
theorem pk_0_38 : ix_pk 0 38 3 0 2 := ⟨okc_0, by decide, tw_2 (List.mem_of_getElem? (i := 38) rfl) rfl⟩
theorem pk_0_42 : ix_pk 0 42 7 81 2 := ⟨by decide, rfl, rfl, rfl, tw_1 (List.mem_of_getElem? (i := 66) rfl) rfl, wi_81, wn_8⟩
theorem pk_0_43 : ix_pk 0 43 4 3 104 := ⟨okc_3, tw_1 (List.mem_of_getElem? (i := 127) rfl) rfl, tw_1 (List.mem_of_getElem? (i := 129) rfl) rfl, wn_3, fun _ => ⟨by decide, by decide, rfl, by decide +kernel⟩⟩
theorem pk_0_45 : ix_pk 0 45 3 0 3 := ⟨okc_0, by decide, tw_2 (List.mem_of_getElem? (i := 39) rfl) rfl⟩
theorem pk_0_49 : ix_pk 0 49 7 42 4 := ⟨by decide, rfl, rfl, rfl, tw_1 (List.mem_of_getElem? (i := 130) rfl) rfl, wi_42, wn_3⟩
theorem pk_0_52 : ix_pk 0 52 3 0 4 := ⟨okc_0, by decide, tw_2 (List.mem_of_getElem? (i := 40) rfl) rfl⟩
theorem pk_0_56 : ix_pk 0 56 6 20 2 := ⟨by decide, rfl, okc_0, rfl, tw_2 (List.mem_of_getElem? (i := 56) rfl) rfl, wi_20, wsl_20, wn_0⟩
theorem pk_0_60 : ix_pk 0 60 3 8 1 := ⟨okc_8, by decide, tw_1 (List.mem_of_getElem? (i := 97) rfl) rfl⟩
theorem pk_0_63 : ix_pk 0 63 1 69069 0 := by (show Cond.constant "ForkedInvites" 63 (Int32.ofNat 69069) ∈ Tw); rw [show Int32.ofNat 69069 = (69069 : Int32) from by decide +kernel]; exact tw_2 (List.mem_of_getElem? (i := 64) rfl) rfl
theorem pk_0_64 : ix_pk 0 64 6 82 2 := ⟨by decide, rfl, okc_8, rfl, tw_2 (List.mem_of_getElem? (i := 65) rfl) rfl, wi_82, wsl_82, wn_8⟩
theorem pk_0_67 : ix_pk 0 67 6 83 3 := ⟨by decide, rfl, okc_8, rfl, tw_2 (List.mem_of_getElem? (i := 73) rfl) rfl, wi_83, wsl_83, wn_8⟩
theorem pk_0_71 : ix_pk 0 71 8 23 3 := ⟨by decide, rfl, tw_2 (List.mem_of_getElem? (i := 86) rfl) rfl, wi_23, wn_0⟩
theorem pk_0_75 : ix_pk 0 75 3 8 2 := ⟨okc_8, by decide, tw_1 (List.mem_of_getElem? (i := 100) rfl) rfl⟩
theorem pk_0_79 : ix_pk 0 79 6 85 1 := ⟨by decide, rfl, okc_8, rfl, tw_2 (List.mem_of_getElem? (i := 89) rfl) rfl, wi_85, wsl_85, wn_8⟩
theorem pk_0_82 : ix_pk 0 82 6 86 3 := ⟨by decide, rfl, okc_8, rfl, tw_2 (List.mem_of_getElem? (i := 97) rfl) rfl, wi_86, wsl_86, wn_8⟩
theorem pk_0_85 : ix_pk 0 85 6 87 1 := ⟨by decide, rfl, okc_8, rfl, tw_2 (List.mem_of_getElem? (i := 101) rfl) rfl, wi_87, wsl_87, wn_8⟩
theorem pk_0_88 : ix_pk 0 88 6 88 2 := ⟨by decide, rfl, okc_8, rfl, tw_2 (List.mem_of_getElem? (i := 105) rfl) rfl, wi_88, wsl_88, wn_8⟩
theorem pk_0_91 : ix_pk 0 91 6 90 5 := ⟨by decide, rfl, okc_8, rfl, tw_2 (List.mem_of_getElem? (i := 109) rfl) rfl, wi_90, wsl_90, wn_8⟩
theorem pk_0_95 : ix_pk 0 95 3 8 8 := ⟨okc_8, by decide, tw_1 (List.mem_of_getElem? (i := 107) rfl) rfl⟩
theorem pk_0_98 : ix_pk 0 98 6 92 2 := ⟨by decide, rfl, okc_8, rfl, tw_2 (List.mem_of_getElem? (i := 125) rfl) rfl, wi_92, wsl_92, wn_8⟩
theorem pk_0_102 : ix_pk 0 102 3 1 0 := ⟨okc_1, by decide, tw_1 (List.mem_of_getElem? (i := 79) rfl) rfl⟩
theorem pk_0_107 : ix_pk 0 107 3 1 2 := ⟨okc_1, by decide, tw_1 (List.mem_of_getElem? (i := 82) rfl) rfl⟩
theorem pk_0_110 : ix_pk 0 110 3 4 1 := ⟨okc_4, by decide, tw_1 (List.mem_of_getElem? (i := 39) rfl) rfl⟩
theorem pk_0_113 : ix_pk 0 113 3 5 2 := ⟨okc_5, by decide, tw_1 (List.mem_of_getElem? (i := 54) rfl) rfl⟩
theorem pk_0_116 : ix_pk 0 116 6 43 1 := ⟨by decide, rfl, okc_3, rfl, tw_2 (List.mem_of_getElem? (i := 137) rfl) rfl, wi_43, wsl_43, wn_3⟩
theorem pk_0_120 : ix_pk 0 120 3 3 1 := ⟨okc_3, by decide, tw_2 (List.mem_of_getElem? (i := 19) rfl) rfl⟩
theorem pk_0_124 : ix_pk 0 124 6 67 1 := ⟨by decide, rfl, okc_6, rfl, tw_2 (List.mem_of_getElem? (i := 145) rfl) rfl, wi_67, wsl_67, wn_6⟩
theorem pk_0_129 : ix_pk 0 129 6 24 4 := ⟨by decide, rfl, okc_0, rfl, tw_2 (List.mem_of_getElem? (i := 160) rfl) rfl, wi_24, wsl_24, wn_0⟩
theorem pk_0_133 : ix_pk 0 133 6 25 4 := ⟨by decide, rfl, okc_0, rfl, tw_2 (List.mem_of_getElem? (i := 164) rfl) rfl, wi_25, wsl_25, wn_0⟩
theorem pk_0_137 : ix_pk 0 137 6 22 3 := ⟨by decide, rfl, okc_0, rfl, tw_2 (List.mem_of_getElem? (i := 222) rfl) rfl, wi_22, wsl_22, wn_0⟩
theorem pk_0_141 : ix_pk 0 141 6 48 3 := ⟨by decide, rfl, okc_3, rfl, tw_2 (List.mem_of_getElem? (i := 230) rfl) rfl, wi_48, wsl_48, wn_3⟩
theorem pk_0_145 : ix_pk 0 145 3 2 8 := ⟨okc_2, by decide, tw_1 (List.mem_of_getElem? (i := 208) rfl) rfl⟩
theorem pk_0_151 : ix_pk 0 151 6 79 1 := ⟨by decide, rfl, okc_7, rfl, tw_3 (List.mem_of_getElem? (i := 67) rfl) rfl, wi_79, wsl_79, wn_7⟩
theorem pk_0_156 : ix_pk 0 156 6 78 1 := ⟨by decide, rfl, okc_7, rfl, tw_3 (List.mem_of_getElem? (i := 71) rfl) rfl, wi_78, wsl_78, wn_7⟩
theorem pk_0_159 : ix_pk 0 159 6 21 2 := ⟨by decide, rfl, okc_0, rfl, tw_2 (List.mem_of_getElem? (i := 226) rfl) rfl, wi_21, wsl_21, wn_0⟩
theorem pk_0_163 : ix_pk 0 163 3 6 7 := ⟨okc_6, by decide, tw_1 (List.mem_of_getElem? (i := 170) rfl) rfl⟩
theorem pk_0_166 : ix_pk 0 166 6 47 1 := ⟨by decide, rfl, okc_3, rfl, tw_3 (List.mem_of_getElem? (i := 76) rfl) rfl, wi_47, wsl_47, wn_3⟩
theorem pk_0_169 : ix_pk 0 169 6 70 1 := ⟨by decide, rfl, okc_6, rfl, tw_3 (List.mem_of_getElem? (i := 81) rfl) rfl, wi_70, wsl_70, wn_6⟩
theorem pk_0_172 : ix_pk 0 172 6 26 1 := ⟨by decide, rfl, okc_0, rfl, tw_3 (List.mem_of_getElem? (i := 89) rfl) rfl, wi_26, wsl_26, wn_0⟩
theorem pk_0_176 : ix_pk 0 176 6 27 1 := ⟨by decide, rfl, okc_0, rfl, tw_3 (List.mem_of_getElem? (i := 109) rfl) rfl, wi_27, wsl_27, wn_0⟩
theorem pk_0_179 : ix_pk 0 179 3 6 8 := ⟨okc_6, by decide, tw_1 (List.mem_of_getElem? (i := 172) rfl) rfl⟩
theorem pk_0_182 : ix_pk 0 182 3 2 11 := ⟨okc_2, by decide, tw_1 (List.mem_of_getElem? (i := 214) rfl) rfl⟩
theorem pk_0_183 : ix_pk 0 183 3 2 12 := ⟨okc_2, by decide, tw_1 (List.mem_of_getElem? (i := 217) rfl) rfl⟩
theorem pk_0_186 : ix_pk 0 186 3 2 10 := ⟨okc_2, by decide, tw_1 (List.mem_of_getElem? (i := 211) rfl) rfl⟩
theorem pk_0_187 : ix_pk 0 187 3 2 14 := ⟨okc_2, by decide, tw_1 (List.mem_of_getElem? (i := 221) rfl) rfl⟩
theorem pk_0_190 : ix_pk 0 190 6 44 1 := ⟨by decide, rfl, okc_3, rfl, tw_2 (List.mem_of_getElem? (i := 172) rfl) rfl, wi_44, wsl_44, wn_3⟩
theorem pk_0_193 : ix_pk 0 193 6 62 2 := ⟨by decide, rfl, okc_5, rfl, tw_3 (List.mem_of_getElem? (i := 171) rfl) rfl, wi_62, wsl_62, wn_5⟩
theorem pk_0_197 : ix_pk 0 197 3 3 3 := ⟨okc_3, by decide, tw_2 (List.mem_of_getElem? (i := 23) rfl) rfl⟩
theorem pk_0_200 : ix_pk 0 200 3 3 2 := ⟨okc_3, by decide, tw_2 (List.mem_of_getElem? (i := 21) rfl) rfl⟩
theorem pk_0_204 : ix_pk 0 204 6 17 1 := ⟨by decide, rfl, okc_0, rfl, tw_2 (List.mem_of_getElem? (i := 168) rfl) rfl, wi_17, wsl_17, wn_0⟩
theorem pk_0_207 : ix_pk 0 207 3 3 0 := ⟨okc_3, by decide, tw_2 (List.mem_of_getElem? (i := 17) rfl) rfl⟩
theorem pk_0_210 : ix_pk 0 210 6 61 4 := ⟨by decide, rfl, okc_5, rfl, tw_2 (List.mem_of_getElem? (i := 173) rfl) rfl, wi_61, wsl_61, wn_5⟩
theorem pk_0_214 : ix_pk 0 214 6 46 2 := ⟨by decide, rfl, okc_3, rfl, tw_2 (List.mem_of_getElem? (i := 174) rfl) rfl, wi_46, wsl_46, wn_3⟩
theorem pk_0_218 : ix_pk 0 218 6 45 2 := ⟨by decide, rfl, okc_3, rfl, tw_2 (List.mem_of_getElem? (i := 209) rfl) rfl, wi_45, wsl_45, wn_3⟩
theorem pk_0_221 : ix_pk 0 221 1 2147483647 0 := by (show Cond.constant "ForkedInvites" 221 (Int32.ofNat 2147483647) ∈ Tw); rw [show Int32.ofNat 2147483647 = (2147483647 : Int32) from by decide +kernel]; exact tw_3 (List.mem_of_getElem? (i := 93) rfl) rfl
theorem pk_0_222 : ix_pk 0 222 6 58 1 := ⟨by decide, rfl, okc_3, rfl, tw_3 (List.mem_of_getElem? (i := 94) rfl) rfl, wi_58, wsl_58, wn_3⟩
theorem pk_0_223 : ix_pk 0 223 6 57 1 := ⟨by decide, rfl, okc_3, rfl, tw_3 (List.mem_of_getElem? (i := 113) rfl) rfl, wi_57, wsl_57, wn_3⟩
theorem pk_1_1 : ix_pk 1 1 9 0 1 := ⟨tw_1 (List.mem_of_getElem? (i := 76) rfl) rfl, wo_i, wo_c⟩
theorem pk_2_3 : ix_pk 2 3 9 0 1 := ⟨tw_1 (List.mem_of_getElem? (i := 196) rfl) rfl, wo_i, wo_c⟩
theorem pk_2_11 : ix_pk 2 11 3 2 11 := ⟨okc_2, by decide, tw_1 (List.mem_of_getElem? (i := 212) rfl) rfl⟩
theorem pk_2_15 : ix_pk 2 15 3 2 0 := ⟨okc_2, by decide, tw_1 (List.mem_of_getElem? (i := 199) rfl) rfl⟩
theorem pk_2_19 : ix_pk 2 19 3 2 1 := ⟨okc_2, by decide, tw_1 (List.mem_of_getElem? (i := 200) rfl) rfl⟩
theorem pk_2_23 : ix_pk 2 23 3 2 2 := ⟨okc_2, by decide, tw_1 (List.mem_of_getElem? (i := 201) rfl) rfl⟩
theorem pk_2_26 : ix_pk 2 26 3 2 3 := ⟨okc_2, by decide, tw_1 (List.mem_of_getElem? (i := 202) rfl) rfl⟩
theorem pk_2_29 : ix_pk 2 29 4 7 0 := ⟨okc_7, tw_1 (List.mem_of_getElem? (i := 197) rfl) rfl, tw_1 (List.mem_of_getElem? (i := 143) rfl) rfl, wn_7, fun h => absurd rfl h⟩
theorem pk_2_31 : ix_pk 2 31 7 74 2 := ⟨by decide, rfl, rfl, rfl, tw_1 (List.mem_of_getElem? (i := 198) rfl) rfl, wi_74, wn_7⟩
theorem pk_2_34 : ix_pk 2 34 3 2 4 := ⟨okc_2, by decide, tw_1 (List.mem_of_getElem? (i := 203) rfl) rfl⟩
theorem pk_2_38 : ix_pk 2 38 3 2 5 := ⟨okc_2, by decide, tw_1 (List.mem_of_getElem? (i := 204) rfl) rfl⟩
theorem pk_2_41 : ix_pk 2 41 3 2 6 := ⟨okc_2, by decide, tw_1 (List.mem_of_getElem? (i := 205) rfl) rfl⟩
theorem pk_2_44 : ix_pk 2 44 3 2 7 := ⟨okc_2, by decide, tw_1 (List.mem_of_getElem? (i := 206) rfl) rfl⟩
theorem pk_2_47 : ix_pk 2 47 3 2 8 := ⟨okc_2, by decide, tw_1 (List.mem_of_getElem? (i := 207) rfl) rfl⟩
theorem pk_2_50 : ix_pk 2 50 3 2 9 := ⟨okc_2, by decide, tw_1 (List.mem_of_getElem? (i := 209) rfl) rfl⟩
theorem pk_2_53 : ix_pk 2 53 3 2 10 := ⟨okc_2, by decide, tw_1 (List.mem_of_getElem? (i := 210) rfl) rfl⟩
theorem pk_2_56 : ix_pk 2 56 3 2 12 := ⟨okc_2, by decide, tw_1 (List.mem_of_getElem? (i := 215) rfl) rfl⟩
theorem pk_2_60 : ix_pk 2 60 3 2 13 := ⟨okc_2, by decide, tw_1 (List.mem_of_getElem? (i := 218) rfl) rfl⟩
theorem pk_2_63 : ix_pk 2 63 3 2 14 := ⟨okc_2, by decide, tw_1 (List.mem_of_getElem? (i := 219) rfl) rfl⟩
theorem pk_2_66 : ix_pk 2 66 6 39 2 := ⟨by decide, rfl, okc_2, rfl, tw_2 (List.mem_of_getElem? (i := 195) rfl) rfl, wi_39, wsl_39, wn_2⟩
theorem pk_2_70 : ix_pk 2 70 6 61 4 := ⟨by decide, rfl, okc_5, rfl, tw_2 (List.mem_of_getElem? (i := 204) rfl) rfl, wi_61, wsl_61, wn_5⟩
theorem pk_2_76 : ix_pk 2 76 3 4 0 := ⟨okc_4, by decide, tw_1 (List.mem_of_getElem? (i := 33) rfl) rfl⟩
theorem pk_2_81 : ix_pk 2 81 6 75 2 := ⟨by decide, rfl, okc_7, rfl, tw_2 (List.mem_of_getElem? (i := 205) rfl) rfl, wi_75, wsl_75, wn_7⟩
theorem pk_2_84 : ix_pk 2 84 6 78 1 := ⟨by decide, rfl, okc_7, rfl, tw_2 (List.mem_of_getElem? (i := 199) rfl) rfl, wi_78, wsl_78, wn_7⟩
theorem pk_2_87 : ix_pk 2 87 6 37 1 := ⟨by decide, rfl, okc_2, rfl, tw_3 (List.mem_of_getElem? (i := 48) rfl) rfl, wi_37, wsl_37, wn_2⟩
theorem pk_2_90 : ix_pk 2 90 6 31 1 := ⟨by decide, rfl, okc_2, rfl, tw_2 (List.mem_of_getElem? (i := 200) rfl) rfl, wi_31, wsl_31, wn_2⟩
theorem pk_2_94 : ix_pk 2 94 6 80 1 := ⟨by decide, rfl, okc_7, rfl, tw_3 (List.mem_of_getElem? (i := 135) rfl) rfl, wi_80, wsl_80, wn_7⟩
theorem pk_2_97 : ix_pk 2 97 6 76 1 := ⟨by decide, rfl, okc_7, rfl, tw_3 (List.mem_of_getElem? (i := 136) rfl) rfl, wi_76, wsl_76, wn_7⟩
theorem pk_2_100 : ix_pk 2 100 6 38 1 := ⟨by decide, rfl, okc_2, rfl, tw_3 (List.mem_of_getElem? (i := 140) rfl) rfl, wi_38, wsl_38, wn_2⟩
theorem pk_2_103 : ix_pk 2 103 6 34 1 := ⟨by decide, rfl, okc_2, rfl, tw_3 (List.mem_of_getElem? (i := 144) rfl) rfl, wi_34, wsl_34, wn_2⟩
theorem pk_2_106 : ix_pk 2 106 6 77 2 := ⟨by decide, rfl, okc_7, rfl, tw_3 (List.mem_of_getElem? (i := 145) rfl) rfl, wi_77, wsl_77, wn_7⟩
theorem pk_2_109 : ix_pk 2 109 3 7 2 := ⟨okc_7, by decide, tw_1 (List.mem_of_getElem? (i := 153) rfl) rfl⟩
theorem pk_2_112 : ix_pk 2 112 11 0 2 := ⟨tw_3 (List.mem_of_getElem? (i := 107) rfl) rfl, wm_smin, wm_n, wm_cmin⟩
theorem pk_3_3 : ix_pk 3 3 9 0 1 := ⟨tw_1 (List.mem_of_getElem? (i := 133) rfl) rfl, wo_i, wo_c⟩
theorem pk_3_9 : ix_pk 3 9 4 2 106 := ⟨okc_2, tw_1 (List.mem_of_getElem? (i := 134) rfl) rfl, tw_1 (List.mem_of_getElem? (i := 192) rfl) rfl, wn_2, fun _ => ⟨by decide, by decide, rfl, by decide +kernel⟩⟩
theorem pk_3_11 : ix_pk 3 11 3 3 2 := ⟨okc_3, by decide, tw_2 (List.mem_of_getElem? (i := 20) rfl) rfl⟩
theorem pk_3_17 : ix_pk 3 17 3 3 0 := ⟨okc_3, by decide, tw_2 (List.mem_of_getElem? (i := 16) rfl) rfl⟩
theorem pk_3_21 : ix_pk 3 21 4 6 0 := ⟨okc_6, tw_1 (List.mem_of_getElem? (i := 136) rfl) rfl, tw_1 (List.mem_of_getElem? (i := 137) rfl) rfl, wn_6, fun h => absurd rfl h⟩
theorem pk_3_23 : ix_pk 3 23 7 63 4 := ⟨by decide, rfl, rfl, rfl, tw_1 (List.mem_of_getElem? (i := 138) rfl) rfl, wi_63, wn_6⟩
theorem pk_3_26 : ix_pk 3 26 3 3 1 := ⟨okc_3, by decide, tw_2 (List.mem_of_getElem? (i := 18) rfl) rfl⟩
theorem pk_3_30 : ix_pk 3 30 7 29 5 := ⟨by decide, rfl, rfl, rfl, tw_1 (List.mem_of_getElem? (i := 193) rfl) rfl, wi_29, wn_2⟩
theorem pk_3_33 : ix_pk 3 33 6 44 1 := ⟨by decide, rfl, okc_3, rfl, tw_2 (List.mem_of_getElem? (i := 141) rfl) rfl, wi_44, wsl_44, wn_3⟩
theorem pk_3_37 : ix_pk 3 37 3 6 7 := ⟨okc_6, by decide, tw_1 (List.mem_of_getElem? (i := 169) rfl) rfl⟩
theorem pk_3_40 : ix_pk 3 40 3 3 3 := ⟨okc_3, by decide, tw_2 (List.mem_of_getElem? (i := 22) rfl) rfl⟩
theorem pk_3_43 : ix_pk 3 43 3 2 11 := ⟨okc_2, by decide, tw_1 (List.mem_of_getElem? (i := 213) rfl) rfl⟩
theorem pk_3_44 : ix_pk 3 44 6 69 2 := ⟨by decide, rfl, okc_6, rfl, tw_2 (List.mem_of_getElem? (i := 213) rfl) rfl, wi_69, wsl_69, wn_6⟩
theorem pk_3_48 : ix_pk 3 48 3 3 4 := ⟨okc_3, by decide, tw_2 (List.mem_of_getElem? (i := 24) rfl) rfl⟩
theorem pk_3_51 : ix_pk 3 51 6 64 1 := ⟨by decide, rfl, okc_6, rfl, tw_2 (List.mem_of_getElem? (i := 178) rfl) rfl, wi_64, wsl_64, wn_6⟩
theorem pk_3_54 : ix_pk 3 54 6 92 2 := ⟨by decide, rfl, okc_8, rfl, tw_2 (List.mem_of_getElem? (i := 190) rfl) rfl, wi_92, wsl_92, wn_8⟩
theorem pk_3_60 : ix_pk 3 60 3 1 0 := ⟨okc_1, by decide, tw_1 (List.mem_of_getElem? (i := 77) rfl) rfl⟩
theorem pk_3_65 : ix_pk 3 65 6 30 2 := ⟨by decide, rfl, okc_2, rfl, tw_2 (List.mem_of_getElem? (i := 191) rfl) rfl, wi_30, wsl_30, wn_2⟩
theorem pk_3_68 : ix_pk 3 68 6 31 1 := ⟨by decide, rfl, okc_2, rfl, tw_2 (List.mem_of_getElem? (i := 238) rfl) rfl, wi_31, wsl_31, wn_2⟩
theorem pk_3_72 : ix_pk 3 72 6 34 1 := ⟨by decide, rfl, okc_2, rfl, tw_3 (List.mem_of_getElem? (i := 8) rfl) rfl, wi_34, wsl_34, wn_2⟩
theorem pk_3_75 : ix_pk 3 75 6 49 3 := ⟨by decide, rfl, okc_3, rfl, tw_2 (List.mem_of_getElem? (i := 234) rfl) rfl, wi_49, wsl_49, wn_3⟩
theorem pk_3_79 : ix_pk 3 79 6 50 3 := ⟨by decide, rfl, okc_3, rfl, tw_3 (List.mem_of_getElem? (i := 12) rfl) rfl, wi_50, wsl_50, wn_3⟩
theorem pk_3_82 : ix_pk 3 82 6 51 3 := ⟨by decide, rfl, okc_3, rfl, tw_3 (List.mem_of_getElem? (i := 36) rfl) rfl, wi_51, wsl_51, wn_3⟩
theorem pk_3_85 : ix_pk 3 85 6 32 1 := ⟨by decide, rfl, okc_2, rfl, tw_2 (List.mem_of_getElem? (i := 239) rfl) rfl, wi_32, wsl_32, wn_2⟩
theorem pk_3_86 : ix_pk 3 86 6 33 1 := ⟨by decide, rfl, okc_2, rfl, tw_3 (List.mem_of_getElem? (i := 3) rfl) rfl, wi_33, wsl_33, wn_2⟩
theorem pk_3_89 : ix_pk 3 89 6 65 2 := ⟨by decide, rfl, okc_6, rfl, tw_3 (List.mem_of_getElem? (i := 7) rfl) rfl, wi_65, wsl_65, wn_6⟩
theorem pk_3_92 : ix_pk 3 92 3 2 12 := ⟨okc_2, by decide, tw_1 (List.mem_of_getElem? (i := 216) rfl) rfl⟩
theorem pk_3_96 : ix_pk 3 96 6 35 2 := ⟨by decide, rfl, okc_2, rfl, tw_3 (List.mem_of_getElem? (i := 16) rfl) rfl, wi_35, wsl_35, wn_2⟩
theorem pk_3_99 : ix_pk 3 99 6 52 2 := ⟨by decide, rfl, okc_3, rfl, tw_3 (List.mem_of_getElem? (i := 20) rfl) rfl, wi_52, wsl_52, wn_3⟩
theorem pk_3_103 : ix_pk 3 103 6 66 2 := ⟨by decide, rfl, okc_6, rfl, tw_3 (List.mem_of_getElem? (i := 24) rfl) rfl, wi_66, wsl_66, wn_6⟩
theorem pk_3_106 : ix_pk 3 106 6 68 1 := ⟨by decide, rfl, okc_6, rfl, tw_3 (List.mem_of_getElem? (i := 28) rfl) rfl, wi_68, wsl_68, wn_6⟩
theorem pk_3_109 : ix_pk 3 109 6 47 1 := ⟨by decide, rfl, okc_3, rfl, tw_3 (List.mem_of_getElem? (i := 32) rfl) rfl, wi_47, wsl_47, wn_3⟩
theorem pk_3_112 : ix_pk 3 112 6 37 1 := ⟨by decide, rfl, okc_2, rfl, tw_3 (List.mem_of_getElem? (i := 40) rfl) rfl, wi_37, wsl_37, wn_2⟩
theorem pk_3_115 : ix_pk 3 115 6 36 2 := ⟨by decide, rfl, okc_2, rfl, tw_3 (List.mem_of_getElem? (i := 44) rfl) rfl, wi_36, wsl_36, wn_2⟩
theorem pk_3_118 : ix_pk 3 118 6 53 1 := ⟨by decide, rfl, okc_3, rfl, tw_3 (List.mem_of_getElem? (i := 49) rfl) rfl, wi_53, wsl_53, wn_3⟩
theorem pk_3_121 : ix_pk 3 121 3 2 15 := ⟨okc_2, by decide, tw_1 (List.mem_of_getElem? (i := 222) rfl) rfl⟩
theorem pk_3_124 : ix_pk 3 124 6 54 1 := ⟨by decide, rfl, okc_3, rfl, tw_3 (List.mem_of_getElem? (i := 53) rfl) rfl, wi_54, wsl_54, wn_3⟩
theorem pk_3_127 : ix_pk 3 127 8 55 2 := ⟨by decide, rfl, tw_3 (List.mem_of_getElem? (i := 57) rfl) rfl, wi_55, wn_3⟩
theorem pk_3_131 : ix_pk 3 131 3 2 14 := ⟨okc_2, by decide, tw_1 (List.mem_of_getElem? (i := 220) rfl) rfl⟩
theorem pk_3_134 : ix_pk 3 134 8 56 1 := ⟨by decide, rfl, tw_3 (List.mem_of_getElem? (i := 60) rfl) rfl, wi_56, wn_3⟩
theorem pk_3_138 : ix_pk 3 138 6 72 1 := ⟨by decide, rfl, okc_6, rfl, tw_3 (List.mem_of_getElem? (i := 117) rfl) rfl, wi_72, wsl_72, wn_6⟩
theorem pk_3_141 : ix_pk 3 141 6 40 1 := ⟨by decide, rfl, okc_2, rfl, tw_3 (List.mem_of_getElem? (i := 131) rfl) rfl, wi_40, wsl_40, wn_2⟩
theorem pk_3_143 : ix_pk 3 143 6 73 1 := ⟨by decide, rfl, okc_6, rfl, tw_3 (List.mem_of_getElem? (i := 98) rfl) rfl, wi_73, wsl_73, wn_6⟩
theorem pk_3_146 : ix_pk 3 146 6 41 1 := ⟨by decide, rfl, okc_2, rfl, tw_3 (List.mem_of_getElem? (i := 103) rfl) rfl, wi_41, wsl_41, wn_2⟩
theorem pk_3_147 : ix_pk 3 147 11 0 2 := ⟨tw_3 (List.mem_of_getElem? (i := 108) rfl) rfl, wm_smin, wm_n, wm_cmin⟩
theorem pk_4_1 : ix_pk 4 1 9 0 1 := ⟨tw_1 (List.mem_of_getElem? (i := 31) rfl) rfl, wo_i, wo_c⟩
theorem pk_4_7 : ix_pk 4 7 3 4 0 := ⟨okc_4, by decide, tw_1 (List.mem_of_getElem? (i := 32) rfl) rfl⟩
theorem pk_5_3 : ix_pk 5 3 9 0 1 := ⟨tw_1 (List.mem_of_getElem? (i := 50) rfl) rfl, wo_i, wo_c⟩
theorem pk_5_11 : ix_pk 5 11 3 5 1 := ⟨okc_5, by decide, tw_1 (List.mem_of_getElem? (i := 52) rfl) rfl⟩
theorem pk_5_15 : ix_pk 5 15 3 5 0 := ⟨okc_5, by decide, tw_1 (List.mem_of_getElem? (i := 51) rfl) rfl⟩
theorem pk_5_19 : ix_pk 5 19 3 4 1 := ⟨okc_4, by decide, tw_1 (List.mem_of_getElem? (i := 36) rfl) rfl⟩
theorem pk_5_25 : ix_pk 5 25 2 4 0 := by (show Cond.constantLong "ForkedInvites$MessageLog" 25 (Int64.ofNat 4) ∈ Tw); rw [show Int64.ofNat 4 = (4 : Int64) from by decide +kernel]; exact tw_2 (List.mem_of_getElem? (i := 157) rfl) rfl
theorem pk_5_27 : ix_pk 5 27 2 8 0 := by (show Cond.constantLong "ForkedInvites$MessageLog" 27 (Int64.ofNat 8) ∈ Tw); rw [show Int64.ofNat 8 = (8 : Int64) from by decide +kernel]; exact tw_2 (List.mem_of_getElem? (i := 158) rfl) rfl
theorem pk_5_29 : ix_pk 5 29 3 5 2 := ⟨okc_5, by decide, tw_1 (List.mem_of_getElem? (i := 53) rfl) rfl⟩
theorem pk_5_32 : ix_pk 5 32 2 1024 0 := by (show Cond.constantLong "ForkedInvites$MessageLog" 32 (Int64.ofNat 1024) ∈ Tw); rw [show Int64.ofNat 1024 = (1024 : Int64) from by decide +kernel]; exact tw_2 (List.mem_of_getElem? (i := 159) rfl) rfl
theorem pk_5_34 : ix_pk 5 34 2 18446744073709551615 0 := by (show Cond.constantLong "ForkedInvites$MessageLog" 34 (Int64.ofNat 18446744073709551615) ∈ Tw); rw [show Int64.ofNat 18446744073709551615 = (-1 : Int64) from by decide +kernel]; exact tw_3 (List.mem_of_getElem? (i := 175) rfl) rfl
theorem pk_6_1 : ix_pk 6 1 9 0 1 := ⟨tw_1 (List.mem_of_getElem? (i := 141) rfl) rfl, wo_i, wo_c⟩
theorem pk_6_9 : ix_pk 6 9 3 6 7 := ⟨okc_6, by decide, tw_1 (List.mem_of_getElem? (i := 168) rfl) rfl⟩
theorem pk_6_13 : ix_pk 6 13 3 6 0 := ⟨okc_6, by decide, tw_1 (List.mem_of_getElem? (i := 161) rfl) rfl⟩
theorem pk_6_17 : ix_pk 6 17 3 6 1 := ⟨okc_6, by decide, tw_1 (List.mem_of_getElem? (i := 162) rfl) rfl⟩
theorem pk_6_21 : ix_pk 6 21 3 6 2 := ⟨okc_6, by decide, tw_1 (List.mem_of_getElem? (i := 163) rfl) rfl⟩
theorem pk_6_24 : ix_pk 6 24 4 7 0 := ⟨okc_7, tw_1 (List.mem_of_getElem? (i := 142) rfl) rfl, tw_1 (List.mem_of_getElem? (i := 143) rfl) rfl, wn_7, fun h => absurd rfl h⟩
theorem pk_6_26 : ix_pk 6 26 7 74 2 := ⟨by decide, rfl, rfl, rfl, tw_1 (List.mem_of_getElem? (i := 144) rfl) rfl, wi_74, wn_7⟩
theorem pk_6_29 : ix_pk 6 29 3 6 3 := ⟨okc_6, by decide, tw_1 (List.mem_of_getElem? (i := 164) rfl) rfl⟩
theorem pk_6_33 : ix_pk 6 33 3 6 4 := ⟨okc_6, by decide, tw_1 (List.mem_of_getElem? (i := 165) rfl) rfl⟩
theorem pk_6_36 : ix_pk 6 36 3 6 5 := ⟨okc_6, by decide, tw_1 (List.mem_of_getElem? (i := 166) rfl) rfl⟩
theorem pk_6_39 : ix_pk 6 39 3 6 6 := ⟨okc_6, by decide, tw_1 (List.mem_of_getElem? (i := 167) rfl) rfl⟩
theorem pk_6_42 : ix_pk 6 42 6 71 2 := ⟨by decide, rfl, okc_6, rfl, tw_2 (List.mem_of_getElem? (i := 182) rfl) rfl, wi_71, wsl_71, wn_6⟩
theorem pk_6_46 : ix_pk 6 46 6 65 2 := ⟨by decide, rfl, okc_6, rfl, tw_2 (List.mem_of_getElem? (i := 149) rfl) rfl, wi_65, wsl_65, wn_6⟩
theorem pk_6_49 : ix_pk 6 49 3 6 8 := ⟨okc_6, by decide, tw_1 (List.mem_of_getElem? (i := 171) rfl) rfl⟩
theorem pk_6_54 : ix_pk 6 54 6 61 4 := ⟨by decide, rfl, okc_5, rfl, tw_2 (List.mem_of_getElem? (i := 153) rfl) rfl, wi_61, wsl_61, wn_5⟩
theorem pk_6_58 : ix_pk 6 58 3 4 0 := ⟨okc_4, by decide, tw_1 (List.mem_of_getElem? (i := 35) rfl) rfl⟩
theorem pk_6_63 : ix_pk 6 63 6 75 2 := ⟨by decide, rfl, okc_7, rfl, tw_2 (List.mem_of_getElem? (i := 217) rfl) rfl, wi_75, wsl_75, wn_7⟩
theorem pk_6_66 : ix_pk 6 66 6 78 1 := ⟨by decide, rfl, okc_7, rfl, tw_2 (List.mem_of_getElem? (i := 186) rfl) rfl, wi_78, wsl_78, wn_7⟩
theorem pk_6_69 : ix_pk 6 69 6 80 1 := ⟨by decide, rfl, okc_7, rfl, tw_3 (List.mem_of_getElem? (i := 121) rfl) rfl, wi_80, wsl_80, wn_7⟩
theorem pk_6_73 : ix_pk 6 73 6 77 2 := ⟨by decide, rfl, okc_7, rfl, tw_3 (List.mem_of_getElem? (i := 125) rfl) rfl, wi_77, wsl_77, wn_7⟩
theorem pk_6_76 : ix_pk 6 76 3 7 2 := ⟨okc_7, by decide, tw_1 (List.mem_of_getElem? (i := 152) rfl) rfl⟩
theorem pk_6_79 : ix_pk 6 79 11 0 2 := ⟨tw_3 (List.mem_of_getElem? (i := 102) rfl) rfl, wm_smin, wm_n, wm_cmin⟩
theorem pk_7_1 : ix_pk 7 1 9 0 1 := ⟨tw_1 (List.mem_of_getElem? (i := 147) rfl) rfl, wo_i, wo_c⟩
theorem pk_7_9 : ix_pk 7 9 1 2147483647 0 := by (show Cond.constant "ForkedInvites$Timer" 9 (Int32.ofNat 2147483647) ∈ Tw); rw [show Int32.ofNat 2147483647 = (2147483647 : Int32) from by decide +kernel]; exact tw_1 (List.mem_of_getElem? (i := 148) rfl) rfl
theorem pk_7_10 : ix_pk 7 10 3 7 2 := ⟨okc_7, by decide, tw_1 (List.mem_of_getElem? (i := 151) rfl) rfl⟩
theorem pk_7_14 : ix_pk 7 14 3 7 0 := ⟨okc_7, by decide, tw_1 (List.mem_of_getElem? (i := 149) rfl) rfl⟩
theorem pk_7_18 : ix_pk 7 18 3 7 1 := ⟨okc_7, by decide, tw_1 (List.mem_of_getElem? (i := 150) rfl) rfl⟩
theorem pk_7_21 : ix_pk 7 21 3 4 1 := ⟨okc_4, by decide, tw_1 (List.mem_of_getElem? (i := 37) rfl) rfl⟩
theorem pk_7_26 : ix_pk 7 26 6 75 2 := ⟨by decide, rfl, okc_7, rfl, tw_3 (List.mem_of_getElem? (i := 130) rfl) rfl, wi_75, wsl_75, wn_7⟩
theorem pk_7_30 : ix_pk 7 30 11 0 2 := ⟨tw_3 (List.mem_of_getElem? (i := 129) rfl) rfl, wm_smin, wm_n, wm_cmin⟩
theorem pk_8_3 : ix_pk 8 3 9 0 1 := ⟨tw_1 (List.mem_of_getElem? (i := 69) rfl) rfl, wo_i, wo_c⟩
theorem pk_8_9 : ix_pk 8 9 4 1 105 := ⟨okc_1, tw_1 (List.mem_of_getElem? (i := 70) rfl) rfl, tw_1 (List.mem_of_getElem? (i := 72) rfl) rfl, wn_1, fun _ => ⟨by decide, by decide, rfl, by decide +kernel⟩⟩
theorem pk_8_11 : ix_pk 8 11 3 8 7 := ⟨okc_8, by decide, tw_1 (List.mem_of_getElem? (i := 105) rfl) rfl⟩
theorem pk_8_17 : ix_pk 8 17 3 8 0 := ⟨okc_8, by decide, tw_1 (List.mem_of_getElem? (i := 96) rfl) rfl⟩
theorem pk_8_21 : ix_pk 8 21 12 28 1 := ⟨by decide, rfl, rfl, rfl, ⟨_, List.mem_of_getElem? (i := 0) rfl⟩, wi_28, wn_1⟩
theorem pk_8_22 : ix_pk 8 22 3 8 3 := ⟨okc_8, by decide, tw_1 (List.mem_of_getElem? (i := 101) rfl) rfl⟩
theorem pk_8_26 : ix_pk 8 26 3 8 4 := ⟨okc_8, by decide, tw_1 (List.mem_of_getElem? (i := 102) rfl) rfl⟩
theorem pk_8_30 : ix_pk 8 30 3 4 1 := ⟨okc_4, by decide, tw_1 (List.mem_of_getElem? (i := 38) rfl) rfl⟩
theorem pk_8_35 : ix_pk 8 35 3 8 5 := ⟨okc_8, by decide, tw_1 (List.mem_of_getElem? (i := 103) rfl) rfl⟩
theorem pk_8_38 : ix_pk 8 38 3 8 6 := ⟨okc_8, by decide, tw_1 (List.mem_of_getElem? (i := 104) rfl) rfl⟩
theorem pk_8_41 : ix_pk 8 41 3 4 0 := ⟨okc_4, by decide, tw_1 (List.mem_of_getElem? (i := 34) rfl) rfl⟩
theorem pk_8_44 : ix_pk 8 44 3 8 1 := ⟨okc_8, by decide, tw_1 (List.mem_of_getElem? (i := 98) rfl) rfl⟩
theorem pk_8_47 : ix_pk 8 47 8 84 3 := ⟨by decide, rfl, tw_2 (List.mem_of_getElem? (i := 77) rfl) rfl, wi_84, wn_8⟩
theorem pk_8_51 : ix_pk 8 51 3 8 2 := ⟨okc_8, by decide, tw_1 (List.mem_of_getElem? (i := 99) rfl) rfl⟩
theorem pk_8_54 : ix_pk 8 54 1 2654435769 0 := by (show Cond.constant "ForkedInvites$User" 54 (Int32.ofNat 2654435769) ∈ Tw); rw [show Int32.ofNat 2654435769 = (-1640531527 : Int32) from by decide +kernel]; exact tw_2 (List.mem_of_getElem? (i := 80) rfl) rfl
theorem pk_8_55 : ix_pk 8 55 1 2654435 0 := by (show Cond.constant "ForkedInvites$User" 55 (Int32.ofNat 2654435) ∈ Tw); rw [show Int32.ofNat 2654435 = (2654435 : Int32) from by decide +kernel]; exact tw_2 (List.mem_of_getElem? (i := 81) rfl) rfl
theorem pk_8_56 : ix_pk 8 56 3 8 8 := ⟨okc_8, by decide, tw_1 (List.mem_of_getElem? (i := 106) rfl) rfl⟩
theorem pk_8_59 : ix_pk 8 59 3 1 2 := ⟨okc_1, by decide, tw_1 (List.mem_of_getElem? (i := 81) rfl) rfl⟩
theorem pk_8_62 : ix_pk 8 62 6 89 2 := ⟨by decide, rfl, okc_8, rfl, tw_2 (List.mem_of_getElem? (i := 93) rfl) rfl, wi_89, wsl_89, wn_8⟩
theorem pk_8_66 : ix_pk 8 66 3 1 0 := ⟨okc_1, by decide, tw_1 (List.mem_of_getElem? (i := 78) rfl) rfl⟩
theorem pk_8_69 : ix_pk 8 69 3 1 3 := ⟨okc_1, by decide, tw_1 (List.mem_of_getElem? (i := 83) rfl) rfl⟩
theorem pk_8_72 : ix_pk 8 72 3 1 4 := ⟨okc_1, by decide, tw_1 (List.mem_of_getElem? (i := 84) rfl) rfl⟩
theorem pk_8_75 : ix_pk 8 75 6 91 2 := ⟨by decide, rfl, okc_8, rfl, tw_2 (List.mem_of_getElem? (i := 113) rfl) rfl, wi_91, wsl_91, wn_8⟩
theorem pk_8_79 : ix_pk 8 79 3 1 1 := ⟨okc_1, by decide, tw_1 (List.mem_of_getElem? (i := 80) rfl) rfl⟩
theorem pk_8_82 : ix_pk 8 82 6 93 2 := ⟨by decide, rfl, okc_8, rfl, tw_2 (List.mem_of_getElem? (i := 129) rfl) rfl, wi_93, wsl_93, wn_8⟩
theorem pk_9_1 : ix_pk 9 1 9 0 1 := ⟨tw_3 (List.mem_of_getElem? (i := 184) rfl) rfl, wo_i, wo_c⟩
theorem pk_9_7 : ix_pk 9 7 3 9 3 := ⟨okc_9, by decide, tw_3 (List.mem_of_getElem? (i := 188) rfl) rfl⟩
theorem pk_9_13 : ix_pk 9 13 3 9 4 := ⟨okc_9, by decide, tw_3 (List.mem_of_getElem? (i := 189) rfl) rfl⟩
theorem pk_9_17 : ix_pk 9 17 3 9 5 := ⟨okc_9, by decide, tw_3 (List.mem_of_getElem? (i := 190) rfl) rfl⟩
theorem pk_9_20 : ix_pk 9 20 3 9 6 := ⟨okc_9, by decide, tw_3 (List.mem_of_getElem? (i := 191) rfl) rfl⟩
theorem pk_9_23 : ix_pk 9 23 3 9 7 := ⟨okc_9, by decide, tw_3 (List.mem_of_getElem? (i := 192) rfl) rfl⟩
theorem pk_9_26 : ix_pk 9 26 3 9 8 := ⟨okc_9, by decide, tw_3 (List.mem_of_getElem? (i := 193) rfl) rfl⟩
theorem pk_9_29 : ix_pk 9 29 3 9 9 := ⟨okc_9, by decide, tw_3 (List.mem_of_getElem? (i := 194) rfl) rfl⟩
theorem pk_9_32 : ix_pk 9 32 3 9 10 := ⟨okc_9, by decide, tw_3 (List.mem_of_getElem? (i := 195) rfl) rfl⟩
theorem pk_9_35 : ix_pk 9 35 3 9 11 := ⟨okc_9, by decide, tw_3 (List.mem_of_getElem? (i := 196) rfl) rfl⟩
theorem pk_9_38 : ix_pk 9 38 3 9 12 := ⟨okc_9, by decide, tw_3 (List.mem_of_getElem? (i := 197) rfl) rfl⟩
theorem pk_9_41 : ix_pk 9 41 3 9 14 := ⟨okc_9, by decide, tw_3 (List.mem_of_getElem? (i := 199) rfl) rfl⟩
theorem pk_9_44 : ix_pk 9 44 3 9 15 := ⟨okc_9, by decide, tw_3 (List.mem_of_getElem? (i := 200) rfl) rfl⟩
theorem pk_9_47 : ix_pk 9 47 3 9 16 := ⟨okc_9, by decide, tw_3 (List.mem_of_getElem? (i := 201) rfl) rfl⟩
theorem pk_9_50 : ix_pk 9 50 3 9 17 := ⟨okc_9, by decide, tw_3 (List.mem_of_getElem? (i := 202) rfl) rfl⟩
theorem pk_9_53 : ix_pk 9 53 3 9 18 := ⟨okc_9, by decide, tw_3 (List.mem_of_getElem? (i := 203) rfl) rfl⟩
theorem pk_9_56 : ix_pk 9 56 3 9 19 := ⟨okc_9, by decide, tw_3 (List.mem_of_getElem? (i := 204) rfl) rfl⟩
theorem pk_9_59 : ix_pk 9 59 3 9 20 := ⟨okc_9, by decide, tw_3 (List.mem_of_getElem? (i := 205) rfl) rfl⟩
theorem pk_9_62 : ix_pk 9 62 3 9 21 := ⟨okc_9, by decide, tw_3 (List.mem_of_getElem? (i := 206) rfl) rfl⟩
theorem pk_9_65 : ix_pk 9 65 3 9 22 := ⟨okc_9, by decide, tw_3 (List.mem_of_getElem? (i := 207) rfl) rfl⟩
theorem pk_9_68 : ix_pk 9 68 3 9 23 := ⟨okc_9, by decide, tw_3 (List.mem_of_getElem? (i := 208) rfl) rfl⟩
theorem pk_9_71 : ix_pk 9 71 3 9 24 := ⟨okc_9, by decide, tw_3 (List.mem_of_getElem? (i := 209) rfl) rfl⟩
theorem pk_9_74 : ix_pk 9 74 3 9 25 := ⟨okc_9, by decide, tw_3 (List.mem_of_getElem? (i := 210) rfl) rfl⟩
theorem pk_9_77 : ix_pk 9 77 3 9 26 := ⟨okc_9, by decide, tw_3 (List.mem_of_getElem? (i := 211) rfl) rfl⟩
theorem pk_9_80 : ix_pk 9 80 3 9 27 := ⟨okc_9, by decide, tw_3 (List.mem_of_getElem? (i := 212) rfl) rfl⟩
theorem pk_9_83 : ix_pk 9 83 3 9 29 := ⟨okc_9, by decide, tw_3 (List.mem_of_getElem? (i := 214) rfl) rfl⟩
theorem pk_9_87 : ix_pk 9 87 3 9 0 := ⟨okc_9, by decide, tw_3 (List.mem_of_getElem? (i := 185) rfl) rfl⟩
theorem pk_9_91 : ix_pk 9 91 3 9 2 := ⟨okc_9, by decide, tw_3 (List.mem_of_getElem? (i := 187) rfl) rfl⟩
theorem pk_9_94 : ix_pk 9 94 8 95 3 := ⟨by decide, rfl, tw_4 (List.mem_of_getElem? (i := 45) rfl) rfl, wi_95, wn_9⟩
theorem pk_9_98 : ix_pk 9 98 1 69069 0 := by (show Cond.constant "ForkedInvitesModel" 98 (Int32.ofNat 69069) ∈ Tw); rw [show Int32.ofNat 69069 = (69069 : Int32) from by decide +kernel]; exact tw_4 (List.mem_of_getElem? (i := 52) rfl) rfl
theorem pk_9_99 : ix_pk 9 99 3 9 1 := ⟨okc_9, by decide, tw_3 (List.mem_of_getElem? (i := 186) rfl) rfl⟩
theorem pk_9_102 : ix_pk 9 102 1 2654435769 0 := by (show Cond.constant "ForkedInvitesModel" 102 (Int32.ofNat 2654435769) ∈ Tw); rw [show Int32.ofNat 2654435769 = (-1640531527 : Int32) from by decide +kernel]; exact tw_4 (List.mem_of_getElem? (i := 60) rfl) rfl
theorem pk_9_103 : ix_pk 9 103 1 2654435 0 := by (show Cond.constant "ForkedInvitesModel" 103 (Int32.ofNat 2654435) ∈ Tw); rw [show Int32.ofNat 2654435 = (2654435 : Int32) from by decide +kernel]; exact tw_4 (List.mem_of_getElem? (i := 61) rfl) rfl
theorem pk_9_104 : ix_pk 9 104 8 98 3 := ⟨by decide, rfl, tw_4 (List.mem_of_getElem? (i := 57) rfl) rfl, wi_98, wn_9⟩
theorem pk_9_108 : ix_pk 9 108 6 100 3 := ⟨by decide, rfl, okc_9, rfl, tw_4 (List.mem_of_getElem? (i := 70) rfl) rfl, wi_100, wsl_100, wn_9⟩
theorem pk_9_112 : ix_pk 9 112 6 101 4 := ⟨by decide, rfl, okc_9, rfl, tw_4 (List.mem_of_getElem? (i := 66) rfl) rfl, wi_101, wsl_101, wn_9⟩
theorem pk_9_115 : ix_pk 9 115 6 103 2 := ⟨by decide, rfl, okc_9, rfl, tw_4 (List.mem_of_getElem? (i := 74) rfl) rfl, wi_103, wsl_103, wn_9⟩
theorem pk_9_119 : ix_pk 9 119 3 9 13 := ⟨okc_9, by decide, tw_3 (List.mem_of_getElem? (i := 198) rfl) rfl⟩
theorem pk_9_122 : ix_pk 9 122 6 104 3 := ⟨by decide, rfl, okc_9, rfl, tw_4 (List.mem_of_getElem? (i := 87) rfl) rfl, wi_104, wsl_104, wn_9⟩
theorem pk_9_126 : ix_pk 9 126 6 105 3 := ⟨by decide, rfl, okc_9, rfl, tw_4 (List.mem_of_getElem? (i := 83) rfl) rfl, wi_105, wsl_105, wn_9⟩
theorem pk_9_129 : ix_pk 9 129 2 4 0 := by (show Cond.constantLong "ForkedInvitesModel" 129 (Int64.ofNat 4) ∈ Tw); rw [show Int64.ofNat 4 = (4 : Int64) from by decide +kernel]; exact tw_4 (List.mem_of_getElem? (i := 107) rfl) rfl
theorem pk_9_131 : ix_pk 9 131 2 8 0 := by (show Cond.constantLong "ForkedInvitesModel" 131 (Int64.ofNat 8) ∈ Tw); rw [show Int64.ofNat 8 = (8 : Int64) from by decide +kernel]; exact tw_4 (List.mem_of_getElem? (i := 108) rfl) rfl
theorem pk_9_133 : ix_pk 9 133 3 9 30 := ⟨okc_9, by decide, tw_3 (List.mem_of_getElem? (i := 215) rfl) rfl⟩
theorem pk_9_136 : ix_pk 9 136 2 1024 0 := by (show Cond.constantLong "ForkedInvitesModel" 136 (Int64.ofNat 1024) ∈ Tw); rw [show Int64.ofNat 1024 = (1024 : Int64) from by decide +kernel]; exact tw_4 (List.mem_of_getElem? (i := 109) rfl) rfl
theorem pk_9_138 : ix_pk 9 138 6 107 4 := ⟨by decide, rfl, okc_9, rfl, tw_4 (List.mem_of_getElem? (i := 103) rfl) rfl, wi_107, wsl_107, wn_9⟩
theorem pk_9_142 : ix_pk 9 142 6 109 2 := ⟨by decide, rfl, okc_9, rfl, tw_4 (List.mem_of_getElem? (i := 95) rfl) rfl, wi_109, wsl_109, wn_9⟩
theorem pk_9_146 : ix_pk 9 146 6 108 3 := ⟨by decide, rfl, okc_9, rfl, tw_4 (List.mem_of_getElem? (i := 99) rfl) rfl, wi_108, wsl_108, wn_9⟩
theorem pk_9_150 : ix_pk 9 150 6 111 3 := ⟨by decide, rfl, okc_9, rfl, tw_4 (List.mem_of_getElem? (i := 118) rfl) rfl, wi_111, wsl_111, wn_9⟩
theorem pk_9_153 : ix_pk 9 153 6 115 2 := ⟨by decide, rfl, okc_9, rfl, tw_4 (List.mem_of_getElem? (i := 138) rfl) rfl, wi_115, wsl_115, wn_9⟩
theorem pk_9_156 : ix_pk 9 156 6 116 3 := ⟨by decide, rfl, okc_9, rfl, tw_4 (List.mem_of_getElem? (i := 150) rfl) rfl, wi_116, wsl_116, wn_9⟩
theorem pk_9_159 : ix_pk 9 159 3 9 28 := ⟨okc_9, by decide, tw_3 (List.mem_of_getElem? (i := 213) rfl) rfl⟩
theorem pk_9_162 : ix_pk 9 162 8 119 2 := ⟨by decide, rfl, tw_4 (List.mem_of_getElem? (i := 166) rfl) rfl, wi_119, wn_9⟩
theorem pk_9_165 : ix_pk 9 165 6 112 3 := ⟨by decide, rfl, okc_9, rfl, tw_4 (List.mem_of_getElem? (i := 114) rfl) rfl, wi_112, wsl_112, wn_9⟩
theorem pk_9_168 : ix_pk 9 168 6 114 3 := ⟨by decide, rfl, okc_9, rfl, tw_4 (List.mem_of_getElem? (i := 146) rfl) rfl, wi_114, wsl_114, wn_9⟩
theorem pk_9_171 : ix_pk 9 171 6 118 3 := ⟨by decide, rfl, okc_9, rfl, tw_4 (List.mem_of_getElem? (i := 154) rfl) rfl, wi_118, wsl_118, wn_9⟩
theorem pk_9_174 : ix_pk 9 174 6 120 2 := ⟨by decide, rfl, okc_9, rfl, tw_4 (List.mem_of_getElem? (i := 162) rfl) rfl, wi_120, wsl_120, wn_9⟩
theorem pk_9_178 : ix_pk 9 178 6 123 4 := ⟨by decide, rfl, okc_9, rfl, tw_4 (List.mem_of_getElem? (i := 142) rfl) rfl, wi_123, wsl_123, wn_9⟩
theorem pk_9_181 : ix_pk 9 181 6 117 3 := ⟨by decide, rfl, okc_9, rfl, tw_4 (List.mem_of_getElem? (i := 158) rfl) rfl, wi_117, wsl_117, wn_9⟩
theorem pk_9_184 : ix_pk 9 184 6 137 1 := ⟨by decide, rfl, okc_9, rfl, tw_4 (List.mem_of_getElem? (i := 110) rfl) rfl, wi_137, wsl_137, wn_9⟩
theorem pk_9_188 : ix_pk 9 188 6 113 4 := ⟨by decide, rfl, okc_9, rfl, tw_4 (List.mem_of_getElem? (i := 122) rfl) rfl, wi_113, wsl_113, wn_9⟩
theorem pk_9_191 : ix_pk 9 191 6 110 3 := ⟨by decide, rfl, okc_9, rfl, tw_4 (List.mem_of_getElem? (i := 130) rfl) rfl, wi_110, wsl_110, wn_9⟩
theorem pk_9_194 : ix_pk 9 194 6 122 4 := ⟨by decide, rfl, okc_9, rfl, tw_4 (List.mem_of_getElem? (i := 134) rfl) rfl, wi_122, wsl_122, wn_9⟩
theorem pk_9_197 : ix_pk 9 197 6 129 2 := ⟨by decide, rfl, okc_9, rfl, tw_4 (List.mem_of_getElem? (i := 189) rfl) rfl, wi_129, wsl_129, wn_9⟩
theorem pk_9_200 : ix_pk 9 200 6 121 3 := ⟨by decide, rfl, okc_9, rfl, tw_4 (List.mem_of_getElem? (i := 197) rfl) rfl, wi_121, wsl_121, wn_9⟩
theorem pk_9_203 : ix_pk 9 203 6 130 2 := ⟨by decide, rfl, okc_9, rfl, tw_4 (List.mem_of_getElem? (i := 185) rfl) rfl, wi_130, wsl_130, wn_9⟩
theorem pk_9_206 : ix_pk 9 206 6 131 3 := ⟨by decide, rfl, okc_9, rfl, tw_4 (List.mem_of_getElem? (i := 193) rfl) rfl, wi_131, wsl_131, wn_9⟩
theorem pk_9_209 : ix_pk 9 209 2 18446744073709551615 0 := by (show Cond.constantLong "ForkedInvitesModel" 209 (Int64.ofNat 18446744073709551615) ∈ Tw); rw [show Int64.ofNat 18446744073709551615 = (-1 : Int64) from by decide +kernel]; exact tw_4 (List.mem_of_getElem? (i := 226) rfl) rfl
theorem pk_10_7 : ix_pk 10 7 4 0 0 := ⟨okc_0, tw_1 (List.mem_of_getElem? (i := 12) rfl) rfl, tw_1 (List.mem_of_getElem? (i := 13) rfl) rfl, wn_0, fun h => absurd rfl h⟩
theorem pk_10_9 : ix_pk 10 9 8 140 2 := ⟨by decide, rfl, tw_3 (List.mem_of_getElem? (i := 176) rfl) rfl, wi_140, wn_10⟩
theorem pk_10_15 : ix_pk 10 15 7 0 3 := ⟨by decide, rfl, rfl, rfl, tw_1 (List.mem_of_getElem? (i := 14) rfl) rfl, wi_0, wn_0⟩
theorem pk_10_18 : ix_pk 10 18 4 9 0 := ⟨okc_9, tw_3 (List.mem_of_getElem? (i := 179) rfl) rfl, tw_3 (List.mem_of_getElem? (i := 180) rfl) rfl, wn_9, fun h => absurd rfl h⟩
theorem pk_10_20 : ix_pk 10 20 7 94 3 := ⟨by decide, rfl, rfl, rfl, tw_3 (List.mem_of_getElem? (i := 181) rfl) rfl, wi_94, wn_9⟩
theorem pk_10_21 : ix_pk 10 21 6 1 3 := ⟨by decide, rfl, okc_0, rfl, tw_2 (List.mem_of_getElem? (i := 52) rfl) rfl, wi_1, wsl_1, wn_0⟩
theorem pk_10_25 : ix_pk 10 25 6 96 3 := ⟨by decide, rfl, okc_9, rfl, tw_4 (List.mem_of_getElem? (i := 41) rfl) rfl, wi_96, wsl_96, wn_9⟩
theorem pk_10_26 : ix_pk 10 26 6 2 2 := ⟨by decide, rfl, okc_0, rfl, tw_2 (List.mem_of_getElem? (i := 60) rfl) rfl, wi_2, wsl_2, wn_0⟩
theorem pk_10_30 : ix_pk 10 30 6 97 2 := ⟨by decide, rfl, okc_9, rfl, tw_4 (List.mem_of_getElem? (i := 48) rfl) rfl, wi_97, wsl_97, wn_9⟩
theorem pk_10_31 : ix_pk 10 31 6 3 4 := ⟨by decide, rfl, okc_0, rfl, tw_2 (List.mem_of_getElem? (i := 69) rfl) rfl, wi_3, wsl_3, wn_0⟩
theorem pk_10_35 : ix_pk 10 35 6 99 4 := ⟨by decide, rfl, okc_9, rfl, tw_4 (List.mem_of_getElem? (i := 53) rfl) rfl, wi_99, wsl_99, wn_9⟩
theorem pk_10_36 : ix_pk 10 36 6 4 6 := ⟨by decide, rfl, okc_0, rfl, tw_2 (List.mem_of_getElem? (i := 82) rfl) rfl, wi_4, wsl_4, wn_0⟩
theorem pk_10_40 : ix_pk 10 40 6 102 6 := ⟨by decide, rfl, okc_9, rfl, tw_4 (List.mem_of_getElem? (i := 62) rfl) rfl, wi_102, wsl_102, wn_9⟩
theorem pk_10_41 : ix_pk 10 41 6 5 2 := ⟨by decide, rfl, okc_0, rfl, tw_2 (List.mem_of_getElem? (i := 117) rfl) rfl, wi_5, wsl_5, wn_0⟩
theorem pk_10_44 : ix_pk 10 44 6 103 2 := ⟨by decide, rfl, okc_9, rfl, tw_4 (List.mem_of_getElem? (i := 78) rfl) rfl, wi_103, wsl_103, wn_9⟩
theorem pk_10_45 : ix_pk 10 45 6 6 3 := ⟨by decide, rfl, okc_0, rfl, tw_2 (List.mem_of_getElem? (i := 121) rfl) rfl, wi_6, wsl_6, wn_0⟩
theorem pk_10_49 : ix_pk 10 49 6 106 3 := ⟨by decide, rfl, okc_9, rfl, tw_4 (List.mem_of_getElem? (i := 79) rfl) rfl, wi_106, wsl_106, wn_9⟩
theorem pk_10_50 : ix_pk 10 50 6 7 5 := ⟨by decide, rfl, okc_0, rfl, tw_2 (List.mem_of_getElem? (i := 133) rfl) rfl, wi_7, wsl_7, wn_0⟩
theorem pk_10_54 : ix_pk 10 54 6 124 5 := ⟨by decide, rfl, okc_9, rfl, tw_4 (List.mem_of_getElem? (i := 91) rfl) rfl, wi_124, wsl_124, wn_9⟩
theorem pk_10_55 : ix_pk 10 55 6 8 4 := ⟨by decide, rfl, okc_0, rfl, tw_2 (List.mem_of_getElem? (i := 218) rfl) rfl, wi_8, wsl_8, wn_0⟩
theorem pk_10_59 : ix_pk 10 59 6 125 4 := ⟨by decide, rfl, okc_9, rfl, tw_4 (List.mem_of_getElem? (i := 126) rfl) rfl, wi_125, wsl_125, wn_9⟩
theorem pk_10_60 : ix_pk 10 60 6 9 3 := ⟨by decide, rfl, okc_0, rfl, tw_3 (List.mem_of_getElem? (i := 63) rfl) rfl, wi_9, wsl_9, wn_0⟩
theorem pk_10_63 : ix_pk 10 63 6 126 3 := ⟨by decide, rfl, okc_9, rfl, tw_4 (List.mem_of_getElem? (i := 169) rfl) rfl, wi_126, wsl_126, wn_9⟩
theorem pk_10_64 : ix_pk 10 64 6 10 2 := ⟨by decide, rfl, okc_0, rfl, tw_3 (List.mem_of_getElem? (i := 72) rfl) rfl, wi_10, wsl_10, wn_0⟩
theorem pk_10_67 : ix_pk 10 67 6 127 2 := ⟨by decide, rfl, okc_9, rfl, tw_4 (List.mem_of_getElem? (i := 173) rfl) rfl, wi_127, wsl_127, wn_9⟩
theorem pk_10_68 : ix_pk 10 68 6 11 2 := ⟨by decide, rfl, okc_0, rfl, tw_3 (List.mem_of_getElem? (i := 77) rfl) rfl, wi_11, wsl_11, wn_0⟩
theorem pk_10_72 : ix_pk 10 72 6 128 2 := ⟨by decide, rfl, okc_9, rfl, tw_4 (List.mem_of_getElem? (i := 177) rfl) rfl, wi_128, wsl_128, wn_9⟩
theorem pk_10_73 : ix_pk 10 73 6 12 2 := ⟨by decide, rfl, okc_0, rfl, tw_3 (List.mem_of_getElem? (i := 85) rfl) rfl, wi_12, wsl_12, wn_0⟩
theorem pk_10_76 : ix_pk 10 76 6 132 2 := ⟨by decide, rfl, okc_9, rfl, tw_4 (List.mem_of_getElem? (i := 181) rfl) rfl, wi_132, wsl_132, wn_9⟩
theorem pk_10_77 : ix_pk 10 77 6 13 1 := ⟨by decide, rfl, okc_0, rfl, tw_3 (List.mem_of_getElem? (i := 146) rfl) rfl, wi_13, wsl_13, wn_0⟩
theorem pk_10_81 : ix_pk 10 81 6 133 1 := ⟨by decide, rfl, okc_9, rfl, tw_4 (List.mem_of_getElem? (i := 201) rfl) rfl, wi_133, wsl_133, wn_9⟩
theorem pk_10_82 : ix_pk 10 82 6 14 2 := ⟨by decide, rfl, okc_0, rfl, tw_3 (List.mem_of_getElem? (i := 150) rfl) rfl, wi_14, wsl_14, wn_0⟩
theorem pk_10_85 : ix_pk 10 85 6 134 2 := ⟨by decide, rfl, okc_9, rfl, tw_4 (List.mem_of_getElem? (i := 205) rfl) rfl, wi_134, wsl_134, wn_9⟩
theorem pk_10_86 : ix_pk 10 86 6 15 3 := ⟨by decide, rfl, okc_0, rfl, tw_3 (List.mem_of_getElem? (i := 154) rfl) rfl, wi_15, wsl_15, wn_0⟩
theorem pk_10_89 : ix_pk 10 89 6 135 3 := ⟨by decide, rfl, okc_9, rfl, tw_4 (List.mem_of_getElem? (i := 209) rfl) rfl, wi_135, wsl_135, wn_9⟩
theorem pk_10_90 : ix_pk 10 90 6 16 3 := ⟨by decide, rfl, okc_0, rfl, tw_3 (List.mem_of_getElem? (i := 158) rfl) rfl, wi_16, wsl_16, wn_0⟩
theorem pk_10_93 : ix_pk 10 93 6 136 3 := ⟨by decide, rfl, okc_9, rfl, tw_4 (List.mem_of_getElem? (i := 213) rfl) rfl, wi_136, wsl_136, wn_9⟩
theorem pk_10_94 : ix_pk 10 94 6 17 1 := ⟨by decide, rfl, okc_0, rfl, tw_3 (List.mem_of_getElem? (i := 162) rfl) rfl, wi_17, wsl_17, wn_0⟩
theorem pk_10_97 : ix_pk 10 97 6 137 1 := ⟨by decide, rfl, okc_9, rfl, tw_4 (List.mem_of_getElem? (i := 217) rfl) rfl, wi_137, wsl_137, wn_9⟩
theorem pk_10_98 : ix_pk 10 98 6 18 1 := ⟨by decide, rfl, okc_0, rfl, tw_3 (List.mem_of_getElem? (i := 163) rfl) rfl, wi_18, wsl_18, wn_0⟩
theorem pk_10_101 : ix_pk 10 101 6 138 1 := ⟨by decide, rfl, okc_9, rfl, tw_4 (List.mem_of_getElem? (i := 218) rfl) rfl, wi_138, wsl_138, wn_9⟩
theorem pk_10_102 : ix_pk 10 102 6 19 2 := ⟨by decide, rfl, okc_0, rfl, tw_3 (List.mem_of_getElem? (i := 167) rfl) rfl, wi_19, wsl_19, wn_0⟩
theorem pk_10_106 : ix_pk 10 106 6 139 2 := ⟨by decide, rfl, okc_9, rfl, tw_4 (List.mem_of_getElem? (i := 222) rfl) rfl, wi_139, wsl_139, wn_9⟩
def ix_cpl_0 : List (Nat × Nat × Nat × Nat × Nat) := [(0, 1, 9, 0, 1), (0, 7, 4, 4, 0), (0, 9, 11, 0, 2), (0, 15, 10, 0, 2), (0, 18, 7, 59, 2), (0, 21, 3, 0, 0), (0, 27, 4, 5, 0), (0, 29, 7, 60, 2), (0, 32, 3, 0, 1), (0, 36, 4, 8, 103), (0, 38, 3, 0, 2), (0, 42, 7, 81, 2), (0, 43, 4, 3, 104), (0, 45, 3, 0, 3), (0, 49, 7, 42, 4), (0, 52, 3, 0, 4), (0, 56, 6, 20, 2), (0, 60, 3, 8, 1), (0, 63, 1, 69069, 0), (0, 64, 6, 82, 2), (0, 67, 6, 83, 3), (0, 71, 8, 23, 3), (0, 75, 3, 8, 2), (0, 79, 6, 85, 1), (0, 82, 6, 86, 3), (0, 85, 6, 87, 1), (0, 88, 6, 88, 2), (0, 91, 6, 90, 5), (0, 95, 3, 8, 8), (0, 98, 6, 92, 2), (0, 102, 3, 1, 0), (0, 107, 3, 1, 2), (0, 110, 3, 4, 1), (0, 113, 3, 5, 2), (0, 116, 6, 43, 1), (0, 120, 3, 3, 1), (0, 124, 6, 67, 1), (0, 129, 6, 24, 4), (0, 133, 6, 25, 4), (0, 137, 6, 22, 3)]
theorem cpl_0 : ∀ e ∈ ix_cpl_0, ix_pk e.1 e.2.1 e.2.2.1 e.2.2.2.1 e.2.2.2.2 := List.forall_mem_cons.mpr ⟨pk_0_1, List.forall_mem_cons.mpr ⟨pk_0_7, List.forall_mem_cons.mpr ⟨pk_0_9, List.forall_mem_cons.mpr ⟨pk_0_15, List.forall_mem_cons.mpr ⟨pk_0_18, List.forall_mem_cons.mpr ⟨pk_0_21, List.forall_mem_cons.mpr ⟨pk_0_27, List.forall_mem_cons.mpr ⟨pk_0_29, List.forall_mem_cons.mpr ⟨pk_0_32, List.forall_mem_cons.mpr ⟨pk_0_36, List.forall_mem_cons.mpr ⟨pk_0_38, List.forall_mem_cons.mpr ⟨pk_0_42, List.forall_mem_cons.mpr ⟨pk_0_43, List.forall_mem_cons.mpr ⟨pk_0_45, List.forall_mem_cons.mpr ⟨pk_0_49, List.forall_mem_cons.mpr ⟨pk_0_52, List.forall_mem_cons.mpr ⟨pk_0_56, List.forall_mem_cons.mpr ⟨pk_0_60, List.forall_mem_cons.mpr ⟨pk_0_63, List.forall_mem_cons.mpr ⟨pk_0_64, List.forall_mem_cons.mpr ⟨pk_0_67, List.forall_mem_cons.mpr ⟨pk_0_71, List.forall_mem_cons.mpr ⟨pk_0_75, List.forall_mem_cons.mpr ⟨pk_0_79, List.forall_mem_cons.mpr ⟨pk_0_82, List.forall_mem_cons.mpr ⟨pk_0_85, List.forall_mem_cons.mpr ⟨pk_0_88, List.forall_mem_cons.mpr ⟨pk_0_91, List.forall_mem_cons.mpr ⟨pk_0_95, List.forall_mem_cons.mpr ⟨pk_0_98, List.forall_mem_cons.mpr ⟨pk_0_102, List.forall_mem_cons.mpr ⟨pk_0_107, List.forall_mem_cons.mpr ⟨pk_0_110, List.forall_mem_cons.mpr ⟨pk_0_113, List.forall_mem_cons.mpr ⟨pk_0_116, List.forall_mem_cons.mpr ⟨pk_0_120, List.forall_mem_cons.mpr ⟨pk_0_124, List.forall_mem_cons.mpr ⟨pk_0_129, List.forall_mem_cons.mpr ⟨pk_0_133, List.forall_mem_cons.mpr ⟨pk_0_137, fun _ h => absurd h List.not_mem_nil⟩⟩⟩⟩⟩⟩⟩⟩⟩⟩⟩⟩⟩⟩⟩⟩⟩⟩⟩⟩⟩⟩⟩⟩⟩⟩⟩⟩⟩⟩⟩⟩⟩⟩⟩⟩⟩⟩⟩⟩
def ix_cpl_1 : List (Nat × Nat × Nat × Nat × Nat) := [(0, 141, 6, 48, 3), (0, 145, 3, 2, 8), (0, 151, 6, 79, 1), (0, 156, 6, 78, 1), (0, 159, 6, 21, 2), (0, 163, 3, 6, 7), (0, 166, 6, 47, 1), (0, 169, 6, 70, 1), (0, 172, 6, 26, 1), (0, 176, 6, 27, 1), (0, 179, 3, 6, 8), (0, 182, 3, 2, 11), (0, 183, 3, 2, 12), (0, 186, 3, 2, 10), (0, 187, 3, 2, 14), (0, 190, 6, 44, 1), (0, 193, 6, 62, 2), (0, 197, 3, 3, 3), (0, 200, 3, 3, 2), (0, 204, 6, 17, 1), (0, 207, 3, 3, 0), (0, 210, 6, 61, 4), (0, 214, 6, 46, 2), (0, 218, 6, 45, 2), (0, 221, 1, 2147483647, 0), (0, 222, 6, 58, 1), (0, 223, 6, 57, 1), (1, 1, 9, 0, 1), (2, 3, 9, 0, 1), (2, 11, 3, 2, 11), (2, 15, 3, 2, 0), (2, 19, 3, 2, 1), (2, 23, 3, 2, 2), (2, 26, 3, 2, 3), (2, 29, 4, 7, 0), (2, 31, 7, 74, 2), (2, 34, 3, 2, 4), (2, 38, 3, 2, 5), (2, 41, 3, 2, 6), (2, 44, 3, 2, 7)]
theorem cpl_1 : ∀ e ∈ ix_cpl_1, ix_pk e.1 e.2.1 e.2.2.1 e.2.2.2.1 e.2.2.2.2 := List.forall_mem_cons.mpr ⟨pk_0_141, List.forall_mem_cons.mpr ⟨pk_0_145, List.forall_mem_cons.mpr ⟨pk_0_151, List.forall_mem_cons.mpr ⟨pk_0_156, List.forall_mem_cons.mpr ⟨pk_0_159, List.forall_mem_cons.mpr ⟨pk_0_163, List.forall_mem_cons.mpr ⟨pk_0_166, List.forall_mem_cons.mpr ⟨pk_0_169, List.forall_mem_cons.mpr ⟨pk_0_172, List.forall_mem_cons.mpr ⟨pk_0_176, List.forall_mem_cons.mpr ⟨pk_0_179, List.forall_mem_cons.mpr ⟨pk_0_182, List.forall_mem_cons.mpr ⟨pk_0_183, List.forall_mem_cons.mpr ⟨pk_0_186, List.forall_mem_cons.mpr ⟨pk_0_187, List.forall_mem_cons.mpr ⟨pk_0_190, List.forall_mem_cons.mpr ⟨pk_0_193, List.forall_mem_cons.mpr ⟨pk_0_197, List.forall_mem_cons.mpr ⟨pk_0_200, List.forall_mem_cons.mpr ⟨pk_0_204, List.forall_mem_cons.mpr ⟨pk_0_207, List.forall_mem_cons.mpr ⟨pk_0_210, List.forall_mem_cons.mpr ⟨pk_0_214, List.forall_mem_cons.mpr ⟨pk_0_218, List.forall_mem_cons.mpr ⟨pk_0_221, List.forall_mem_cons.mpr ⟨pk_0_222, List.forall_mem_cons.mpr ⟨pk_0_223, List.forall_mem_cons.mpr ⟨pk_1_1, List.forall_mem_cons.mpr ⟨pk_2_3, List.forall_mem_cons.mpr ⟨pk_2_11, List.forall_mem_cons.mpr ⟨pk_2_15, List.forall_mem_cons.mpr ⟨pk_2_19, List.forall_mem_cons.mpr ⟨pk_2_23, List.forall_mem_cons.mpr ⟨pk_2_26, List.forall_mem_cons.mpr ⟨pk_2_29, List.forall_mem_cons.mpr ⟨pk_2_31, List.forall_mem_cons.mpr ⟨pk_2_34, List.forall_mem_cons.mpr ⟨pk_2_38, List.forall_mem_cons.mpr ⟨pk_2_41, List.forall_mem_cons.mpr ⟨pk_2_44, fun _ h => absurd h List.not_mem_nil⟩⟩⟩⟩⟩⟩⟩⟩⟩⟩⟩⟩⟩⟩⟩⟩⟩⟩⟩⟩⟩⟩⟩⟩⟩⟩⟩⟩⟩⟩⟩⟩⟩⟩⟩⟩⟩⟩⟩⟩
def ix_cpl_2 : List (Nat × Nat × Nat × Nat × Nat) := [(2, 47, 3, 2, 8), (2, 50, 3, 2, 9), (2, 53, 3, 2, 10), (2, 56, 3, 2, 12), (2, 60, 3, 2, 13), (2, 63, 3, 2, 14), (2, 66, 6, 39, 2), (2, 70, 6, 61, 4), (2, 76, 3, 4, 0), (2, 81, 6, 75, 2), (2, 84, 6, 78, 1), (2, 87, 6, 37, 1), (2, 90, 6, 31, 1), (2, 94, 6, 80, 1), (2, 97, 6, 76, 1), (2, 100, 6, 38, 1), (2, 103, 6, 34, 1), (2, 106, 6, 77, 2), (2, 109, 3, 7, 2), (2, 112, 11, 0, 2), (3, 3, 9, 0, 1), (3, 9, 4, 2, 106), (3, 11, 3, 3, 2), (3, 17, 3, 3, 0), (3, 21, 4, 6, 0), (3, 23, 7, 63, 4), (3, 26, 3, 3, 1), (3, 30, 7, 29, 5), (3, 33, 6, 44, 1), (3, 37, 3, 6, 7), (3, 40, 3, 3, 3), (3, 43, 3, 2, 11), (3, 44, 6, 69, 2), (3, 48, 3, 3, 4), (3, 51, 6, 64, 1), (3, 54, 6, 92, 2), (3, 60, 3, 1, 0), (3, 65, 6, 30, 2), (3, 68, 6, 31, 1), (3, 72, 6, 34, 1)]
theorem cpl_2 : ∀ e ∈ ix_cpl_2, ix_pk e.1 e.2.1 e.2.2.1 e.2.2.2.1 e.2.2.2.2 := List.forall_mem_cons.mpr ⟨pk_2_47, List.forall_mem_cons.mpr ⟨pk_2_50, List.forall_mem_cons.mpr ⟨pk_2_53, List.forall_mem_cons.mpr ⟨pk_2_56, List.forall_mem_cons.mpr ⟨pk_2_60, List.forall_mem_cons.mpr ⟨pk_2_63, List.forall_mem_cons.mpr ⟨pk_2_66, List.forall_mem_cons.mpr ⟨pk_2_70, List.forall_mem_cons.mpr ⟨pk_2_76, List.forall_mem_cons.mpr ⟨pk_2_81, List.forall_mem_cons.mpr ⟨pk_2_84, List.forall_mem_cons.mpr ⟨pk_2_87, List.forall_mem_cons.mpr ⟨pk_2_90, List.forall_mem_cons.mpr ⟨pk_2_94, List.forall_mem_cons.mpr ⟨pk_2_97, List.forall_mem_cons.mpr ⟨pk_2_100, List.forall_mem_cons.mpr ⟨pk_2_103, List.forall_mem_cons.mpr ⟨pk_2_106, List.forall_mem_cons.mpr ⟨pk_2_109, List.forall_mem_cons.mpr ⟨pk_2_112, List.forall_mem_cons.mpr ⟨pk_3_3, List.forall_mem_cons.mpr ⟨pk_3_9, List.forall_mem_cons.mpr ⟨pk_3_11, List.forall_mem_cons.mpr ⟨pk_3_17, List.forall_mem_cons.mpr ⟨pk_3_21, List.forall_mem_cons.mpr ⟨pk_3_23, List.forall_mem_cons.mpr ⟨pk_3_26, List.forall_mem_cons.mpr ⟨pk_3_30, List.forall_mem_cons.mpr ⟨pk_3_33, List.forall_mem_cons.mpr ⟨pk_3_37, List.forall_mem_cons.mpr ⟨pk_3_40, List.forall_mem_cons.mpr ⟨pk_3_43, List.forall_mem_cons.mpr ⟨pk_3_44, List.forall_mem_cons.mpr ⟨pk_3_48, List.forall_mem_cons.mpr ⟨pk_3_51, List.forall_mem_cons.mpr ⟨pk_3_54, List.forall_mem_cons.mpr ⟨pk_3_60, List.forall_mem_cons.mpr ⟨pk_3_65, List.forall_mem_cons.mpr ⟨pk_3_68, List.forall_mem_cons.mpr ⟨pk_3_72, fun _ h => absurd h List.not_mem_nil⟩⟩⟩⟩⟩⟩⟩⟩⟩⟩⟩⟩⟩⟩⟩⟩⟩⟩⟩⟩⟩⟩⟩⟩⟩⟩⟩⟩⟩⟩⟩⟩⟩⟩⟩⟩⟩⟩⟩⟩
def ix_cpl_3 : List (Nat × Nat × Nat × Nat × Nat) := [(3, 75, 6, 49, 3), (3, 79, 6, 50, 3), (3, 82, 6, 51, 3), (3, 85, 6, 32, 1), (3, 86, 6, 33, 1), (3, 89, 6, 65, 2), (3, 92, 3, 2, 12), (3, 96, 6, 35, 2), (3, 99, 6, 52, 2), (3, 103, 6, 66, 2), (3, 106, 6, 68, 1), (3, 109, 6, 47, 1), (3, 112, 6, 37, 1), (3, 115, 6, 36, 2), (3, 118, 6, 53, 1), (3, 121, 3, 2, 15), (3, 124, 6, 54, 1), (3, 127, 8, 55, 2), (3, 131, 3, 2, 14), (3, 134, 8, 56, 1), (3, 138, 6, 72, 1), (3, 141, 6, 40, 1), (3, 143, 6, 73, 1), (3, 146, 6, 41, 1), (3, 147, 11, 0, 2), (4, 1, 9, 0, 1), (4, 7, 3, 4, 0), (5, 3, 9, 0, 1), (5, 11, 3, 5, 1), (5, 15, 3, 5, 0), (5, 19, 3, 4, 1), (5, 25, 2, 4, 0), (5, 27, 2, 8, 0), (5, 29, 3, 5, 2), (5, 32, 2, 1024, 0), (5, 34, 2, 18446744073709551615, 0), (6, 1, 9, 0, 1), (6, 9, 3, 6, 7), (6, 13, 3, 6, 0), (6, 17, 3, 6, 1)]
theorem cpl_3 : ∀ e ∈ ix_cpl_3, ix_pk e.1 e.2.1 e.2.2.1 e.2.2.2.1 e.2.2.2.2 := List.forall_mem_cons.mpr ⟨pk_3_75, List.forall_mem_cons.mpr ⟨pk_3_79, List.forall_mem_cons.mpr ⟨pk_3_82, List.forall_mem_cons.mpr ⟨pk_3_85, List.forall_mem_cons.mpr ⟨pk_3_86, List.forall_mem_cons.mpr ⟨pk_3_89, List.forall_mem_cons.mpr ⟨pk_3_92, List.forall_mem_cons.mpr ⟨pk_3_96, List.forall_mem_cons.mpr ⟨pk_3_99, List.forall_mem_cons.mpr ⟨pk_3_103, List.forall_mem_cons.mpr ⟨pk_3_106, List.forall_mem_cons.mpr ⟨pk_3_109, List.forall_mem_cons.mpr ⟨pk_3_112, List.forall_mem_cons.mpr ⟨pk_3_115, List.forall_mem_cons.mpr ⟨pk_3_118, List.forall_mem_cons.mpr ⟨pk_3_121, List.forall_mem_cons.mpr ⟨pk_3_124, List.forall_mem_cons.mpr ⟨pk_3_127, List.forall_mem_cons.mpr ⟨pk_3_131, List.forall_mem_cons.mpr ⟨pk_3_134, List.forall_mem_cons.mpr ⟨pk_3_138, List.forall_mem_cons.mpr ⟨pk_3_141, List.forall_mem_cons.mpr ⟨pk_3_143, List.forall_mem_cons.mpr ⟨pk_3_146, List.forall_mem_cons.mpr ⟨pk_3_147, List.forall_mem_cons.mpr ⟨pk_4_1, List.forall_mem_cons.mpr ⟨pk_4_7, List.forall_mem_cons.mpr ⟨pk_5_3, List.forall_mem_cons.mpr ⟨pk_5_11, List.forall_mem_cons.mpr ⟨pk_5_15, List.forall_mem_cons.mpr ⟨pk_5_19, List.forall_mem_cons.mpr ⟨pk_5_25, List.forall_mem_cons.mpr ⟨pk_5_27, List.forall_mem_cons.mpr ⟨pk_5_29, List.forall_mem_cons.mpr ⟨pk_5_32, List.forall_mem_cons.mpr ⟨pk_5_34, List.forall_mem_cons.mpr ⟨pk_6_1, List.forall_mem_cons.mpr ⟨pk_6_9, List.forall_mem_cons.mpr ⟨pk_6_13, List.forall_mem_cons.mpr ⟨pk_6_17, fun _ h => absurd h List.not_mem_nil⟩⟩⟩⟩⟩⟩⟩⟩⟩⟩⟩⟩⟩⟩⟩⟩⟩⟩⟩⟩⟩⟩⟩⟩⟩⟩⟩⟩⟩⟩⟩⟩⟩⟩⟩⟩⟩⟩⟩⟩
def ix_cpl_4 : List (Nat × Nat × Nat × Nat × Nat) := [(6, 21, 3, 6, 2), (6, 24, 4, 7, 0), (6, 26, 7, 74, 2), (6, 29, 3, 6, 3), (6, 33, 3, 6, 4), (6, 36, 3, 6, 5), (6, 39, 3, 6, 6), (6, 42, 6, 71, 2), (6, 46, 6, 65, 2), (6, 49, 3, 6, 8), (6, 54, 6, 61, 4), (6, 58, 3, 4, 0), (6, 63, 6, 75, 2), (6, 66, 6, 78, 1), (6, 69, 6, 80, 1), (6, 73, 6, 77, 2), (6, 76, 3, 7, 2), (6, 79, 11, 0, 2), (7, 1, 9, 0, 1), (7, 9, 1, 2147483647, 0), (7, 10, 3, 7, 2), (7, 14, 3, 7, 0), (7, 18, 3, 7, 1), (7, 21, 3, 4, 1), (7, 26, 6, 75, 2), (7, 30, 11, 0, 2), (8, 3, 9, 0, 1), (8, 9, 4, 1, 105), (8, 11, 3, 8, 7), (8, 17, 3, 8, 0), (8, 21, 12, 28, 1), (8, 22, 3, 8, 3), (8, 26, 3, 8, 4), (8, 30, 3, 4, 1), (8, 35, 3, 8, 5), (8, 38, 3, 8, 6), (8, 41, 3, 4, 0), (8, 44, 3, 8, 1), (8, 47, 8, 84, 3), (8, 51, 3, 8, 2)]
theorem cpl_4 : ∀ e ∈ ix_cpl_4, ix_pk e.1 e.2.1 e.2.2.1 e.2.2.2.1 e.2.2.2.2 := List.forall_mem_cons.mpr ⟨pk_6_21, List.forall_mem_cons.mpr ⟨pk_6_24, List.forall_mem_cons.mpr ⟨pk_6_26, List.forall_mem_cons.mpr ⟨pk_6_29, List.forall_mem_cons.mpr ⟨pk_6_33, List.forall_mem_cons.mpr ⟨pk_6_36, List.forall_mem_cons.mpr ⟨pk_6_39, List.forall_mem_cons.mpr ⟨pk_6_42, List.forall_mem_cons.mpr ⟨pk_6_46, List.forall_mem_cons.mpr ⟨pk_6_49, List.forall_mem_cons.mpr ⟨pk_6_54, List.forall_mem_cons.mpr ⟨pk_6_58, List.forall_mem_cons.mpr ⟨pk_6_63, List.forall_mem_cons.mpr ⟨pk_6_66, List.forall_mem_cons.mpr ⟨pk_6_69, List.forall_mem_cons.mpr ⟨pk_6_73, List.forall_mem_cons.mpr ⟨pk_6_76, List.forall_mem_cons.mpr ⟨pk_6_79, List.forall_mem_cons.mpr ⟨pk_7_1, List.forall_mem_cons.mpr ⟨pk_7_9, List.forall_mem_cons.mpr ⟨pk_7_10, List.forall_mem_cons.mpr ⟨pk_7_14, List.forall_mem_cons.mpr ⟨pk_7_18, List.forall_mem_cons.mpr ⟨pk_7_21, List.forall_mem_cons.mpr ⟨pk_7_26, List.forall_mem_cons.mpr ⟨pk_7_30, List.forall_mem_cons.mpr ⟨pk_8_3, List.forall_mem_cons.mpr ⟨pk_8_9, List.forall_mem_cons.mpr ⟨pk_8_11, List.forall_mem_cons.mpr ⟨pk_8_17, List.forall_mem_cons.mpr ⟨pk_8_21, List.forall_mem_cons.mpr ⟨pk_8_22, List.forall_mem_cons.mpr ⟨pk_8_26, List.forall_mem_cons.mpr ⟨pk_8_30, List.forall_mem_cons.mpr ⟨pk_8_35, List.forall_mem_cons.mpr ⟨pk_8_38, List.forall_mem_cons.mpr ⟨pk_8_41, List.forall_mem_cons.mpr ⟨pk_8_44, List.forall_mem_cons.mpr ⟨pk_8_47, List.forall_mem_cons.mpr ⟨pk_8_51, fun _ h => absurd h List.not_mem_nil⟩⟩⟩⟩⟩⟩⟩⟩⟩⟩⟩⟩⟩⟩⟩⟩⟩⟩⟩⟩⟩⟩⟩⟩⟩⟩⟩⟩⟩⟩⟩⟩⟩⟩⟩⟩⟩⟩⟩⟩
def ix_cpl_5 : List (Nat × Nat × Nat × Nat × Nat) := [(8, 54, 1, 2654435769, 0), (8, 55, 1, 2654435, 0), (8, 56, 3, 8, 8), (8, 59, 3, 1, 2), (8, 62, 6, 89, 2), (8, 66, 3, 1, 0), (8, 69, 3, 1, 3), (8, 72, 3, 1, 4), (8, 75, 6, 91, 2), (8, 79, 3, 1, 1), (8, 82, 6, 93, 2), (9, 1, 9, 0, 1), (9, 7, 3, 9, 3), (9, 13, 3, 9, 4), (9, 17, 3, 9, 5), (9, 20, 3, 9, 6), (9, 23, 3, 9, 7), (9, 26, 3, 9, 8), (9, 29, 3, 9, 9), (9, 32, 3, 9, 10), (9, 35, 3, 9, 11), (9, 38, 3, 9, 12), (9, 41, 3, 9, 14), (9, 44, 3, 9, 15), (9, 47, 3, 9, 16), (9, 50, 3, 9, 17), (9, 53, 3, 9, 18), (9, 56, 3, 9, 19), (9, 59, 3, 9, 20), (9, 62, 3, 9, 21), (9, 65, 3, 9, 22), (9, 68, 3, 9, 23), (9, 71, 3, 9, 24), (9, 74, 3, 9, 25), (9, 77, 3, 9, 26), (9, 80, 3, 9, 27), (9, 83, 3, 9, 29), (9, 87, 3, 9, 0), (9, 91, 3, 9, 2), (9, 94, 8, 95, 3)]
theorem cpl_5 : ∀ e ∈ ix_cpl_5, ix_pk e.1 e.2.1 e.2.2.1 e.2.2.2.1 e.2.2.2.2 := List.forall_mem_cons.mpr ⟨pk_8_54, List.forall_mem_cons.mpr ⟨pk_8_55, List.forall_mem_cons.mpr ⟨pk_8_56, List.forall_mem_cons.mpr ⟨pk_8_59, List.forall_mem_cons.mpr ⟨pk_8_62, List.forall_mem_cons.mpr ⟨pk_8_66, List.forall_mem_cons.mpr ⟨pk_8_69, List.forall_mem_cons.mpr ⟨pk_8_72, List.forall_mem_cons.mpr ⟨pk_8_75, List.forall_mem_cons.mpr ⟨pk_8_79, List.forall_mem_cons.mpr ⟨pk_8_82, List.forall_mem_cons.mpr ⟨pk_9_1, List.forall_mem_cons.mpr ⟨pk_9_7, List.forall_mem_cons.mpr ⟨pk_9_13, List.forall_mem_cons.mpr ⟨pk_9_17, List.forall_mem_cons.mpr ⟨pk_9_20, List.forall_mem_cons.mpr ⟨pk_9_23, List.forall_mem_cons.mpr ⟨pk_9_26, List.forall_mem_cons.mpr ⟨pk_9_29, List.forall_mem_cons.mpr ⟨pk_9_32, List.forall_mem_cons.mpr ⟨pk_9_35, List.forall_mem_cons.mpr ⟨pk_9_38, List.forall_mem_cons.mpr ⟨pk_9_41, List.forall_mem_cons.mpr ⟨pk_9_44, List.forall_mem_cons.mpr ⟨pk_9_47, List.forall_mem_cons.mpr ⟨pk_9_50, List.forall_mem_cons.mpr ⟨pk_9_53, List.forall_mem_cons.mpr ⟨pk_9_56, List.forall_mem_cons.mpr ⟨pk_9_59, List.forall_mem_cons.mpr ⟨pk_9_62, List.forall_mem_cons.mpr ⟨pk_9_65, List.forall_mem_cons.mpr ⟨pk_9_68, List.forall_mem_cons.mpr ⟨pk_9_71, List.forall_mem_cons.mpr ⟨pk_9_74, List.forall_mem_cons.mpr ⟨pk_9_77, List.forall_mem_cons.mpr ⟨pk_9_80, List.forall_mem_cons.mpr ⟨pk_9_83, List.forall_mem_cons.mpr ⟨pk_9_87, List.forall_mem_cons.mpr ⟨pk_9_91, List.forall_mem_cons.mpr ⟨pk_9_94, fun _ h => absurd h List.not_mem_nil⟩⟩⟩⟩⟩⟩⟩⟩⟩⟩⟩⟩⟩⟩⟩⟩⟩⟩⟩⟩⟩⟩⟩⟩⟩⟩⟩⟩⟩⟩⟩⟩⟩⟩⟩⟩⟩⟩⟩⟩
def ix_cpl_6 : List (Nat × Nat × Nat × Nat × Nat) := [(9, 98, 1, 69069, 0), (9, 99, 3, 9, 1), (9, 102, 1, 2654435769, 0), (9, 103, 1, 2654435, 0), (9, 104, 8, 98, 3), (9, 108, 6, 100, 3), (9, 112, 6, 101, 4), (9, 115, 6, 103, 2), (9, 119, 3, 9, 13), (9, 122, 6, 104, 3), (9, 126, 6, 105, 3), (9, 129, 2, 4, 0), (9, 131, 2, 8, 0), (9, 133, 3, 9, 30), (9, 136, 2, 1024, 0), (9, 138, 6, 107, 4), (9, 142, 6, 109, 2), (9, 146, 6, 108, 3), (9, 150, 6, 111, 3), (9, 153, 6, 115, 2), (9, 156, 6, 116, 3), (9, 159, 3, 9, 28), (9, 162, 8, 119, 2), (9, 165, 6, 112, 3), (9, 168, 6, 114, 3), (9, 171, 6, 118, 3), (9, 174, 6, 120, 2), (9, 178, 6, 123, 4), (9, 181, 6, 117, 3), (9, 184, 6, 137, 1), (9, 188, 6, 113, 4), (9, 191, 6, 110, 3), (9, 194, 6, 122, 4), (9, 197, 6, 129, 2), (9, 200, 6, 121, 3), (9, 203, 6, 130, 2), (9, 206, 6, 131, 3), (9, 209, 2, 18446744073709551615, 0), (10, 7, 4, 0, 0), (10, 9, 8, 140, 2)]
theorem cpl_6 : ∀ e ∈ ix_cpl_6, ix_pk e.1 e.2.1 e.2.2.1 e.2.2.2.1 e.2.2.2.2 := List.forall_mem_cons.mpr ⟨pk_9_98, List.forall_mem_cons.mpr ⟨pk_9_99, List.forall_mem_cons.mpr ⟨pk_9_102, List.forall_mem_cons.mpr ⟨pk_9_103, List.forall_mem_cons.mpr ⟨pk_9_104, List.forall_mem_cons.mpr ⟨pk_9_108, List.forall_mem_cons.mpr ⟨pk_9_112, List.forall_mem_cons.mpr ⟨pk_9_115, List.forall_mem_cons.mpr ⟨pk_9_119, List.forall_mem_cons.mpr ⟨pk_9_122, List.forall_mem_cons.mpr ⟨pk_9_126, List.forall_mem_cons.mpr ⟨pk_9_129, List.forall_mem_cons.mpr ⟨pk_9_131, List.forall_mem_cons.mpr ⟨pk_9_133, List.forall_mem_cons.mpr ⟨pk_9_136, List.forall_mem_cons.mpr ⟨pk_9_138, List.forall_mem_cons.mpr ⟨pk_9_142, List.forall_mem_cons.mpr ⟨pk_9_146, List.forall_mem_cons.mpr ⟨pk_9_150, List.forall_mem_cons.mpr ⟨pk_9_153, List.forall_mem_cons.mpr ⟨pk_9_156, List.forall_mem_cons.mpr ⟨pk_9_159, List.forall_mem_cons.mpr ⟨pk_9_162, List.forall_mem_cons.mpr ⟨pk_9_165, List.forall_mem_cons.mpr ⟨pk_9_168, List.forall_mem_cons.mpr ⟨pk_9_171, List.forall_mem_cons.mpr ⟨pk_9_174, List.forall_mem_cons.mpr ⟨pk_9_178, List.forall_mem_cons.mpr ⟨pk_9_181, List.forall_mem_cons.mpr ⟨pk_9_184, List.forall_mem_cons.mpr ⟨pk_9_188, List.forall_mem_cons.mpr ⟨pk_9_191, List.forall_mem_cons.mpr ⟨pk_9_194, List.forall_mem_cons.mpr ⟨pk_9_197, List.forall_mem_cons.mpr ⟨pk_9_200, List.forall_mem_cons.mpr ⟨pk_9_203, List.forall_mem_cons.mpr ⟨pk_9_206, List.forall_mem_cons.mpr ⟨pk_9_209, List.forall_mem_cons.mpr ⟨pk_10_7, List.forall_mem_cons.mpr ⟨pk_10_9, fun _ h => absurd h List.not_mem_nil⟩⟩⟩⟩⟩⟩⟩⟩⟩⟩⟩⟩⟩⟩⟩⟩⟩⟩⟩⟩⟩⟩⟩⟩⟩⟩⟩⟩⟩⟩⟩⟩⟩⟩⟩⟩⟩⟩⟩⟩
def ix_cpl_7 : List (Nat × Nat × Nat × Nat × Nat) := [(10, 15, 7, 0, 3), (10, 18, 4, 9, 0), (10, 20, 7, 94, 3), (10, 21, 6, 1, 3), (10, 25, 6, 96, 3), (10, 26, 6, 2, 2), (10, 30, 6, 97, 2), (10, 31, 6, 3, 4), (10, 35, 6, 99, 4), (10, 36, 6, 4, 6), (10, 40, 6, 102, 6), (10, 41, 6, 5, 2), (10, 44, 6, 103, 2), (10, 45, 6, 6, 3), (10, 49, 6, 106, 3), (10, 50, 6, 7, 5), (10, 54, 6, 124, 5), (10, 55, 6, 8, 4), (10, 59, 6, 125, 4), (10, 60, 6, 9, 3), (10, 63, 6, 126, 3), (10, 64, 6, 10, 2), (10, 67, 6, 127, 2), (10, 68, 6, 11, 2), (10, 72, 6, 128, 2), (10, 73, 6, 12, 2), (10, 76, 6, 132, 2), (10, 77, 6, 13, 1), (10, 81, 6, 133, 1), (10, 82, 6, 14, 2), (10, 85, 6, 134, 2), (10, 86, 6, 15, 3), (10, 89, 6, 135, 3), (10, 90, 6, 16, 3), (10, 93, 6, 136, 3), (10, 94, 6, 17, 1), (10, 97, 6, 137, 1), (10, 98, 6, 18, 1), (10, 101, 6, 138, 1), (10, 102, 6, 19, 2)]
theorem cpl_7 : ∀ e ∈ ix_cpl_7, ix_pk e.1 e.2.1 e.2.2.1 e.2.2.2.1 e.2.2.2.2 := List.forall_mem_cons.mpr ⟨pk_10_15, List.forall_mem_cons.mpr ⟨pk_10_18, List.forall_mem_cons.mpr ⟨pk_10_20, List.forall_mem_cons.mpr ⟨pk_10_21, List.forall_mem_cons.mpr ⟨pk_10_25, List.forall_mem_cons.mpr ⟨pk_10_26, List.forall_mem_cons.mpr ⟨pk_10_30, List.forall_mem_cons.mpr ⟨pk_10_31, List.forall_mem_cons.mpr ⟨pk_10_35, List.forall_mem_cons.mpr ⟨pk_10_36, List.forall_mem_cons.mpr ⟨pk_10_40, List.forall_mem_cons.mpr ⟨pk_10_41, List.forall_mem_cons.mpr ⟨pk_10_44, List.forall_mem_cons.mpr ⟨pk_10_45, List.forall_mem_cons.mpr ⟨pk_10_49, List.forall_mem_cons.mpr ⟨pk_10_50, List.forall_mem_cons.mpr ⟨pk_10_54, List.forall_mem_cons.mpr ⟨pk_10_55, List.forall_mem_cons.mpr ⟨pk_10_59, List.forall_mem_cons.mpr ⟨pk_10_60, List.forall_mem_cons.mpr ⟨pk_10_63, List.forall_mem_cons.mpr ⟨pk_10_64, List.forall_mem_cons.mpr ⟨pk_10_67, List.forall_mem_cons.mpr ⟨pk_10_68, List.forall_mem_cons.mpr ⟨pk_10_72, List.forall_mem_cons.mpr ⟨pk_10_73, List.forall_mem_cons.mpr ⟨pk_10_76, List.forall_mem_cons.mpr ⟨pk_10_77, List.forall_mem_cons.mpr ⟨pk_10_81, List.forall_mem_cons.mpr ⟨pk_10_82, List.forall_mem_cons.mpr ⟨pk_10_85, List.forall_mem_cons.mpr ⟨pk_10_86, List.forall_mem_cons.mpr ⟨pk_10_89, List.forall_mem_cons.mpr ⟨pk_10_90, List.forall_mem_cons.mpr ⟨pk_10_93, List.forall_mem_cons.mpr ⟨pk_10_94, List.forall_mem_cons.mpr ⟨pk_10_97, List.forall_mem_cons.mpr ⟨pk_10_98, List.forall_mem_cons.mpr ⟨pk_10_101, List.forall_mem_cons.mpr ⟨pk_10_102, fun _ h => absurd h List.not_mem_nil⟩⟩⟩⟩⟩⟩⟩⟩⟩⟩⟩⟩⟩⟩⟩⟩⟩⟩⟩⟩⟩⟩⟩⟩⟩⟩⟩⟩⟩⟩⟩⟩⟩⟩⟩⟩⟩⟩⟩⟩
def ix_cpl_8 : List (Nat × Nat × Nat × Nat × Nat) := [(10, 106, 6, 139, 2)]
theorem cpl_8 : ∀ e ∈ ix_cpl_8, ix_pk e.1 e.2.1 e.2.2.1 e.2.2.2.1 e.2.2.2.2 := List.forall_mem_cons.mpr ⟨pk_10_106, fun _ h => absurd h List.not_mem_nil⟩
def ix_cpl : List (Nat × Nat × Nat × Nat × Nat) := ix_cpl_0 ++ (ix_cpl_1 ++ (ix_cpl_2 ++ (ix_cpl_3 ++ (ix_cpl_4 ++ (ix_cpl_5 ++ (ix_cpl_6 ++ (ix_cpl_7 ++ (ix_cpl_8))))))))
theorem cpl_ok : ∀ e ∈ ix_cpl, ix_pk e.1 e.2.1 e.2.2.1 e.2.2.2.1 e.2.2.2.2 := List.forall_mem_append.mpr ⟨cpl_0, List.forall_mem_append.mpr ⟨cpl_1, List.forall_mem_append.mpr ⟨cpl_2, List.forall_mem_append.mpr ⟨cpl_3, List.forall_mem_append.mpr ⟨cpl_4, List.forall_mem_append.mpr ⟨cpl_5, List.forall_mem_append.mpr ⟨cpl_6, List.forall_mem_append.mpr ⟨cpl_7, cpl_8⟩⟩⟩⟩⟩⟩⟩⟩
def ix_cpo (o x : Nat) : Nat × Nat × Nat := match ix_cpl.find? (fun e => Nat.beq e.1 o && Nat.beq e.2.1 x) with
  | some e => e.2.2
  | none => (0, 0, 0)
def ix_cp (k x : Nat) : Nat × Nat × Nat := ix_cpo (ix_on k) x
theorem cp_of {k o x : Nat} {q : Nat × Nat × Nat} (h : ix_on k = o) (hq : ix_cpo o x = q) : ix_cp k x = q := by
  unfold ix_cp
  rw [h]
  exact hq
theorem cp_pk {k x : Nat} (h : ¬ (ix_cp k x).1 = 0) : ix_pk (ix_on k) x (ix_cp k x).1 (ix_cp k x).2.1 (ix_cp k x).2.2 := by
  unfold ix_cp ix_cpo at h ⊢
  cases hf : ix_cpl.find? (fun e => Nat.beq e.1 (ix_on k) && Nat.beq e.2.1 x) with
  | none => rw [hf] at h; exact absurd rfl h
  | some e =>
    have h1 := cpl_ok e (List.mem_of_find?_eq_some hf)
    have h2 := List.find?_some hf
    simp only [Bool.and_eq_true] at h2
    rw [Nat.eq_of_beq_eq_true h2.1, Nat.eq_of_beq_eq_true h2.2] at h1
    exact h1
theorem cp_z {k x z : Nat} (h : (ix_cp k x).1 = z) (hz : ¬ z = 0) : ix_pk (ix_on k) x z (ix_cp k x).2.1 (ix_cp k x).2.2 := by
  have := cp_pk (k := k) (x := x) (by rw [h]; exact hz)
  rw [h] at this
  exact this
def ix_at (a : Jvm.ClassFile.ArrayType) : Nat := match a with | .int => 100 | .boolean => 101 | .long => 102 | _ => 0
theorem aw_in {a : Jvm.ClassFile.ArrayType} (h : ¬ ix_at a = 0) : Cond.arrayClass (newarray.typeOf a) ∈ Tw := by
  cases a with
  | int => exact tw_4 (List.mem_of_getElem? (i := 39) rfl) rfl
  | boolean => exact tw_4 (List.mem_of_getElem? (i := 40) rfl) rfl
  | long => exact tw_1 (List.mem_of_getElem? (i := 62) rfl) rfl
  | _ => exact absurd rfl h
theorem tz_ge : 103 ≤ ix_tz := by decide
theorem tz_le : ix_tz ≤ 9999 := by decide
theorem aty_len : ix_aty.length = ix_tz - 100 := rfl
theorem aty_0 : ix_aty[100 - 100]? = some .int := rfl
theorem aty_1 : ix_aty[101 - 100]? = some .boolean := rfl
theorem aty_2 : ix_aty[102 - 100]? = some .long := rfl
theorem ar_ref {t : Nat} (h1 : 103 ≤ t) (h2 : t < ix_tz) : ix_okc (ix_co t) ∧ ix_aty[t - 100]? = some (.object (ix_cl (ix_co t)).1) := by
  have h3 : t < 107 := h2
  rcases (show t = 103 ∨ t = 104 ∨ t = 105 ∨ t = 106 by omega) with rfl | rfl | rfl | rfl
  · exact ⟨okc_8, rfl⟩
  · exact ⟨okc_3, rfl⟩
  · exact ⟨okc_1, rfl⟩
  · exact ⟨okc_2, rfl⟩
theorem rok_0 {r : Option FieldType} {k : Nat} (h : ix_rok r k) (hk : k = 0) : r = none := by
  rcases h with ⟨_, h⟩ | ⟨a, _⟩ | ⟨a, _⟩ | ⟨a, _⟩ | ⟨a, _⟩ <;> first | exact h | omega
theorem rok_1 {r : Option FieldType} {k : Nat} (h : ix_rok r k) (hk : k = 1) : r = some .int := by
  rcases h with ⟨a, _⟩ | ⟨_, h⟩ | ⟨a, _⟩ | ⟨a, _⟩ | ⟨a, _⟩ <;> first | exact h | omega
theorem rok_2 {r : Option FieldType} {k : Nat} (h : ix_rok r k) (hk : k = 2) : r = some .boolean := by
  rcases h with ⟨a, _⟩ | ⟨a, _⟩ | ⟨_, h⟩ | ⟨a, _⟩ | ⟨a, _⟩ <;> first | exact h | omega
theorem rok_3 {r : Option FieldType} {k : Nat} (h : ix_rok r k) (hk : k = 3) : r = some .long := by
  rcases h with ⟨a, _⟩ | ⟨a, _⟩ | ⟨a, _⟩ | ⟨_, h⟩ | ⟨a, _⟩ <;> first | exact h | omega
theorem rok_4 {r : Option FieldType} {k : Nat} (h : ix_rok r k) (hk : k = 4) : ∃ rt, r = some rt ∧ ((∃ n, rt = .object n) ∨ ∃ t, rt = .array t) := by
  rcases h with ⟨a, _⟩ | ⟨a, _⟩ | ⟨a, _⟩ | ⟨a, _⟩ | ⟨_, h⟩ <;> first | exact h | omega
end
section
theorem d_0_0 : decode prog_1_method_1_code 0 = .ok (.aload_n 0, 1) := by decide +kernel
theorem d_0_1 : decode prog_1_method_1_code 1 = .ok (.invokespecial 1, 3) := by decide +kernel
theorem d_0_4 : decode prog_1_method_1_code 4 = .ok (.aload_n 0, 1) := by decide +kernel
theorem d_0_5 : decode prog_1_method_1_code 5 = .ok (.new 7, 3) := by decide +kernel
theorem d_0_8 : decode prog_1_method_1_code 8 = .ok (.dup, 1) := by decide +kernel
theorem d_0_9 : decode prog_1_method_1_code 9 = .ok (.iconst 1, 1) := by decide +kernel
theorem d_0_10 : decode prog_1_method_1_code 10 = .ok (.bipush 100, 2) := by decide +kernel
theorem d_0_12 : decode prog_1_method_1_code 12 = .ok (.iload_n 1, 1) := by decide +kernel
theorem d_0_13 : decode prog_1_method_1_code 13 = .ok (.invokestatic 9, 3) := by decide +kernel
theorem d_0_16 : decode prog_1_method_1_code 16 = .ok (.invokestatic 15, 3) := by decide +kernel
theorem d_0_19 : decode prog_1_method_1_code 19 = .ok (.invokespecial 18, 3) := by decide +kernel
theorem d_0_22 : decode prog_1_method_1_code 22 = .ok (.putfield 21, 3) := by decide +kernel
theorem d_0_25 : decode prog_1_method_1_code 25 = .ok (.aload_n 0, 1) := by decide +kernel
theorem d_0_26 : decode prog_1_method_1_code 26 = .ok (.new 27, 3) := by decide +kernel
theorem d_0_29 : decode prog_1_method_1_code 29 = .ok (.dup, 1) := by decide +kernel
theorem d_0_30 : decode prog_1_method_1_code 30 = .ok (.aload_n 0, 1) := by decide +kernel
theorem d_0_31 : decode prog_1_method_1_code 31 = .ok (.getfield 21, 3) := by decide +kernel
theorem d_0_34 : decode prog_1_method_1_code 34 = .ok (.invokespecial 29, 3) := by decide +kernel
theorem d_0_37 : decode prog_1_method_1_code 37 = .ok (.putfield 32, 3) := by decide +kernel
theorem d_0_40 : decode prog_1_method_1_code 40 = .ok (.aload_n 0, 1) := by decide +kernel
theorem d_0_41 : decode prog_1_method_1_code 41 = .ok (.iconst 4, 1) := by decide +kernel
theorem d_0_42 : decode prog_1_method_1_code 42 = .ok (.anewarray 36, 3) := by decide +kernel
theorem d_0_45 : decode prog_1_method_1_code 45 = .ok (.putfield 38, 3) := by decide +kernel
theorem d_0_48 : decode prog_1_method_1_code 48 = .ok (.iconst 0, 1) := by decide +kernel
theorem d_0_49 : decode prog_1_method_1_code 49 = .ok (.istore_n 3, 1) := by decide +kernel
theorem d_0_50 : decode prog_1_method_1_code 50 = .ok (.iload_n 3, 1) := by decide +kernel
theorem d_0_51 : decode prog_1_method_1_code 51 = .ok (.iconst 4, 1) := by decide +kernel
theorem d_0_52 : decode prog_1_method_1_code 52 = .ok (.if_icmp .ge 26, 3) := by decide +kernel
theorem d_0_55 : decode prog_1_method_1_code 55 = .ok (.aload_n 0, 1) := by decide +kernel
theorem d_0_56 : decode prog_1_method_1_code 56 = .ok (.getfield 38, 3) := by decide +kernel
theorem d_0_59 : decode prog_1_method_1_code 59 = .ok (.iload_n 3, 1) := by decide +kernel
theorem d_0_60 : decode prog_1_method_1_code 60 = .ok (.new 36, 3) := by decide +kernel
theorem d_0_63 : decode prog_1_method_1_code 63 = .ok (.dup, 1) := by decide +kernel
theorem d_0_64 : decode prog_1_method_1_code 64 = .ok (.aload_n 0, 1) := by decide +kernel
theorem d_0_65 : decode prog_1_method_1_code 65 = .ok (.getfield 21, 3) := by decide +kernel
theorem d_0_68 : decode prog_1_method_1_code 68 = .ok (.invokespecial 42, 3) := by decide +kernel
theorem d_0_71 : decode prog_1_method_1_code 71 = .ok (.aastore, 1) := by decide +kernel
theorem d_0_72 : decode prog_1_method_1_code 72 = .ok (.iinc 3 1, 3) := by decide +kernel
theorem d_0_75 : decode prog_1_method_1_code 75 = .ok (.goto (-25), 3) := by decide +kernel
theorem d_0_78 : decode prog_1_method_1_code 78 = .ok (.aload_n 0, 1) := by decide +kernel
theorem d_0_79 : decode prog_1_method_1_code 79 = .ok (.iconst 4, 1) := by decide +kernel
theorem d_0_80 : decode prog_1_method_1_code 80 = .ok (.anewarray 43, 3) := by decide +kernel
theorem d_0_83 : decode prog_1_method_1_code 83 = .ok (.putfield 45, 3) := by decide +kernel
theorem d_0_86 : decode prog_1_method_1_code 86 = .ok (.iconst 0, 1) := by decide +kernel
theorem d_0_87 : decode prog_1_method_1_code 87 = .ok (.istore_n 3, 1) := by decide +kernel
theorem d_0_88 : decode prog_1_method_1_code 88 = .ok (.iload_n 3, 1) := by decide +kernel
theorem d_0_89 : decode prog_1_method_1_code 89 = .ok (.iconst 4, 1) := by decide +kernel
theorem d_0_90 : decode prog_1_method_1_code 90 = .ok (.if_icmp .ge 31, 3) := by decide +kernel
theorem d_0_93 : decode prog_1_method_1_code 93 = .ok (.aload_n 0, 1) := by decide +kernel
theorem d_0_94 : decode prog_1_method_1_code 94 = .ok (.getfield 45, 3) := by decide +kernel
theorem d_0_97 : decode prog_1_method_1_code 97 = .ok (.iload_n 3, 1) := by decide +kernel
theorem d_0_98 : decode prog_1_method_1_code 98 = .ok (.new 43, 3) := by decide +kernel
theorem d_0_101 : decode prog_1_method_1_code 101 = .ok (.dup, 1) := by decide +kernel
theorem d_0_102 : decode prog_1_method_1_code 102 = .ok (.aload_n 0, 1) := by decide +kernel
theorem d_0_103 : decode prog_1_method_1_code 103 = .ok (.getfield 21, 3) := by decide +kernel
theorem d_0_106 : decode prog_1_method_1_code 106 = .ok (.aload_n 0, 1) := by decide +kernel
theorem d_0_107 : decode prog_1_method_1_code 107 = .ok (.getfield 32, 3) := by decide +kernel
theorem d_0_110 : decode prog_1_method_1_code 110 = .ok (.iload_n 3, 1) := by decide +kernel
theorem d_0_111 : decode prog_1_method_1_code 111 = .ok (.invokespecial 49, 3) := by decide +kernel
theorem d_0_114 : decode prog_1_method_1_code 114 = .ok (.aastore, 1) := by decide +kernel
theorem d_0_115 : decode prog_1_method_1_code 115 = .ok (.iinc 3 1, 3) := by decide +kernel
theorem d_0_118 : decode prog_1_method_1_code 118 = .ok (.goto (-30), 3) := by decide +kernel
theorem d_0_121 : decode prog_1_method_1_code 121 = .ok (.aload_n 0, 1) := by decide +kernel
theorem d_0_122 : decode prog_1_method_1_code 122 = .ok (.iload_n 2, 1) := by decide +kernel
theorem d_0_123 : decode prog_1_method_1_code 123 = .ok (.putfield 52, 3) := by decide +kernel
theorem d_0_126 : decode prog_1_method_1_code 126 = .ok (.return_, 1) := by decide +kernel
theorem d_1_0 : decode prog_1_method_2_code 0 = .ok (.aload_n 0, 1) := by decide +kernel
theorem d_1_1 : decode prog_1_method_2_code 1 = .ok (.iload_n 1, 1) := by decide +kernel
theorem d_1_2 : decode prog_1_method_2_code 2 = .ok (.invokevirtual 56, 3) := by decide +kernel
theorem d_1_5 : decode prog_1_method_2_code 5 = .ok (.astore_n 3, 1) := by decide +kernel
theorem d_1_6 : decode prog_1_method_2_code 6 = .ok (.aload_n 3, 1) := by decide +kernel
theorem d_1_7 : decode prog_1_method_2_code 7 = .ok (.ifnonnull 5, 3) := by decide +kernel
theorem d_1_10 : decode prog_1_method_2_code 10 = .ok (.iconst 0, 1) := by decide +kernel
theorem d_1_11 : decode prog_1_method_2_code 11 = .ok (.ireturn, 1) := by decide +kernel
theorem d_1_12 : decode prog_1_method_2_code 12 = .ok (.aload_n 3, 1) := by decide +kernel
theorem d_1_13 : decode prog_1_method_2_code 13 = .ok (.iload_n 2, 1) := by decide +kernel
theorem d_1_14 : decode prog_1_method_2_code 14 = .ok (.putfield 60, 3) := by decide +kernel
theorem d_1_17 : decode prog_1_method_2_code 17 = .ok (.iconst 1, 1) := by decide +kernel
theorem d_1_18 : decode prog_1_method_2_code 18 = .ok (.ireturn, 1) := by decide +kernel
theorem d_2_0 : decode prog_1_method_3_code 0 = .ok (.aload_n 0, 1) := by decide +kernel
theorem d_2_1 : decode prog_1_method_3_code 1 = .ok (.iload_n 1, 1) := by decide +kernel
theorem d_2_2 : decode prog_1_method_3_code 2 = .ok (.invokevirtual 56, 3) := by decide +kernel
theorem d_2_5 : decode prog_1_method_3_code 5 = .ok (.astore_n 2, 1) := by decide +kernel
theorem d_2_6 : decode prog_1_method_3_code 6 = .ok (.aload_n 2, 1) := by decide +kernel
theorem d_2_7 : decode prog_1_method_3_code 7 = .ok (.ifnonnull 5, 3) := by decide +kernel
theorem d_2_10 : decode prog_1_method_3_code 10 = .ok (.iconst 0, 1) := by decide +kernel
theorem d_2_11 : decode prog_1_method_3_code 11 = .ok (.ireturn, 1) := by decide +kernel
theorem d_2_12 : decode prog_1_method_3_code 12 = .ok (.aload_n 0, 1) := by decide +kernel
theorem d_2_13 : decode prog_1_method_3_code 13 = .ok (.aload_n 0, 1) := by decide +kernel
theorem d_2_14 : decode prog_1_method_3_code 14 = .ok (.getfield 52, 3) := by decide +kernel
theorem d_2_17 : decode prog_1_method_3_code 17 = .ok (.ldc 63, 2) := by decide +kernel
theorem d_2_19 : decode prog_1_method_3_code 19 = .ok (.imul, 1) := by decide +kernel
theorem d_2_20 : decode prog_1_method_3_code 20 = .ok (.iconst 1, 1) := by decide +kernel
theorem d_2_21 : decode prog_1_method_3_code 21 = .ok (.iadd, 1) := by decide +kernel
theorem d_2_22 : decode prog_1_method_3_code 22 = .ok (.putfield 52, 3) := by decide +kernel
theorem d_2_25 : decode prog_1_method_3_code 25 = .ok (.aload_n 2, 1) := by decide +kernel
theorem d_2_26 : decode prog_1_method_3_code 26 = .ok (.aload_n 0, 1) := by decide +kernel
theorem d_2_27 : decode prog_1_method_3_code 27 = .ok (.getfield 52, 3) := by decide +kernel
theorem d_2_30 : decode prog_1_method_3_code 30 = .ok (.invokevirtual 64, 3) := by decide +kernel
theorem d_2_33 : decode prog_1_method_3_code 33 = .ok (.aload_n 0, 1) := by decide +kernel
theorem d_2_34 : decode prog_1_method_3_code 34 = .ok (.getfield 52, 3) := by decide +kernel
theorem d_2_37 : decode prog_1_method_3_code 37 = .ok (.ireturn, 1) := by decide +kernel
theorem d_3_0 : decode prog_1_method_4_code 0 = .ok (.aload_n 0, 1) := by decide +kernel
theorem d_3_1 : decode prog_1_method_4_code 1 = .ok (.iload_n 1, 1) := by decide +kernel
theorem d_3_2 : decode prog_1_method_4_code 2 = .ok (.invokevirtual 56, 3) := by decide +kernel
theorem d_3_5 : decode prog_1_method_4_code 5 = .ok (.astore 4, 2) := by decide +kernel
theorem d_3_7 : decode prog_1_method_4_code 7 = .ok (.aload 4, 2) := by decide +kernel
theorem d_3_9 : decode prog_1_method_4_code 9 = .ok (.ifnull 17, 3) := by decide +kernel
theorem d_3_12 : decode prog_1_method_4_code 12 = .ok (.aload 4, 2) := by decide +kernel
theorem d_3_14 : decode prog_1_method_4_code 14 = .ok (.iload_n 2, 1) := by decide +kernel
theorem d_3_15 : decode prog_1_method_4_code 15 = .ok (.iload_n 3, 1) := by decide +kernel
theorem d_3_16 : decode prog_1_method_4_code 16 = .ok (.invokevirtual 67, 3) := by decide +kernel
theorem d_3_19 : decode prog_1_method_4_code 19 = .ok (.ifCond .eq 7, 3) := by decide +kernel
theorem d_3_22 : decode prog_1_method_4_code 22 = .ok (.iconst 1, 1) := by decide +kernel
theorem d_3_23 : decode prog_1_method_4_code 23 = .ok (.goto 4, 3) := by decide +kernel
theorem d_3_26 : decode prog_1_method_4_code 26 = .ok (.iconst 0, 1) := by decide +kernel
theorem d_3_27 : decode prog_1_method_4_code 27 = .ok (.ireturn, 1) := by decide +kernel
theorem d_4_0 : decode prog_1_method_5_code 0 = .ok (.aload_n 0, 1) := by decide +kernel
theorem d_4_1 : decode prog_1_method_5_code 1 = .ok (.iload_n 1, 1) := by decide +kernel
theorem d_4_2 : decode prog_1_method_5_code 2 = .ok (.invokevirtual 56, 3) := by decide +kernel
theorem d_4_5 : decode prog_1_method_5_code 5 = .ok (.astore 6, 2) := by decide +kernel
theorem d_4_7 : decode prog_1_method_5_code 7 = .ok (.aload 6, 2) := by decide +kernel
theorem d_4_9 : decode prog_1_method_5_code 9 = .ok (.ifnull 13, 3) := by decide +kernel
theorem d_4_12 : decode prog_1_method_5_code 12 = .ok (.iload_n 2, 1) := by decide +kernel
theorem d_4_13 : decode prog_1_method_5_code 13 = .ok (.iload_n 3, 1) := by decide +kernel
theorem d_4_14 : decode prog_1_method_5_code 14 = .ok (.iload 4, 2) := by decide +kernel
theorem d_4_16 : decode prog_1_method_5_code 16 = .ok (.invokestatic 71, 3) := by decide +kernel
theorem d_4_19 : decode prog_1_method_5_code 19 = .ok (.ifCond .ne 7, 3) := by decide +kernel
theorem d_4_22 : decode prog_1_method_5_code 22 = .ok (.sipush 400, 3) := by decide +kernel
theorem d_4_25 : decode prog_1_method_5_code 25 = .ok (.ireturn, 1) := by decide +kernel
theorem d_4_26 : decode prog_1_method_5_code 26 = .ok (.aload 6, 2) := by decide +kernel
theorem d_4_28 : decode prog_1_method_5_code 28 = .ok (.getfield 75, 3) := by decide +kernel
theorem d_4_31 : decode prog_1_method_5_code 31 = .ok (.ifCond .ne 7, 3) := by decide +kernel
theorem d_4_34 : decode prog_1_method_5_code 34 = .ok (.sipush 401, 3) := by decide +kernel
theorem d_4_37 : decode prog_1_method_5_code 37 = .ok (.ireturn, 1) := by decide +kernel
theorem d_4_38 : decode prog_1_method_5_code 38 = .ok (.aload 6, 2) := by decide +kernel
theorem d_4_40 : decode prog_1_method_5_code 40 = .ok (.iconst 0, 1) := by decide +kernel
theorem d_4_41 : decode prog_1_method_5_code 41 = .ok (.putfield 75, 3) := by decide +kernel
theorem d_4_44 : decode prog_1_method_5_code 44 = .ok (.aload 6, 2) := by decide +kernel
theorem d_4_46 : decode prog_1_method_5_code 46 = .ok (.invokevirtual 79, 3) := by decide +kernel
theorem d_4_49 : decode prog_1_method_5_code 49 = .ok (.aload 6, 2) := by decide +kernel
theorem d_4_51 : decode prog_1_method_5_code 51 = .ok (.iload_n 2, 1) := by decide +kernel
theorem d_4_52 : decode prog_1_method_5_code 52 = .ok (.iload 5, 2) := by decide +kernel
theorem d_4_54 : decode prog_1_method_5_code 54 = .ok (.invokevirtual 82, 3) := by decide +kernel
theorem d_4_57 : decode prog_1_method_5_code 57 = .ok (.ifCond .eq 7, 3) := by decide +kernel
theorem d_4_60 : decode prog_1_method_5_code 60 = .ok (.sipush 500, 3) := by decide +kernel
theorem d_4_63 : decode prog_1_method_5_code 63 = .ok (.ireturn, 1) := by decide +kernel
theorem d_4_64 : decode prog_1_method_5_code 64 = .ok (.iload_n 2, 1) := by decide +kernel
theorem d_4_65 : decode prog_1_method_5_code 65 = .ok (.iconst (-1), 1) := by decide +kernel
theorem d_4_66 : decode prog_1_method_5_code 66 = .ok (.if_icmp .ne 12, 3) := by decide +kernel
theorem d_4_69 : decode prog_1_method_5_code 69 = .ok (.aload 6, 2) := by decide +kernel
theorem d_4_71 : decode prog_1_method_5_code 71 = .ok (.invokevirtual 85, 3) := by decide +kernel
theorem d_4_74 : decode prog_1_method_5_code 74 = .ok (.sipush 200, 3) := by decide +kernel
theorem d_4_77 : decode prog_1_method_5_code 77 = .ok (.ireturn, 1) := by decide +kernel
theorem d_4_78 : decode prog_1_method_5_code 78 = .ok (.iload 4, 2) := by decide +kernel
theorem d_4_80 : decode prog_1_method_5_code 80 = .ok (.ifCond .ne 13, 3) := by decide +kernel
theorem d_4_83 : decode prog_1_method_5_code 83 = .ok (.aload 6, 2) := by decide +kernel
theorem d_4_85 : decode prog_1_method_5_code 85 = .ok (.iload_n 2, 1) := by decide +kernel
theorem d_4_86 : decode prog_1_method_5_code 86 = .ok (.invokevirtual 88, 3) := by decide +kernel
theorem d_4_89 : decode prog_1_method_5_code 89 = .ok (.sipush 200, 3) := by decide +kernel
theorem d_4_92 : decode prog_1_method_5_code 92 = .ok (.ireturn, 1) := by decide +kernel
theorem d_4_93 : decode prog_1_method_5_code 93 = .ok (.aload 6, 2) := by decide +kernel
theorem d_4_95 : decode prog_1_method_5_code 95 = .ok (.iload_n 2, 1) := by decide +kernel
theorem d_4_96 : decode prog_1_method_5_code 96 = .ok (.iload_n 3, 1) := by decide +kernel
theorem d_4_97 : decode prog_1_method_5_code 97 = .ok (.iload 4, 2) := by decide +kernel
theorem d_4_99 : decode prog_1_method_5_code 99 = .ok (.iload 5, 2) := by decide +kernel
theorem d_4_101 : decode prog_1_method_5_code 101 = .ok (.invokevirtual 91, 3) := by decide +kernel
theorem d_4_104 : decode prog_1_method_5_code 104 = .ok (.ifCond .eq 9, 3) := by decide +kernel
theorem d_4_107 : decode prog_1_method_5_code 107 = .ok (.sipush 200, 3) := by decide +kernel
theorem d_4_110 : decode prog_1_method_5_code 110 = .ok (.goto 6, 3) := by decide +kernel
theorem d_4_113 : decode prog_1_method_5_code 113 = .ok (.sipush 503, 3) := by decide +kernel
theorem d_4_116 : decode prog_1_method_5_code 116 = .ok (.ireturn, 1) := by decide +kernel
theorem d_5_0 : decode prog_1_method_6_code 0 = .ok (.aload_n 0, 1) := by decide +kernel
theorem d_5_1 : decode prog_1_method_6_code 1 = .ok (.iload_n 1, 1) := by decide +kernel
theorem d_5_2 : decode prog_1_method_6_code 2 = .ok (.invokevirtual 56, 3) := by decide +kernel
theorem d_5_5 : decode prog_1_method_6_code 5 = .ok (.astore_n 2, 1) := by decide +kernel
theorem d_5_6 : decode prog_1_method_6_code 6 = .ok (.aload_n 2, 1) := by decide +kernel
theorem d_5_7 : decode prog_1_method_6_code 7 = .ok (.ifnonnull 5, 3) := by decide +kernel
theorem d_5_10 : decode prog_1_method_6_code 10 = .ok (.iconst 0, 1) := by decide +kernel
theorem d_5_11 : decode prog_1_method_6_code 11 = .ok (.ireturn, 1) := by decide +kernel
theorem d_5_12 : decode prog_1_method_6_code 12 = .ok (.aload_n 2, 1) := by decide +kernel
theorem d_5_13 : decode prog_1_method_6_code 13 = .ok (.invokevirtual 79, 3) := by decide +kernel
theorem d_5_16 : decode prog_1_method_6_code 16 = .ok (.aload_n 2, 1) := by decide +kernel
theorem d_5_17 : decode prog_1_method_6_code 17 = .ok (.getfield 95, 3) := by decide +kernel
theorem d_5_20 : decode prog_1_method_6_code 20 = .ok (.ireturn, 1) := by decide +kernel
theorem d_6_0 : decode prog_1_method_7_code 0 = .ok (.aload_n 0, 1) := by decide +kernel
theorem d_6_1 : decode prog_1_method_7_code 1 = .ok (.iload_n 1, 1) := by decide +kernel
theorem d_6_2 : decode prog_1_method_7_code 2 = .ok (.invokevirtual 56, 3) := by decide +kernel
theorem d_6_5 : decode prog_1_method_7_code 5 = .ok (.astore_n 3, 1) := by decide +kernel
theorem d_6_6 : decode prog_1_method_7_code 6 = .ok (.aload_n 3, 1) := by decide +kernel
theorem d_6_7 : decode prog_1_method_7_code 7 = .ok (.ifnonnull 5, 3) := by decide +kernel
theorem d_6_10 : decode prog_1_method_7_code 10 = .ok (.iconst (-1), 1) := by decide +kernel
theorem d_6_11 : decode prog_1_method_7_code 11 = .ok (.ireturn, 1) := by decide +kernel
theorem d_6_12 : decode prog_1_method_7_code 12 = .ok (.aload_n 3, 1) := by decide +kernel
theorem d_6_13 : decode prog_1_method_7_code 13 = .ok (.invokevirtual 79, 3) := by decide +kernel
theorem d_6_16 : decode prog_1_method_7_code 16 = .ok (.aload_n 3, 1) := by decide +kernel
theorem d_6_17 : decode prog_1_method_7_code 17 = .ok (.iload_n 2, 1) := by decide +kernel
theorem d_6_18 : decode prog_1_method_7_code 18 = .ok (.invokevirtual 98, 3) := by decide +kernel
theorem d_6_21 : decode prog_1_method_7_code 21 = .ok (.astore 4, 2) := by decide +kernel
theorem d_6_23 : decode prog_1_method_7_code 23 = .ok (.aload 4, 2) := by decide +kernel
theorem d_6_25 : decode prog_1_method_7_code 25 = .ok (.ifnonnull 7, 3) := by decide +kernel
theorem d_6_28 : decode prog_1_method_7_code 28 = .ok (.iconst (-1), 1) := by decide +kernel
theorem d_6_29 : decode prog_1_method_7_code 29 = .ok (.goto 25, 3) := by decide +kernel
theorem d_6_32 : decode prog_1_method_7_code 32 = .ok (.aload 4, 2) := by decide +kernel
theorem d_6_34 : decode prog_1_method_7_code 34 = .ok (.getfield 102, 3) := by decide +kernel
theorem d_6_37 : decode prog_1_method_7_code 37 = .ok (.bipush 16, 2) := by decide +kernel
theorem d_6_39 : decode prog_1_method_7_code 39 = .ok (.aload 4, 2) := by decide +kernel
theorem d_6_41 : decode prog_1_method_7_code 41 = .ok (.getfield 107, 3) := by decide +kernel
theorem d_6_44 : decode prog_1_method_7_code 44 = .ok (.aload_n 0, 1) := by decide +kernel
theorem d_6_45 : decode prog_1_method_7_code 45 = .ok (.getfield 21, 3) := by decide +kernel
theorem d_6_48 : decode prog_1_method_7_code 48 = .ok (.getfield 110, 3) := by decide +kernel
theorem d_6_51 : decode prog_1_method_7_code 51 = .ok (.isub, 1) := by decide +kernel
theorem d_6_52 : decode prog_1_method_7_code 52 = .ok (.imul, 1) := by decide +kernel
theorem d_6_53 : decode prog_1_method_7_code 53 = .ok (.iadd, 1) := by decide +kernel
theorem d_6_54 : decode prog_1_method_7_code 54 = .ok (.ireturn, 1) := by decide +kernel
theorem d_7_0 : decode prog_1_method_8_code 0 = .ok (.iload_n 1, 1) := by decide +kernel
theorem d_7_1 : decode prog_1_method_8_code 1 = .ok (.ifCond .lt 8, 3) := by decide +kernel
theorem d_7_4 : decode prog_1_method_8_code 4 = .ok (.iload_n 1, 1) := by decide +kernel
theorem d_7_5 : decode prog_1_method_8_code 5 = .ok (.iconst 4, 1) := by decide +kernel
theorem d_7_6 : decode prog_1_method_8_code 6 = .ok (.if_icmp .lt 5, 3) := by decide +kernel
theorem d_7_9 : decode prog_1_method_8_code 9 = .ok (.iconst (-1), 1) := by decide +kernel
theorem d_7_10 : decode prog_1_method_8_code 10 = .ok (.ireturn, 1) := by decide +kernel
theorem d_7_11 : decode prog_1_method_8_code 11 = .ok (.aload_n 0, 1) := by decide +kernel
theorem d_7_12 : decode prog_1_method_8_code 12 = .ok (.getfield 32, 3) := by decide +kernel
theorem d_7_15 : decode prog_1_method_8_code 15 = .ok (.getfield 113, 3) := by decide +kernel
theorem d_7_18 : decode prog_1_method_8_code 18 = .ok (.istore 5, 2) := by decide +kernel
theorem d_7_20 : decode prog_1_method_8_code 20 = .ok (.aload_n 0, 1) := by decide +kernel
theorem d_7_21 : decode prog_1_method_8_code 21 = .ok (.getfield 45, 3) := by decide +kernel
theorem d_7_24 : decode prog_1_method_8_code 24 = .ok (.iload_n 1, 1) := by decide +kernel
theorem d_7_25 : decode prog_1_method_8_code 25 = .ok (.aaload, 1) := by decide +kernel
theorem d_7_26 : decode prog_1_method_8_code 26 = .ok (.astore 6, 2) := by decide +kernel
theorem d_7_28 : decode prog_1_method_8_code 28 = .ok (.aload 6, 2) := by decide +kernel
theorem d_7_30 : decode prog_1_method_8_code 30 = .ok (.invokevirtual 116, 3) := by decide +kernel
theorem d_7_33 : decode prog_1_method_8_code 33 = .ok (.ifCond .eq 14, 3) := by decide +kernel
theorem d_7_36 : decode prog_1_method_8_code 36 = .ok (.aload 6, 2) := by decide +kernel
theorem d_7_38 : decode prog_1_method_8_code 38 = .ok (.getfield 120, 3) := by decide +kernel
theorem d_7_41 : decode prog_1_method_8_code 41 = .ok (.invokevirtual 124, 3) := by decide +kernel
theorem d_7_44 : decode prog_1_method_8_code 44 = .ok (.goto 22, 3) := by decide +kernel
theorem d_7_47 : decode prog_1_method_8_code 47 = .ok (.aload_n 0, 1) := by decide +kernel
theorem d_7_48 : decode prog_1_method_8_code 48 = .ok (.aload 6, 2) := by decide +kernel
theorem d_7_50 : decode prog_1_method_8_code 50 = .ok (.aload_n 0, 1) := by decide +kernel
theorem d_7_51 : decode prog_1_method_8_code 51 = .ok (.iload_n 2, 1) := by decide +kernel
theorem d_7_52 : decode prog_1_method_8_code 52 = .ok (.invokevirtual 56, 3) := by decide +kernel
theorem d_7_55 : decode prog_1_method_8_code 55 = .ok (.aload_n 0, 1) := by decide +kernel
theorem d_7_56 : decode prog_1_method_8_code 56 = .ok (.iload_n 2, 1) := by decide +kernel
theorem d_7_57 : decode prog_1_method_8_code 57 = .ok (.iload_n 3, 1) := by decide +kernel
theorem d_7_58 : decode prog_1_method_8_code 58 = .ok (.iload 4, 2) := by decide +kernel
theorem d_7_60 : decode prog_1_method_8_code 60 = .ok (.invokevirtual 129, 3) := by decide +kernel
theorem d_7_63 : decode prog_1_method_8_code 63 = .ok (.invokevirtual 133, 3) := by decide +kernel
theorem d_7_66 : decode prog_1_method_8_code 66 = .ok (.aload_n 0, 1) := by decide +kernel
theorem d_7_67 : decode prog_1_method_8_code 67 = .ok (.getfield 32, 3) := by decide +kernel
theorem d_7_70 : decode prog_1_method_8_code 70 = .ok (.getfield 113, 3) := by decide +kernel
theorem d_7_73 : decode prog_1_method_8_code 73 = .ok (.iload 5, 2) := by decide +kernel
theorem d_7_75 : decode prog_1_method_8_code 75 = .ok (.isub, 1) := by decide +kernel
theorem d_7_76 : decode prog_1_method_8_code 76 = .ok (.ireturn, 1) := by decide +kernel
theorem d_8_0 : decode prog_1_method_9_code 0 = .ok (.aload_n 0, 1) := by decide +kernel
theorem d_8_1 : decode prog_1_method_9_code 1 = .ok (.iload_n 1, 1) := by decide +kernel
theorem d_8_2 : decode prog_1_method_9_code 2 = .ok (.iload_n 2, 1) := by decide +kernel
theorem d_8_3 : decode prog_1_method_9_code 3 = .ok (.invokevirtual 137, 3) := by decide +kernel
theorem d_8_6 : decode prog_1_method_9_code 6 = .ok (.astore 4, 2) := by decide +kernel
theorem d_8_8 : decode prog_1_method_9_code 8 = .ok (.aload 4, 2) := by decide +kernel
theorem d_8_10 : decode prog_1_method_9_code 10 = .ok (.ifnull 16, 3) := by decide +kernel
theorem d_8_13 : decode prog_1_method_9_code 13 = .ok (.iload_n 3, 1) := by decide +kernel
theorem d_8_14 : decode prog_1_method_9_code 14 = .ok (.bipush 100, 2) := by decide +kernel
theorem d_8_16 : decode prog_1_method_9_code 16 = .ok (.if_icmp .lt 10, 3) := by decide +kernel
theorem d_8_19 : decode prog_1_method_9_code 19 = .ok (.iload_n 3, 1) := by decide +kernel
theorem d_8_20 : decode prog_1_method_9_code 20 = .ok (.sipush 699, 3) := by decide +kernel
theorem d_8_23 : decode prog_1_method_9_code 23 = .ok (.if_icmp .le 5, 3) := by decide +kernel
theorem d_8_26 : decode prog_1_method_9_code 26 = .ok (.iconst (-1), 1) := by decide +kernel
theorem d_8_27 : decode prog_1_method_9_code 27 = .ok (.ireturn, 1) := by decide +kernel
theorem d_8_28 : decode prog_1_method_9_code 28 = .ok (.aload_n 0, 1) := by decide +kernel
theorem d_8_29 : decode prog_1_method_9_code 29 = .ok (.getfield 32, 3) := by decide +kernel
theorem d_8_32 : decode prog_1_method_9_code 32 = .ok (.getfield 113, 3) := by decide +kernel
theorem d_8_35 : decode prog_1_method_9_code 35 = .ok (.istore 5, 2) := by decide +kernel
theorem d_8_37 : decode prog_1_method_9_code 37 = .ok (.aload_n 0, 1) := by decide +kernel
theorem d_8_38 : decode prog_1_method_9_code 38 = .ok (.getfield 45, 3) := by decide +kernel
theorem d_8_41 : decode prog_1_method_9_code 41 = .ok (.iload_n 1, 1) := by decide +kernel
theorem d_8_42 : decode prog_1_method_9_code 42 = .ok (.aaload, 1) := by decide +kernel
theorem d_8_43 : decode prog_1_method_9_code 43 = .ok (.aload 4, 2) := by decide +kernel
theorem d_8_45 : decode prog_1_method_9_code 45 = .ok (.iload_n 3, 1) := by decide +kernel
theorem d_8_46 : decode prog_1_method_9_code 46 = .ok (.invokevirtual 141, 3) := by decide +kernel
theorem d_8_49 : decode prog_1_method_9_code 49 = .ok (.aload_n 0, 1) := by decide +kernel
theorem d_8_50 : decode prog_1_method_9_code 50 = .ok (.getfield 32, 3) := by decide +kernel
theorem d_8_53 : decode prog_1_method_9_code 53 = .ok (.getfield 113, 3) := by decide +kernel
theorem d_8_56 : decode prog_1_method_9_code 56 = .ok (.iload 5, 2) := by decide +kernel
theorem d_8_58 : decode prog_1_method_9_code 58 = .ok (.isub, 1) := by decide +kernel
theorem d_8_59 : decode prog_1_method_9_code 59 = .ok (.ireturn, 1) := by decide +kernel
theorem d_9_0 : decode prog_1_method_10_code 0 = .ok (.aload_n 0, 1) := by decide +kernel
theorem d_9_1 : decode prog_1_method_10_code 1 = .ok (.iload_n 1, 1) := by decide +kernel
theorem d_9_2 : decode prog_1_method_10_code 2 = .ok (.iload_n 2, 1) := by decide +kernel
theorem d_9_3 : decode prog_1_method_10_code 3 = .ok (.invokevirtual 137, 3) := by decide +kernel
theorem d_9_6 : decode prog_1_method_10_code 6 = .ok (.astore_n 3, 1) := by decide +kernel
theorem d_9_7 : decode prog_1_method_10_code 7 = .ok (.aload_n 3, 1) := by decide +kernel
theorem d_9_8 : decode prog_1_method_10_code 8 = .ok (.ifnull 13, 3) := by decide +kernel
theorem d_9_11 : decode prog_1_method_10_code 11 = .ok (.aload_n 3, 1) := by decide +kernel
theorem d_9_12 : decode prog_1_method_10_code 12 = .ok (.getfield 145, 3) := by decide +kernel
theorem d_9_15 : decode prog_1_method_10_code 15 = .ok (.invokevirtual 151, 3) := by decide +kernel
theorem d_9_18 : decode prog_1_method_10_code 18 = .ok (.ifCond .ne 5, 3) := by decide +kernel
theorem d_9_21 : decode prog_1_method_10_code 21 = .ok (.iconst 0, 1) := by decide +kernel
theorem d_9_22 : decode prog_1_method_10_code 22 = .ok (.ireturn, 1) := by decide +kernel
theorem d_9_23 : decode prog_1_method_10_code 23 = .ok (.aload_n 3, 1) := by decide +kernel
theorem d_9_24 : decode prog_1_method_10_code 24 = .ok (.getfield 145, 3) := by decide +kernel
theorem d_9_27 : decode prog_1_method_10_code 27 = .ok (.invokevirtual 156, 3) := by decide +kernel
theorem d_9_30 : decode prog_1_method_10_code 30 = .ok (.iconst 1, 1) := by decide +kernel
theorem d_9_31 : decode prog_1_method_10_code 31 = .ok (.ireturn, 1) := by decide +kernel
theorem d_10_0 : decode prog_1_method_11_code 0 = .ok (.aload_n 0, 1) := by decide +kernel
theorem d_10_1 : decode prog_1_method_11_code 1 = .ok (.iload_n 1, 1) := by decide +kernel
theorem d_10_2 : decode prog_1_method_11_code 2 = .ok (.invokevirtual 159, 3) := by decide +kernel
theorem d_10_5 : decode prog_1_method_11_code 5 = .ok (.astore_n 2, 1) := by decide +kernel
theorem d_10_6 : decode prog_1_method_11_code 6 = .ok (.aload_n 2, 1) := by decide +kernel
theorem d_10_7 : decode prog_1_method_11_code 7 = .ok (.ifnonnull 5, 3) := by decide +kernel
theorem d_10_10 : decode prog_1_method_11_code 10 = .ok (.iconst (-1), 1) := by decide +kernel
theorem d_10_11 : decode prog_1_method_11_code 11 = .ok (.ireturn, 1) := by decide +kernel
theorem d_10_12 : decode prog_1_method_11_code 12 = .ok (.aload_n 0, 1) := by decide +kernel
theorem d_10_13 : decode prog_1_method_11_code 13 = .ok (.getfield 32, 3) := by decide +kernel
theorem d_10_16 : decode prog_1_method_11_code 16 = .ok (.getfield 113, 3) := by decide +kernel
theorem d_10_19 : decode prog_1_method_11_code 19 = .ok (.istore_n 3, 1) := by decide +kernel
theorem d_10_20 : decode prog_1_method_11_code 20 = .ok (.aload_n 2, 1) := by decide +kernel
theorem d_10_21 : decode prog_1_method_11_code 21 = .ok (.getfield 120, 3) := by decide +kernel
theorem d_10_24 : decode prog_1_method_11_code 24 = .ok (.getfield 163, 3) := by decide +kernel
theorem d_10_27 : decode prog_1_method_11_code 27 = .ok (.iconst 1, 1) := by decide +kernel
theorem d_10_28 : decode prog_1_method_11_code 28 = .ok (.if_icmp .ne 7, 3) := by decide +kernel
theorem d_10_31 : decode prog_1_method_11_code 31 = .ok (.aload_n 2, 1) := by decide +kernel
theorem d_10_32 : decode prog_1_method_11_code 32 = .ok (.invokevirtual 166, 3) := by decide +kernel
theorem d_10_35 : decode prog_1_method_11_code 35 = .ok (.aload_n 0, 1) := by decide +kernel
theorem d_10_36 : decode prog_1_method_11_code 36 = .ok (.getfield 32, 3) := by decide +kernel
theorem d_10_39 : decode prog_1_method_11_code 39 = .ok (.getfield 113, 3) := by decide +kernel
theorem d_10_42 : decode prog_1_method_11_code 42 = .ok (.iload_n 3, 1) := by decide +kernel
theorem d_10_43 : decode prog_1_method_11_code 43 = .ok (.isub, 1) := by decide +kernel
theorem d_10_44 : decode prog_1_method_11_code 44 = .ok (.ireturn, 1) := by decide +kernel
theorem d_11_0 : decode prog_1_method_12_code 0 = .ok (.aload_n 0, 1) := by decide +kernel
theorem d_11_1 : decode prog_1_method_12_code 1 = .ok (.iload_n 1, 1) := by decide +kernel
theorem d_11_2 : decode prog_1_method_12_code 2 = .ok (.invokevirtual 159, 3) := by decide +kernel
theorem d_11_5 : decode prog_1_method_12_code 5 = .ok (.astore_n 2, 1) := by decide +kernel
theorem d_11_6 : decode prog_1_method_12_code 6 = .ok (.aload_n 2, 1) := by decide +kernel
theorem d_11_7 : decode prog_1_method_12_code 7 = .ok (.ifnull 14, 3) := by decide +kernel
theorem d_11_10 : decode prog_1_method_12_code 10 = .ok (.aload_n 2, 1) := by decide +kernel
theorem d_11_11 : decode prog_1_method_12_code 11 = .ok (.getfield 120, 3) := by decide +kernel
theorem d_11_14 : decode prog_1_method_12_code 14 = .ok (.getfield 163, 3) := by decide +kernel
theorem d_11_17 : decode prog_1_method_12_code 17 = .ok (.iconst 2, 1) := by decide +kernel
theorem d_11_18 : decode prog_1_method_12_code 18 = .ok (.if_icmp .eq 5, 3) := by decide +kernel
theorem d_11_21 : decode prog_1_method_12_code 21 = .ok (.iconst 0, 1) := by decide +kernel
theorem d_11_22 : decode prog_1_method_12_code 22 = .ok (.ireturn, 1) := by decide +kernel
theorem d_11_23 : decode prog_1_method_12_code 23 = .ok (.aload_n 2, 1) := by decide +kernel
theorem d_11_24 : decode prog_1_method_12_code 24 = .ok (.getfield 120, 3) := by decide +kernel
theorem d_11_27 : decode prog_1_method_12_code 27 = .ok (.invokevirtual 169, 3) := by decide +kernel
theorem d_11_30 : decode prog_1_method_12_code 30 = .ok (.iconst 1, 1) := by decide +kernel
theorem d_11_31 : decode prog_1_method_12_code 31 = .ok (.ireturn, 1) := by decide +kernel
theorem d_12_0 : decode prog_1_method_13_code 0 = .ok (.iload_n 1, 1) := by decide +kernel
theorem d_12_1 : decode prog_1_method_13_code 1 = .ok (.ifCond .lt 10, 3) := by decide +kernel
theorem d_12_4 : decode prog_1_method_13_code 4 = .ok (.iload_n 1, 1) := by decide +kernel
theorem d_12_5 : decode prog_1_method_13_code 5 = .ok (.sipush 2000, 3) := by decide +kernel
theorem d_12_8 : decode prog_1_method_13_code 8 = .ok (.if_icmp .le 5, 3) := by decide +kernel
theorem d_12_11 : decode prog_1_method_13_code 11 = .ok (.iconst (-1), 1) := by decide +kernel
theorem d_12_12 : decode prog_1_method_13_code 12 = .ok (.ireturn, 1) := by decide +kernel
theorem d_12_13 : decode prog_1_method_13_code 13 = .ok (.aload_n 0, 1) := by decide +kernel
theorem d_12_14 : decode prog_1_method_13_code 14 = .ok (.getfield 32, 3) := by decide +kernel
theorem d_12_17 : decode prog_1_method_13_code 17 = .ok (.getfield 113, 3) := by decide +kernel
theorem d_12_20 : decode prog_1_method_13_code 20 = .ok (.istore_n 2, 1) := by decide +kernel
theorem d_12_21 : decode prog_1_method_13_code 21 = .ok (.aload_n 0, 1) := by decide +kernel
theorem d_12_22 : decode prog_1_method_13_code 22 = .ok (.invokevirtual 172, 3) := by decide +kernel
theorem d_12_25 : decode prog_1_method_13_code 25 = .ok (.istore_n 3, 1) := by decide +kernel
theorem d_12_26 : decode prog_1_method_13_code 26 = .ok (.iconst 0, 1) := by decide +kernel
theorem d_12_27 : decode prog_1_method_13_code 27 = .ok (.istore 4, 2) := by decide +kernel
theorem d_12_29 : decode prog_1_method_13_code 29 = .ok (.iload 4, 2) := by decide +kernel
theorem d_12_31 : decode prog_1_method_13_code 31 = .ok (.iload_n 1, 1) := by decide +kernel
theorem d_12_32 : decode prog_1_method_13_code 32 = .ok (.if_icmp .ge 42, 3) := by decide +kernel
theorem d_12_35 : decode prog_1_method_13_code 35 = .ok (.aload_n 0, 1) := by decide +kernel
theorem d_12_36 : decode prog_1_method_13_code 36 = .ok (.getfield 21, 3) := by decide +kernel
theorem d_12_39 : decode prog_1_method_13_code 39 = .ok (.dup, 1) := by decide +kernel
theorem d_12_40 : decode prog_1_method_13_code 40 = .ok (.getfield 110, 3) := by decide +kernel
theorem d_12_43 : decode prog_1_method_13_code 43 = .ok (.iconst 1, 1) := by decide +kernel
theorem d_12_44 : decode prog_1_method_13_code 44 = .ok (.iadd, 1) := by decide +kernel
theorem d_12_45 : decode prog_1_method_13_code 45 = .ok (.putfield 110, 3) := by decide +kernel
theorem d_12_48 : decode prog_1_method_13_code 48 = .ok (.aload_n 0, 1) := by decide +kernel
theorem d_12_49 : decode prog_1_method_13_code 49 = .ok (.getfield 21, 3) := by decide +kernel
theorem d_12_52 : decode prog_1_method_13_code 52 = .ok (.getfield 110, 3) := by decide +kernel
theorem d_12_55 : decode prog_1_method_13_code 55 = .ok (.iload_n 3, 1) := by decide +kernel
theorem d_12_56 : decode prog_1_method_13_code 56 = .ok (.if_icmp .ne 12, 3) := by decide +kernel
theorem d_12_59 : decode prog_1_method_13_code 59 = .ok (.aload_n 0, 1) := by decide +kernel
theorem d_12_60 : decode prog_1_method_13_code 60 = .ok (.invokevirtual 176, 3) := by decide +kernel
theorem d_12_63 : decode prog_1_method_13_code 63 = .ok (.aload_n 0, 1) := by decide +kernel
theorem d_12_64 : decode prog_1_method_13_code 64 = .ok (.invokevirtual 172, 3) := by decide +kernel
theorem d_12_67 : decode prog_1_method_13_code 67 = .ok (.istore_n 3, 1) := by decide +kernel
theorem d_12_68 : decode prog_1_method_13_code 68 = .ok (.iinc 4 1, 3) := by decide +kernel
theorem d_12_71 : decode prog_1_method_13_code 71 = .ok (.goto (-42), 3) := by decide +kernel
theorem d_12_74 : decode prog_1_method_13_code 74 = .ok (.aload_n 0, 1) := by decide +kernel
theorem d_12_75 : decode prog_1_method_13_code 75 = .ok (.getfield 32, 3) := by decide +kernel
theorem d_12_78 : decode prog_1_method_13_code 78 = .ok (.getfield 113, 3) := by decide +kernel
theorem d_12_81 : decode prog_1_method_13_code 81 = .ok (.iload_n 2, 1) := by decide +kernel
theorem d_12_82 : decode prog_1_method_13_code 82 = .ok (.isub, 1) := by decide +kernel
theorem d_12_83 : decode prog_1_method_13_code 83 = .ok (.ireturn, 1) := by decide +kernel
theorem d_13_0 : decode prog_1_method_14_code 0 = .ok (.aload_n 0, 1) := by decide +kernel
theorem d_13_1 : decode prog_1_method_14_code 1 = .ok (.getfield 21, 3) := by decide +kernel
theorem d_13_4 : decode prog_1_method_14_code 4 = .ok (.getfield 110, 3) := by decide +kernel
theorem d_13_7 : decode prog_1_method_14_code 7 = .ok (.ireturn, 1) := by decide +kernel
theorem d_14_0 : decode prog_1_method_15_code 0 = .ok (.aload_n 0, 1) := by decide +kernel
theorem d_14_1 : decode prog_1_method_15_code 1 = .ok (.iload_n 1, 1) := by decide +kernel
theorem d_14_2 : decode prog_1_method_15_code 2 = .ok (.invokevirtual 159, 3) := by decide +kernel
theorem d_14_5 : decode prog_1_method_15_code 5 = .ok (.astore_n 2, 1) := by decide +kernel
theorem d_14_6 : decode prog_1_method_15_code 6 = .ok (.aload_n 2, 1) := by decide +kernel
theorem d_14_7 : decode prog_1_method_15_code 7 = .ok (.ifnonnull 7, 3) := by decide +kernel
theorem d_14_10 : decode prog_1_method_15_code 10 = .ok (.iconst 0, 1) := by decide +kernel
theorem d_14_11 : decode prog_1_method_15_code 11 = .ok (.goto 21, 3) := by decide +kernel
theorem d_14_14 : decode prog_1_method_15_code 14 = .ok (.aload_n 2, 1) := by decide +kernel
theorem d_14_15 : decode prog_1_method_15_code 15 = .ok (.getfield 120, 3) := by decide +kernel
theorem d_14_18 : decode prog_1_method_15_code 18 = .ok (.getfield 163, 3) := by decide +kernel
theorem d_14_21 : decode prog_1_method_15_code 21 = .ok (.bipush 8, 2) := by decide +kernel
theorem d_14_23 : decode prog_1_method_15_code 23 = .ok (.aload_n 2, 1) := by decide +kernel
theorem d_14_24 : decode prog_1_method_15_code 24 = .ok (.getfield 120, 3) := by decide +kernel
theorem d_14_27 : decode prog_1_method_15_code 27 = .ok (.getfield 179, 3) := by decide +kernel
theorem d_14_30 : decode prog_1_method_15_code 30 = .ok (.imul, 1) := by decide +kernel
theorem d_14_31 : decode prog_1_method_15_code 31 = .ok (.iadd, 1) := by decide +kernel
theorem d_14_32 : decode prog_1_method_15_code 32 = .ok (.ireturn, 1) := by decide +kernel
theorem d_15_0 : decode prog_1_method_16_code 0 = .ok (.aload_n 0, 1) := by decide +kernel
theorem d_15_1 : decode prog_1_method_16_code 1 = .ok (.iload_n 1, 1) := by decide +kernel
theorem d_15_2 : decode prog_1_method_16_code 2 = .ok (.iload_n 2, 1) := by decide +kernel
theorem d_15_3 : decode prog_1_method_16_code 3 = .ok (.invokevirtual 137, 3) := by decide +kernel
theorem d_15_6 : decode prog_1_method_16_code 6 = .ok (.astore_n 3, 1) := by decide +kernel
theorem d_15_7 : decode prog_1_method_16_code 7 = .ok (.aload_n 3, 1) := by decide +kernel
theorem d_15_8 : decode prog_1_method_16_code 8 = .ok (.ifnonnull 5, 3) := by decide +kernel
theorem d_15_11 : decode prog_1_method_16_code 11 = .ok (.iconst 0, 1) := by decide +kernel
theorem d_15_12 : decode prog_1_method_16_code 12 = .ok (.ireturn, 1) := by decide +kernel
theorem d_15_13 : decode prog_1_method_16_code 13 = .ok (.aload_n 3, 1) := by decide +kernel
theorem d_15_14 : decode prog_1_method_16_code 14 = .ok (.getfield 182, 3) := by decide +kernel
theorem d_15_17 : decode prog_1_method_16_code 17 = .ok (.aload_n 3, 1) := by decide +kernel
theorem d_15_18 : decode prog_1_method_16_code 18 = .ok (.getfield 183, 3) := by decide +kernel
theorem d_15_21 : decode prog_1_method_16_code 21 = .ok (.ifCond .eq 8, 3) := by decide +kernel
theorem d_15_24 : decode prog_1_method_16_code 24 = .ok (.bipush 8, 2) := by decide +kernel
theorem d_15_26 : decode prog_1_method_16_code 26 = .ok (.goto 4, 3) := by decide +kernel
theorem d_15_29 : decode prog_1_method_16_code 29 = .ok (.iconst 0, 1) := by decide +kernel
theorem d_15_30 : decode prog_1_method_16_code 30 = .ok (.iadd, 1) := by decide +kernel
theorem d_15_31 : decode prog_1_method_16_code 31 = .ok (.bipush 16, 2) := by decide +kernel
theorem d_15_33 : decode prog_1_method_16_code 33 = .ok (.aload_n 3, 1) := by decide +kernel
theorem d_15_34 : decode prog_1_method_16_code 34 = .ok (.getfield 186, 3) := by decide +kernel
theorem d_15_37 : decode prog_1_method_16_code 37 = .ok (.imul, 1) := by decide +kernel
theorem d_15_38 : decode prog_1_method_16_code 38 = .ok (.iadd, 1) := by decide +kernel
theorem d_15_39 : decode prog_1_method_16_code 39 = .ok (.ireturn, 1) := by decide +kernel
theorem d_16_0 : decode prog_1_method_17_code 0 = .ok (.aload_n 0, 1) := by decide +kernel
theorem d_16_1 : decode prog_1_method_17_code 1 = .ok (.iload_n 1, 1) := by decide +kernel
theorem d_16_2 : decode prog_1_method_17_code 2 = .ok (.iload_n 2, 1) := by decide +kernel
theorem d_16_3 : decode prog_1_method_17_code 3 = .ok (.invokevirtual 137, 3) := by decide +kernel
theorem d_16_6 : decode prog_1_method_17_code 6 = .ok (.astore_n 3, 1) := by decide +kernel
theorem d_16_7 : decode prog_1_method_17_code 7 = .ok (.aload_n 3, 1) := by decide +kernel
theorem d_16_8 : decode prog_1_method_17_code 8 = .ok (.ifnonnull 7, 3) := by decide +kernel
theorem d_16_11 : decode prog_1_method_17_code 11 = .ok (.iconst 0, 1) := by decide +kernel
theorem d_16_12 : decode prog_1_method_17_code 12 = .ok (.goto 7, 3) := by decide +kernel
theorem d_16_15 : decode prog_1_method_17_code 15 = .ok (.aload_n 3, 1) := by decide +kernel
theorem d_16_16 : decode prog_1_method_17_code 16 = .ok (.getfield 187, 3) := by decide +kernel
theorem d_16_19 : decode prog_1_method_17_code 19 = .ok (.ireturn, 1) := by decide +kernel
theorem d_17_0 : decode prog_1_method_18_code 0 = .ok (.iconst 0, 1) := by decide +kernel
theorem d_17_1 : decode prog_1_method_18_code 1 = .ok (.istore_n 1, 1) := by decide +kernel
theorem d_17_2 : decode prog_1_method_18_code 2 = .ok (.iconst 0, 1) := by decide +kernel
theorem d_17_3 : decode prog_1_method_18_code 3 = .ok (.istore_n 2, 1) := by decide +kernel
theorem d_17_4 : decode prog_1_method_18_code 4 = .ok (.iload_n 2, 1) := by decide +kernel
theorem d_17_5 : decode prog_1_method_18_code 5 = .ok (.iconst 4, 1) := by decide +kernel
theorem d_17_6 : decode prog_1_method_18_code 6 = .ok (.if_icmp .ge 21, 3) := by decide +kernel
theorem d_17_9 : decode prog_1_method_18_code 9 = .ok (.iload_n 1, 1) := by decide +kernel
theorem d_17_10 : decode prog_1_method_18_code 10 = .ok (.aload_n 0, 1) := by decide +kernel
theorem d_17_11 : decode prog_1_method_18_code 11 = .ok (.getfield 45, 3) := by decide +kernel
theorem d_17_14 : decode prog_1_method_18_code 14 = .ok (.iload_n 2, 1) := by decide +kernel
theorem d_17_15 : decode prog_1_method_18_code 15 = .ok (.aaload, 1) := by decide +kernel
theorem d_17_16 : decode prog_1_method_18_code 16 = .ok (.invokevirtual 190, 3) := by decide +kernel
theorem d_17_19 : decode prog_1_method_18_code 19 = .ok (.iadd, 1) := by decide +kernel
theorem d_17_20 : decode prog_1_method_18_code 20 = .ok (.istore_n 1, 1) := by decide +kernel
theorem d_17_21 : decode prog_1_method_18_code 21 = .ok (.iinc 2 1, 3) := by decide +kernel
theorem d_17_24 : decode prog_1_method_18_code 24 = .ok (.goto (-20), 3) := by decide +kernel
theorem d_17_27 : decode prog_1_method_18_code 27 = .ok (.iload_n 1, 1) := by decide +kernel
theorem d_17_28 : decode prog_1_method_18_code 28 = .ok (.ireturn, 1) := by decide +kernel
theorem d_18_0 : decode prog_1_method_19_code 0 = .ok (.aload_n 0, 1) := by decide +kernel
theorem d_18_1 : decode prog_1_method_19_code 1 = .ok (.getfield 32, 3) := by decide +kernel
theorem d_18_4 : decode prog_1_method_19_code 4 = .ok (.getfield 113, 3) := by decide +kernel
theorem d_18_7 : decode prog_1_method_19_code 7 = .ok (.ireturn, 1) := by decide +kernel
theorem d_19_0 : decode prog_1_method_20_code 0 = .ok (.aload_n 0, 1) := by decide +kernel
theorem d_19_1 : decode prog_1_method_20_code 1 = .ok (.getfield 32, 3) := by decide +kernel
theorem d_19_4 : decode prog_1_method_20_code 4 = .ok (.iload_n 1, 1) := by decide +kernel
theorem d_19_5 : decode prog_1_method_20_code 5 = .ok (.invokevirtual 193, 3) := by decide +kernel
theorem d_19_8 : decode prog_1_method_20_code 8 = .ok (.lreturn, 1) := by decide +kernel
theorem d_20_0 : decode prog_1_method_21_code 0 = .ok (.iload_n 1, 1) := by decide +kernel
theorem d_20_1 : decode prog_1_method_21_code 1 = .ok (.ifCond .lt 8, 3) := by decide +kernel
theorem d_20_4 : decode prog_1_method_21_code 4 = .ok (.iload_n 1, 1) := by decide +kernel
theorem d_20_5 : decode prog_1_method_21_code 5 = .ok (.iconst 4, 1) := by decide +kernel
theorem d_20_6 : decode prog_1_method_21_code 6 = .ok (.if_icmp .lt 7, 3) := by decide +kernel
theorem d_20_9 : decode prog_1_method_21_code 9 = .ok (.aconst_null, 1) := by decide +kernel
theorem d_20_10 : decode prog_1_method_21_code 10 = .ok (.goto 9, 3) := by decide +kernel
theorem d_20_13 : decode prog_1_method_21_code 13 = .ok (.aload_n 0, 1) := by decide +kernel
theorem d_20_14 : decode prog_1_method_21_code 14 = .ok (.getfield 38, 3) := by decide +kernel
theorem d_20_17 : decode prog_1_method_21_code 17 = .ok (.iload_n 1, 1) := by decide +kernel
theorem d_20_18 : decode prog_1_method_21_code 18 = .ok (.aaload, 1) := by decide +kernel
theorem d_20_19 : decode prog_1_method_21_code 19 = .ok (.areturn, 1) := by decide +kernel
end
section
abbrev ix_H : Type := Nat × Nat × (Nat → Nat) × (Nat → Nat) × (Nat → Nat → Int32) × (Nat → Nat → Option Nat) × (Nat → Nat → Int64)
def ha_N (h : ix_H) : Nat := h.1
def ha_S (h : ix_H) : Nat := h.2.1
def ha_T (h : ix_H) : Nat → Nat := h.2.2.1
def ha_L (h : ix_H) : Nat → Nat := h.2.2.2.1
def ha_I (h : ix_H) : Nat → Nat → Int32 := h.2.2.2.2.1
def ha_R (h : ix_H) : Nat → Nat → Option Nat := h.2.2.2.2.2.1
def ha_J (h : ix_H) : Nat → Nat → Int64 := h.2.2.2.2.2.2
def hs_I (h : ix_H) (p j : Nat) (v : Int32) : ix_H := (ha_N h, ha_S h, ha_T h, ha_L h, va_up (ha_I h) p (va_up (ha_I h p) j v), ha_R h, ha_J h)
def hs_R (h : ix_H) (p j : Nat) (v : Option Nat) : ix_H := (ha_N h, ha_S h, ha_T h, ha_L h, ha_I h, va_up (ha_R h) p (va_up (ha_R h p) j v), ha_J h)
def hs_J (h : ix_H) (p j : Nat) (v : Int64) : ix_H := (ha_N h, ha_S h, ha_T h, ha_L h, ha_I h, ha_R h, va_up (ha_J h) p (va_up (ha_J h p) j v))
def hs_new (h : ix_H) (t len sl : Nat) : ix_H := (ha_N h + 1, ha_S h + sl, va_up (ha_T h) (ha_N h) t, va_up (ha_L h) (ha_N h) len, va_up (ha_I h) (ha_N h) (fun _ => 0), va_up (ha_R h) (ha_N h) (fun _ => none), va_up (ha_J h) (ha_N h) (fun _ => 0))
theorem up_at {α : Type} (f : Nat → α) (k j : Nat) (v : α) : va_up f k v j = if j = k then v else f j := rfl
-- reads behind writes
theorem hI_I (h : ix_H) (p j q i : Nat) (v : Int32) : ha_I (hs_I h p j v) q i = if q = p ∧ i = j then v else ha_I h q i := by
  show va_up (ha_I h) p (va_up (ha_I h p) j v) q i = _
  rw [up_at]
  by_cases h1 : q = p
  · subst h1
    rw [if_pos rfl, up_at]
    by_cases h2 : i = j <;> simp [h2]
  · rw [if_neg h1, if_neg (fun q => h1 q.1)]
theorem hR_R (h : ix_H) (p j q i : Nat) (v : Option Nat) : ha_R (hs_R h p j v) q i = if q = p ∧ i = j then v else ha_R h q i := by
  show va_up (ha_R h) p (va_up (ha_R h p) j v) q i = _
  rw [up_at]
  by_cases h1 : q = p
  · subst h1
    rw [if_pos rfl, up_at]
    by_cases h2 : i = j <;> simp [h2]
  · rw [if_neg h1, if_neg (fun q => h1 q.1)]
theorem hJ_J (h : ix_H) (p j q i : Nat) (v : Int64) : ha_J (hs_J h p j v) q i = if q = p ∧ i = j then v else ha_J h q i := by
  show va_up (ha_J h) p (va_up (ha_J h p) j v) q i = _
  rw [up_at]
  by_cases h1 : q = p
  · subst h1
    rw [if_pos rfl, up_at]
    by_cases h2 : i = j <;> simp [h2]
  · rw [if_neg h1, if_neg (fun q => h1 q.1)]
theorem hI_R (h : ix_H) (p j : Nat) (v : Option Nat) : ha_I (hs_R h p j v) = ha_I h := rfl
theorem hI_J (h : ix_H) (p j : Nat) (v : Int64) : ha_I (hs_J h p j v) = ha_I h := rfl
theorem hR_I (h : ix_H) (p j : Nat) (v : Int32) : ha_R (hs_I h p j v) = ha_R h := rfl
theorem hR_J (h : ix_H) (p j : Nat) (v : Int64) : ha_R (hs_J h p j v) = ha_R h := rfl
theorem hJ_I (h : ix_H) (p j : Nat) (v : Int32) : ha_J (hs_I h p j v) = ha_J h := rfl
theorem hJ_R (h : ix_H) (p j : Nat) (v : Option Nat) : ha_J (hs_R h p j v) = ha_J h := rfl
theorem hT_I (h : ix_H) (p j : Nat) (v : Int32) : ha_T (hs_I h p j v) = ha_T h := rfl
theorem hT_R (h : ix_H) (p j : Nat) (v : Option Nat) : ha_T (hs_R h p j v) = ha_T h := rfl
theorem hT_J (h : ix_H) (p j : Nat) (v : Int64) : ha_T (hs_J h p j v) = ha_T h := rfl
theorem hL_I (h : ix_H) (p j : Nat) (v : Int32) : ha_L (hs_I h p j v) = ha_L h := rfl
theorem hL_R (h : ix_H) (p j : Nat) (v : Option Nat) : ha_L (hs_R h p j v) = ha_L h := rfl
theorem hL_J (h : ix_H) (p j : Nat) (v : Int64) : ha_L (hs_J h p j v) = ha_L h := rfl
theorem hN_I (h : ix_H) (p j : Nat) (v : Int32) : ha_N (hs_I h p j v) = ha_N h := rfl
theorem hN_R (h : ix_H) (p j : Nat) (v : Option Nat) : ha_N (hs_R h p j v) = ha_N h := rfl
theorem hN_J (h : ix_H) (p j : Nat) (v : Int64) : ha_N (hs_J h p j v) = ha_N h := rfl
theorem hS_I (h : ix_H) (p j : Nat) (v : Int32) : ha_S (hs_I h p j v) = ha_S h := rfl
theorem hS_R (h : ix_H) (p j : Nat) (v : Option Nat) : ha_S (hs_R h p j v) = ha_S h := rfl
theorem hS_J (h : ix_H) (p j : Nat) (v : Int64) : ha_S (hs_J h p j v) = ha_S h := rfl
theorem hN_new (h : ix_H) (t len sl : Nat) : ha_N (hs_new h t len sl) = ha_N h + 1 := rfl
theorem hS_new (h : ix_H) (t len sl : Nat) : ha_S (hs_new h t len sl) = ha_S h + sl := rfl
theorem hT_new (h : ix_H) (t len sl q : Nat) : ha_T (hs_new h t len sl) q = if q = ha_N h then t else ha_T h q := rfl
theorem hL_new (h : ix_H) (t len sl q : Nat) : ha_L (hs_new h t len sl) q = if q = ha_N h then len else ha_L h q := rfl
theorem hI_new (h : ix_H) (t len sl q i : Nat) : ha_I (hs_new h t len sl) q i = if q = ha_N h then 0 else ha_I h q i := by
  show va_up (ha_I h) (ha_N h) (fun _ => 0) q i = _
  rw [up_at]
  by_cases h1 : q = ha_N h
  · rw [if_pos h1, if_pos h1]
  · rw [if_neg h1, if_neg h1]
theorem hR_new (h : ix_H) (t len sl q i : Nat) : ha_R (hs_new h t len sl) q i = if q = ha_N h then none else ha_R h q i := by
  show va_up (ha_R h) (ha_N h) (fun _ => none) q i = _
  rw [up_at]
  by_cases h1 : q = ha_N h
  · rw [if_pos h1, if_pos h1]
  · rw [if_neg h1, if_neg h1]
theorem hJ_new (h : ix_H) (t len sl q i : Nat) : ha_J (hs_new h t len sl) q i = if q = ha_N h then 0 else ha_J h q i := by
  show va_up (ha_J h) (ha_N h) (fun _ => 0) q i = _
  rw [up_at]
  by_cases h1 : q = ha_N h
  · rw [if_pos h1, if_pos h1]
  · rw [if_neg h1, if_neg h1]
-- a step
abbrev ix_F : Type := Nat × List Value × List Value × ix_H
abbrev ix_O : Type := Option Value × ix_H
abbrev ix_Q : Type := Nat × List Value × ix_F
def ix_av (t j : Nat) (h : ix_H) (p : Nat) : Value := match ix_fk t j with
  | 1 => va_rf (ha_R h p j)
  | 2 => .long (ha_J h p j)
  | _ => .int (ha_I h p j)
def ix_la : List Value → List Value
  | [] => []
  | v :: vs => if v.category = 2 then v :: .retAddr 1 :: ix_la vs else v :: ix_la vs
def ix_l0 (as : List Value) (n : Nat) : List Value := ix_la as ++ List.replicate (n - (ix_la as).length) (.retAddr 1)
def ix_ii (f : Int32 → Int32 → Value) (st : List Value) : Option (List Value) := match st with
  | .int y :: .int x :: r => some (f x y :: r)
  | _ => none
def ix_iz (f : Int32 → Int32 → Value) (st : List Value) : Option (List Value) := match st with
  | .int y :: .int x :: r => if y = 0 then none else some (f x y :: r)
  | _ => none
def ix_i1 (f : Int32 → Value) (st : List Value) : Option (List Value) := match st with
  | .int x :: r => some (f x :: r)
  | _ => none
def ix_ll (f : Int64 → Int64 → Value) (st : List Value) : Option (List Value) := match st with
  | .long y :: .long x :: r => some (f x y :: r)
  | _ => none
def ix_lz (f : Int64 → Int64 → Value) (st : List Value) : Option (List Value) := match st with
  | .long y :: .long x :: r => if y = 0 then none else some (f x y :: r)
  | _ => none
def ix_li (f : Int64 → Int32 → Value) (st : List Value) : Option (List Value) := match st with
  | .int y :: .long x :: r => some (f x y :: r)
  | _ => none
def ix_l1 (f : Int64 → Value) (st : List Value) : Option (List Value) := match st with
  | .long x :: r => some (f x :: r)
  | _ => none
def ix_v1 (f : Value → List Value) (st : List Value) : Option (List Value) := match st with
  | v :: r => if v.category = 1 then some (f v ++ r) else none
  | _ => none
def ix_v2 (f : Value → Value → List Value) (st : List Value) : Option (List Value) := match st with
  | v :: w :: r => if v.category = 1 ∧ w.category = 1 then some (f v w ++ r) else none
  | _ => none
def ix_v3 (f : Value → Value → Value → List Value) (st : List Value) : Option (List Value) := match st with
  | v :: w :: z :: r => if v.category = 1 ∧ w.category = 1 ∧ z.category = 1 then some (f v w z ++ r) else none
  | _ => none
/-- what only the operand stack sees -/
def ix_alu (cp : Nat → Nat × Nat × Nat) (i : Instr) (st : List Value) : Option (List Value) := match i with
  | .iconst n => some (.int (Int32.ofInt n) :: st)
  | .bipush n => some (.int (Int8.ofInt n).toInt32 :: st)
  | .sipush n => some (.int (Int16.ofInt n).toInt32 :: st)
  | .lconst n => some (.long (Int64.ofNat (n : Nat)) :: st)
  | .aconst_null => some (.null :: st)
  | .ldc x => if (cp x).1 = 1 then some (.int (Int32.ofNat (cp x).2.1) :: st) else none
  | .ldc_w x => if (cp x).1 = 1 then some (.int (Int32.ofNat (cp x).2.1) :: st) else none
  | .ldc2_w x => if (cp x).1 = 2 then some (.long (Int64.ofNat (cp x).2.1) :: st) else none
  | .iadd => ix_ii (fun x y => .int (x + y)) st
  | .isub => ix_ii (fun x y => .int (x - y)) st
  | .imul => ix_ii (fun x y => .int (x * y)) st
  | .idiv => ix_iz (fun x y => .int (x / y)) st
  | .irem => ix_iz (fun x y => .int (x - x / y * y)) st
  | .ineg => ix_i1 (fun x => .int (-x)) st
  | .iand => ix_ii (fun x y => .int (x &&& y)) st
  | .ior => ix_ii (fun x y => .int (x ||| y)) st
  | .ixor => ix_ii (fun x y => .int (x ^^^ y)) st
  | .ishl => ix_ii (fun x y => .int (x <<< (y &&& 31))) st
  | .ishr => ix_ii (fun x y => .int (x >>> (y &&& 31))) st
  | .iushr => ix_ii (fun x y => .int (x.toUInt32 >>> (y.toUInt32 &&& Int32.toUInt32 31)).toInt32) st
  | .ladd => ix_ll (fun x y => .long (x + y)) st
  | .lsub => ix_ll (fun x y => .long (x - y)) st
  | .lmul => ix_ll (fun x y => .long (x * y)) st
  | .ldiv => ix_lz (fun x y => .long (x / y)) st
  | .lrem => ix_lz (fun x y => .long (x - x / y * y)) st
  | .land => ix_ll (fun x y => .long (x &&& y)) st
  | .lor => ix_ll (fun x y => .long (x ||| y)) st
  | .lxor => ix_ll (fun x y => .long (x ^^^ y)) st
  | .lshl => ix_li (fun x y => .long (x <<< (y.toInt64 &&& 63))) st
  | .lshr => ix_li (fun x y => .long (x >>> (y.toInt64 &&& 63))) st
  | .lushr => ix_li (fun x y => .long (x.toUInt64 >>> (y.toInt64.toUInt64 &&& Int64.toUInt64 63)).toInt64) st
  | .lcmp => ix_ll (fun x y => .int (lg_cmp x y)) st
  | .i2l => ix_i1 (fun x => .long x.toInt64) st
  | .l2i => ix_l1 (fun x => .int x.toInt32) st
  | .dup => ix_v1 (fun v => [v, v]) st
  | .pop => ix_v1 (fun _ => []) st
  | .dup_x1 => ix_v2 (fun v w => [v, w, v]) st
  | .dup_x2 => ix_v3 (fun v w z => [v, w, z, v]) st
  | .dup2 => ix_v2 (fun v w => [v, w, v, w]) st
  | _ => none
def ix_c1 (c : Jvm.ClassFile.Cond) (x : Int32) : Prop := match c with
  | .eq => x = 0 | .ne => ¬ x = 0 | .lt => x < 0 | .ge => 0 ≤ x | .gt => 0 < x | .le => x ≤ 0
def ix_c2 (c : Jvm.ClassFile.Cond) (x y : Int32) : Prop := match c with
  | .eq => x = y | .ne => ¬ x = y | .lt => x < y | .ge => y ≤ x | .gt => y < x | .le => x ≤ y
def ix_d1 (c : Jvm.ClassFile.Cond) (x : Int32) : Decidable (ix_c1 c x) := match c with
  | .eq => inferInstanceAs (Decidable (x = 0)) | .ne => inferInstanceAs (Decidable (¬ x = 0)) | .lt => inferInstanceAs (Decidable (x < 0)) | .ge => inferInstanceAs (Decidable (0 ≤ x)) | .gt => inferInstanceAs (Decidable (0 < x)) | .le => inferInstanceAs (Decidable (x ≤ 0))
def ix_d2 (c : Jvm.ClassFile.Cond) (x y : Int32) : Decidable (ix_c2 c x y) := match c with
  | .eq => inferInstanceAs (Decidable (x = y)) | .ne => inferInstanceAs (Decidable (¬ x = y)) | .lt => inferInstanceAs (Decidable (x < y)) | .ge => inferInstanceAs (Decidable (y ≤ x)) | .gt => inferInstanceAs (Decidable (y < x)) | .le => inferInstanceAs (Decidable (x ≤ y))
/-- where a branch goes -/
def ix_tg (pc : Nat) (off : Int) : Nat := ((pc : Int) + off).toNat
def ix_cb (P : Prop) (d : Decidable P) (pc : Nat) (off : Int) (r : List Value) : Option (Nat × List Value) := if 0 ≤ (pc : Int) + off then some (@ite Nat P d (ix_tg pc off) (pc + 3), r) else none
def ix_br (i : Instr) (pc : Nat) (st : List Value) : Option (Nat × List Value) := match i with
  | .goto off => ix_cb True (inferInstanceAs (Decidable True)) pc off st
  | .ifCond c off => match st with | .int x :: r => ix_cb (ix_c1 c x) (ix_d1 c x) pc off r | _ => none
  | .if_icmp c off => match st with | .int y :: .int x :: r => ix_cb (ix_c2 c x y) (ix_d2 c x y) pc off r | _ => none
  | .ifnull off => match st with | .null :: r => ix_cb True (inferInstanceAs (Decidable True)) pc off r | .ref _ :: r => some (pc + 3, r) | _ => none
  | .ifnonnull off => match st with | .null :: r => some (pc + 3, r) | .ref _ :: r => ix_cb True (inferInstanceAs (Decidable True)) pc off r | _ => none
  | .lookupswitch d ps => match st with | .int x :: r => if 0 ≤ (pc : Int) + Op.lookupswitch.offset ps.toList d x.toInt ∧ (ps.toList.zip (ps.toList.drop 1)).all (fun (a, next) => a.1 < next.1) = true then some (ix_tg pc (Op.lookupswitch.offset ps.toList d x.toInt), r) else none | _ => none
  | .tableswitch d lo hi os => match st with
    | .int x :: r => if x.toInt < lo ∨ hi < x.toInt then (if 0 ≤ (pc : Int) + d then some (ix_tg pc d, r) else none)
      else match os[(x.toInt - lo).toNat]? with
        | some o => if 0 ≤ (pc : Int) + o then some (ix_tg pc o, r) else none
        | none => none
    | _ => none
  | _ => none
def ix_p1 (lg : List Nat) (lv : List Value) (i : Nat) (v : Value) (r : List Value) : Option (List Value × List Value) := if i < lv.length ∧ i ∉ lg ∧ (∀ g ∈ lg, ¬ g + 1 = i) then some (lv.set i v, r) else none
def ix_p2 (lg : List Nat) (lv : List Value) (i : Nat) (v : Value) (r : List Value) : Option (List Value × List Value) := if i + 1 < lv.length ∧ i ∈ lg ∧ i + 1 ∉ lg ∧ (∀ g ∈ lg, ¬ g + 1 = i) then some ((lv.set i v).set (i + 1) (.retAddr 1), r) else none
def ix_ga (v : Option Value) : Option Value := match v with
  | some (.ref x) => some (.ref x) | some .null => some .null | some (.retAddr 0) => some (.retAddr 0) | _ => none
def ix_gi (v : Option Value) : Option Value := match v with | some (.int x) => some (.int x) | _ => none
def ix_gl (v : Option Value) : Option Value := match v with | some (.long x) => some (.long x) | _ => none
def ix_ld (lv st : List Value) (v : Option Value) : Option (List Value × List Value) := match v with | some w => some (lv, w :: st) | none => none
def ix_sa (lg : List Nat) (lv : List Value) (i : Nat) (g : Option Value → Option Value) (st : List Value) : Option (List Value × List Value) := match st with
  | v :: r => (match g (some v) with | some w => ix_p1 lg lv i w r | none => none) | _ => none
def ix_sl (lg : List Nat) (lv : List Value) (i : Nat) (st : List Value) : Option (List Value × List Value) := match st with
  | .long x :: r => ix_p2 lg lv i (.long x) r | _ => none
def ix_lc (lg : List Nat) (i : Instr) (lv : List Value) (st : List Value) : Option (List Value × List Value) := match i with
  | .iload_n n => ix_ld lv st (ix_gi lv[(n : Nat)]?)
  | .iload n => ix_ld lv st (ix_gi lv[n]?)
  | .lload_n n => ix_ld lv st (ix_gl lv[(n : Nat)]?)
  | .lload n => ix_ld lv st (ix_gl lv[n]?)
  | .aload_n n => ix_ld lv st (ix_ga lv[(n : Nat)]?)
  | .aload n => ix_ld lv st (ix_ga lv[n]?)
  | .istore_n n => ix_sa lg lv n ix_gi st
  | .istore n => ix_sa lg lv n ix_gi st
  | .astore_n n => ix_sa lg lv n ix_ga st
  | .astore n => ix_sa lg lv n ix_ga st
  | .lstore_n n => ix_sl lg lv n st
  | .lstore n => ix_sl lg lv n st
  | .iinc n z => match lv[n]? with | some (.int x) => ix_p1 lg lv n (.int (x + Int32.ofInt z)) st | _ => none
  | _ => none
-- the heap: tags below 100 are those of objects, from 100 on of arrays: 100 int, 101 boolean, 102 long, from 103 on of references
def ix_put (t j p : Nat) (v : Value) (h : ix_H) : Option ix_H := match v with
  | .int x => if ix_fk t j = 0 ∨ (ix_fk t j = 3 ∧ (x = 0 ∨ x = 1)) then some (hs_I h p j x) else none
  | .long x => if ix_fk t j = 2 then some (hs_J h p j x) else none
  | .null => if ix_fk t j = 1 then some (hs_R h p j none) else none
  | .ref q => if ix_fk t j = 1 then some (hs_R h p j (some q)) else none
  | _ => none
def ix_hp (xs : Nat → Int32) (L k : Nat) (i : Instr) (st : List Value) (h : ix_H) : Option (List Value × ix_H) := match i with
  | .getfield x => match st with
    | .ref p :: r => if (ix_cp k x).1 = 3 ∧ ha_T h p = (ix_cp k x).2.1 then some (ix_av (ix_cp k x).2.1 (ix_cp k x).2.2 h p :: r, h) else none
    | _ => none
  | .putfield x => match st with
    | v :: .ref p :: r => if (ix_cp k x).1 = 3 ∧ ha_T h p = (ix_cp k x).2.1 ∧ (ix_fin (ix_cp k x).2.1 (ix_cp k x).2.2 = false ∨ ix_ci k = (ix_cp k x).2.1 + 1) then (match ix_put (ix_cp k x).2.1 (ix_cp k x).2.2 p v h with | some h' => some (r, h') | none => none) else none
    | _ => none
  | .new x => if (ix_cp k x).1 = 4 then some (.ref (ha_N h) :: st, hs_new h (ix_cp k x).2.1 0 (ix_nf (ix_cp k x).2.1)) else none
  | .newarray a => match st with
    | .int x :: r => if x < 0 ∨ 1000000 < x.toNatClampNeg ∨ ix_at a = 0 then none else some (.ref (ha_N h) :: r, hs_new h (ix_at a) x.toNatClampNeg x.toNatClampNeg)
    | _ => none
  | .anewarray x => match st with
    | .int y :: r => if y < 0 ∨ 1000000 < y.toNatClampNeg ∨ ¬ (ix_cp k x).1 = 4 ∨ (ix_cp k x).2.2 = 0 then none else some (.ref (ha_N h) :: r, hs_new h (ix_cp k x).2.2 y.toNatClampNeg y.toNatClampNeg)
    | _ => none
  | .arraylength => match st with
    | .ref p :: r => if 100 ≤ ha_T h p ∧ ha_T h p < ix_tz then some (.int (Int32.ofNat (ha_L h p)) :: r, h) else none
    | .retAddr 0 :: r => some (.int (Int32.ofNat L) :: r, h)
    | _ => none
  | .iaload => match st with
    | .int x :: .ref p :: r => if ha_T h p = 100 ∧ ¬ (x < 0 ∨ ha_L h p ≤ x.toNatClampNeg) then some (.int (ha_I h p x.toNatClampNeg) :: r, h) else none
    | .int x :: .retAddr 0 :: r => if x < 0 ∨ L ≤ x.toNatClampNeg then none else some (.int (xs x.toNatClampNeg) :: r, h)
    | _ => none
  | .baload => match st with
    | .int x :: .ref p :: r => if ha_T h p = 101 ∧ ¬ (x < 0 ∨ ha_L h p ≤ x.toNatClampNeg) then some (.int (ha_I h p x.toNatClampNeg) :: r, h) else none
    | _ => none
  | .laload => match st with
    | .int x :: .ref p :: r => if ha_T h p = 102 ∧ ¬ (x < 0 ∨ ha_L h p ≤ x.toNatClampNeg) then some (.long (ha_J h p x.toNatClampNeg) :: r, h) else none
    | _ => none
  | .aaload => match st with
    | .int x :: .ref p :: r => if 103 ≤ ha_T h p ∧ ha_T h p < ix_tz ∧ ¬ (x < 0 ∨ ha_L h p ≤ x.toNatClampNeg) then some (va_rf (ha_R h p x.toNatClampNeg) :: r, h) else none
    | _ => none
  | .iastore => match st with
    | .int y :: .int x :: .ref p :: r => if ha_T h p = 100 ∧ ¬ (x < 0 ∨ ha_L h p ≤ x.toNatClampNeg) then some (r, hs_I h p x.toNatClampNeg y) else none
    | _ => none
  | .bastore => match st with
    | .int y :: .int x :: .ref p :: r => if ha_T h p = 101 ∧ (y = 0 ∨ y = 1) ∧ ¬ (x < 0 ∨ ha_L h p ≤ x.toNatClampNeg) then some (r, hs_I h p x.toNatClampNeg y) else none
    | _ => none
  | .lastore => match st with
    | .long y :: .int x :: .ref p :: r => if ha_T h p = 102 ∧ ¬ (x < 0 ∨ ha_L h p ≤ x.toNatClampNeg) then some (r, hs_J h p x.toNatClampNeg y) else none
    | _ => none
  | .aastore => match st with
    | .ref q :: .int x :: .ref p :: r => if 103 ≤ ha_T h p ∧ ha_T h p < ix_tz ∧ ha_T h q = ix_co (ha_T h p) ∧ ¬ (x < 0 ∨ ha_L h p ≤ x.toNatClampNeg) then some (r, hs_R h p x.toNatClampNeg (some q)) else none
    | _ => none
  | _ => none
-- ends, by the kind of answer: 0 none, 1 int, 2 boolean, 3 long, 4 reference
def ix_rtn (rk : Nat) (i : Instr) (st : List Value) : Option (Option Value) := match i with
  | .return_ => if rk = 0 ∧ st.isEmpty = true then some none else none
  | .ireturn => match st with | [.int x] => if rk = 1 ∨ (rk = 2 ∧ (x = 0 ∨ x = 1)) then some (some (.int x)) else none | _ => none
  | .lreturn => match st with | [.long x] => if rk = 3 then some (some (.long x)) else none | _ => none
  | .areturn => match st with | [.null] => if rk = 4 then some (some .null) else none | [.ref x] => if rk = 4 then some (some (.ref x)) else none | _ => none
  | _ => none
def ix_sp : Nat → List Value → Option (List Value × List Value)
  | 0, st => some ([], st)
  | _ + 1, [] => none
  | n + 1, v :: r => match ix_sp n r with | some (as, q) => some (as ++ [v], q) | none => none
def ix_cs (st : List Value) : Nat := (st.map (fun v => v.category)).sum
-- calls that leave the method
def ix_cq (k a : Nat) (as r : List Value) (pc : Nat) (lv : List Value) (h : ix_H) (rc : Bool) : Option (ix_F ⊕ ix_Q) :=
  if ix_ra a < ix_ra k ∧ 19 + ix_ml a + ix_lo a ≤ ix_lo k ∧ ix_cs r ≤ 8 then (match rc, as with
    | true, .ref p :: _ => if ha_T h p = ix_mt a then some (.inr (a, as, (pc + 3, lv, r, h))) else none
    | false, _ => some (.inr (a, as, (pc + 3, lv, r, h)))
    | _, _ => none) else none
-- kinds of a call: 6 virtual, 7 a beginning, 12 a beginning of a nest mate, 8 static, 9 Object's own beginning, 10 max, 11 min
def ix_inv (k : Nat) (i : Instr) (pc : Nat) (lv : List Value) (st : List Value) (h : ix_H) : Option (ix_F ⊕ ix_Q) := match i with
  | .invokespecial x => if (ix_cp k x).1 = 9 then (match st with | .ref _ :: r => if 1 ≤ ix_ra k ∧ ix_cs r + 12 ≤ ix_lo k then some (.inl (pc + 3, lv, r, h)) else none | _ => none)
    else if (ix_cp k x).1 = 7 ∨ (ix_cp k x).1 = 12 then (match ix_sp (ix_cp k x).2.2 st with | some (as, r) => ix_cq k (ix_cp k x).2.1 as r pc lv h true | none => none) else none
  | .invokevirtual x => if (ix_cp k x).1 = 6 then (match ix_sp (ix_cp k x).2.2 st with | some (as, r) => ix_cq k (ix_cp k x).2.1 as r pc lv h true | none => none) else none
  | .invokestatic x => if (ix_cp k x).1 = 10 then (match st with | .int y :: .int z :: r => if 1 ≤ ix_ra k ∧ ix_cs r + 13 ≤ ix_lo k then some (.inl (pc + 3, lv, .int (if z < y then y else z) :: r, h)) else none | _ => none)
    else if (ix_cp k x).1 = 11 then (match st with | .int y :: .int z :: r => if 1 ≤ ix_ra k ∧ ix_cs r + 13 ≤ ix_lo k then some (.inl (pc + 3, lv, .int (if y < z then y else z) :: r, h)) else none | _ => none)
    else if (ix_cp k x).1 = 8 then (match ix_sp (ix_cp k x).2.2 st with | some (as, r) => ix_cq k (ix_cp k x).2.1 as r pc lv h false | none => none) else none
  | _ => none
def ix_len (i : Instr) (n : Nat) : Bool := match i with
  | .lookupswitch _ _ => true
  | .tableswitch _ _ _ _ => true
  | .bipush _ => n == 2 | .ldc _ => n == 2 | .iload _ => n == 2 | .lload _ => n == 2 | .aload _ => n == 2 | .istore _ => n == 2 | .lstore _ => n == 2 | .astore _ => n == 2 | .newarray _ => n == 2
  | .sipush _ => n == 3 | .ldc_w _ => n == 3 | .ldc2_w _ => n == 3 | .goto _ => n == 3 | .ifCond _ _ => n == 3 | .if_icmp _ _ => n == 3 | .ifnull _ => n == 3 | .ifnonnull _ => n == 3 | .iinc _ _ => n == 3 | .getfield _ => n == 3 | .putfield _ => n == 3
  | .new _ => n == 3 | .anewarray _ => n == 3 | .invokespecial _ => n == 3 | .invokevirtual _ => n == 3 | .invokestatic _ => n == 3
  | _ => n == 1
def ix_do (xs : Nat → Int32) (L k : Nat) (i : Instr) (n : Nat) (fr : ix_F) : Option (ix_F ⊕ (ix_Q ⊕ ix_O)) := match ix_alu (ix_cp k) i fr.2.2.1 with
  | some q => some (.inl (fr.1 + n, fr.2.1, q, fr.2.2.2))
  | none => match ix_br i fr.1 fr.2.2.1 with
    | some q => some (.inl (q.1, fr.2.1, q.2, fr.2.2.2))
    | none => match ix_lc (ix_lg k) i fr.2.1 fr.2.2.1 with
      | some q => some (.inl (fr.1 + n, q.1, q.2, fr.2.2.2))
      | none => match ix_hp xs L k i fr.2.2.1 fr.2.2.2 with
        | some q => some (.inl (fr.1 + n, fr.2.1, q.1, q.2))
        | none => match ix_inv k i fr.1 fr.2.1 fr.2.2.1 fr.2.2.2 with
          | some (.inl g) => some (.inl g)
          | some (.inr q) => some (.inr (.inl q))
          | none => match ix_rtn (ix_rk k) i fr.2.2.1 with
            | some v => some (.inr (.inr (v, fr.2.2.2)))
            | none => none
def ix_step (xs : Nat → Int32) (L k : Nat) (fr : ix_F) : Option (ix_F ⊕ (ix_Q ⊕ ix_O)) := match decode (ix_by k) fr.1 with
  | .ok (i, n) => if ix_len i n = true then ix_do xs L k i n fr else none
  | .error _ => none
def ix_run (call : Nat → List Value → ix_H → Option ix_O) (xs : Nat → Int32) (L k : Nat) : Nat → ix_F → Option ix_O
  | 0, _ => none
  | f + 1, fr => match ix_step xs L k fr with
    | none => none
    | some (.inl g) => ix_run call xs L k f g
    | some (.inr (.inl q)) => match call q.1 q.2.1 q.2.2.2.2.2 with
      | none => none
      | some o => ix_run call xs L k f (q.2.2.1, q.2.2.2.1, o.1.toList ++ q.2.2.2.2.1, o.2)
    | some (.inr (.inr o)) => some o
def ix_lgk (lg : List Nat) : Nat → List Value → Bool
  | _, [] => true
  | n, v :: vs => (v.category != 2 || lg.contains n) && ix_lgk lg (n + 1) vs
theorem lgk_at {lg : List Nat} : ∀ (l : List Value) (n : Nat), ix_lgk lg n l = true → ∀ (j : Nat) (v : Value), l[j]? = some v → v.category = 2 → n + j ∈ lg := by
  intro l
  induction l with
  | nil => intro n _ j v hj; simp at hj
  | cons w ws ih =>
    intro n h j v hj hv
    simp only [ix_lgk, Bool.and_eq_true] at h
    cases j with
    | zero =>
      simp only [List.getElem?_cons_zero, Option.some.injEq] at hj
      subst hj
      have h1 := h.1
      simp [hv] at h1
      simpa using h1
    | succ j =>
      rw [List.getElem?_cons_succ] at hj
      have := ih (n + 1) h.2 j v hj hv
      rwa [show n + (j + 1) = n + 1 + j by omega]
def ix_ok0 (k : Nat) (as : List Value) : Bool := Nat.ble (k + 1) ix_M && (Nat.ble (ix_la as).length (ix_ml k) && (Nat.beq as.length (ix_np k) && ix_lgk (ix_lg k) 0 (ix_la as)))
def ix_ex (xs : Nat → Int32) (L f : Nat) : Nat → Nat → List Value → ix_H → Option ix_O
  | 0, _, _, _ => none
  | d + 1, k, as, h => if ix_ok0 k as = true then ix_run (ix_ex xs L f d) xs L k f (0, ix_l0 as (ix_ml k), [], h) else none
-- more fuel, more depth: the same answer
theorem ix_run_mono {c c' : Nat → List Value → ix_H → Option ix_O} (hc : ∀ k as h o, c k as h = some o → c' k as h = some o) (xs : Nat → Int32) (L k : Nat) : ∀ (f f' : Nat) (fr : ix_F) (o : ix_O), f ≤ f' → ix_run c xs L k f fr = some o → ix_run c' xs L k f' fr = some o := by
  intro f
  induction f with
  | zero => intro f' fr o _ h; simp [ix_run] at h
  | succ f ih =>
    intro f' fr o hf h
    obtain ⟨g, rfl⟩ : ∃ g, f' = g + 1 := ⟨f' - 1, by omega⟩
    simp only [ix_run] at h ⊢
    split at h
    · cases h
    · exact ih g _ o (by omega) h
    · split at h
      · cases h
      · next o1 ho =>
        rw [hc _ _ _ _ ho]
        exact ih g _ o (by omega) h
    · exact h
theorem ix_ex_mono (xs : Nat → Int32) (L : Nat) : ∀ (d d' f f' k : Nat) (as : List Value) (h : ix_H) (o : ix_O), d ≤ d' → f ≤ f' → ix_ex xs L f d k as h = some o → ix_ex xs L f' d' k as h = some o := by
  intro d
  induction d with
  | zero => intro d' f f' k as h o _ _ hx; simp [ix_ex] at hx
  | succ d ih =>
    intro d' f f' k as h o hd hf hx
    obtain ⟨e, rfl⟩ : ∃ e, d' = e + 1 := ⟨d' - 1, by omega⟩
    simp only [ix_ex] at hx ⊢
    split at hx
    · next hc => rw [if_pos hc]; exact ix_run_mono (fun k as h o hq => ih e f f' k as h o (by omega) hf hq) xs L k f f' _ o hf hx
    · cases hx
section EV
variable (xs : Nat → Int32) (L : Nat)
def Ex (k : Nat) (as : List Value) (h : ix_H) (o : ix_O) : Prop := ∃ f d, ix_ex xs L f d k as h = some o
def Ev (k : Nat) (fr : ix_F) (o : ix_O) : Prop := ∃ f d, ix_run (ix_ex xs L f d) xs L k f fr = some o
def Cl (k : Nat) (as : List Value) (h : ix_H) (K : Option Value → ix_H → Prop) : Prop := ∃ o, Ex xs L k as h o ∧ K o.1 o.2
theorem Ex_of {k : Nat} {as : List Value} {h : ix_H} {o : ix_O} (h1 : ix_ok0 k as = true) (h2 : Ev xs L k (0, ix_l0 as (ix_ml k), [], h) o) : Ex xs L k as h o := by
  obtain ⟨f, d, h2⟩ := h2
  refine ⟨f, d + 1, ?_⟩
  simp only [ix_ex]
  rw [if_pos h1]
  exact h2
theorem Ex_det {k : Nat} {as : List Value} {h : ix_H} {o o' : ix_O} (h1 : Ex xs L k as h o) (h2 : Ex xs L k as h o') : o = o' := by
  obtain ⟨f, d, h1⟩ := h1
  obtain ⟨g, e, h2⟩ := h2
  have a1 := ix_ex_mono xs L d (max d e) f (max f g) k as h o (Nat.le_max_left _ _) (Nat.le_max_left _ _) h1
  have a2 := ix_ex_mono xs L e (max d e) g (max f g) k as h o' (Nat.le_max_right _ _) (Nat.le_max_right _ _) h2
  exact Option.some.inj (a1.symm.trans a2)
theorem Cl_of {k : Nat} {as : List Value} {h : ix_H} {o : ix_O} {K : Option Value → ix_H → Prop} (h1 : Ex xs L k as h o) : Cl xs L k as h K ↔ K o.1 o.2 := by
  constructor
  · rintro ⟨o', h2, h3⟩
    rw [Ex_det xs L h1 h2]
    exact h3
  · intro h2
    exact ⟨o, h1, h2⟩
theorem iv_go {k : Nat} {fr g : ix_F} {o : ix_O} (hs : ix_step xs L k fr = some (.inl g)) : Ev xs L k fr o ↔ Ev xs L k g o := by
  constructor
  · rintro ⟨f, d, h⟩
    cases f with
    | zero => simp [ix_run] at h
    | succ f =>
      simp only [ix_run, hs] at h
      exact ⟨f + 1, d, ix_run_mono (fun _ _ _ _ hq => hq) xs L k f _ _ o (by omega) h⟩
  · rintro ⟨f, d, h⟩
    refine ⟨f + 1, d, ?_⟩
    simp only [ix_run, hs]
    exact ix_run_mono (fun k as h o hq => ix_ex_mono xs L d d f _ k as h o (Nat.le_refl _) (by omega) hq) xs L k f _ _ o (Nat.le_refl _) h
theorem iv_cl {k : Nat} {fr : ix_F} {q : ix_Q} {o : ix_O} (hs : ix_step xs L k fr = some (.inr (.inl q))) : Ev xs L k fr o ↔ Cl xs L q.1 q.2.1 q.2.2.2.2.2 (fun v h' => Ev xs L k (q.2.2.1, q.2.2.2.1, v.toList ++ q.2.2.2.2.1, h') o) := by
  constructor
  · rintro ⟨f, d, h⟩
    cases f with
    | zero => simp [ix_run] at h
    | succ f =>
      simp only [ix_run, hs] at h
      split at h
      · cases h
      · next o2 ho =>
        exact ⟨o2, ⟨f + 1, d, ho⟩, ⟨f + 1, d, ix_run_mono (fun _ _ _ _ hq => hq) xs L k f _ _ o (by omega) h⟩⟩
  · rintro ⟨o1, ⟨f1, d1, hc⟩, ⟨f, d, h⟩⟩
    refine ⟨max f f1 + 1, max d d1, ?_⟩
    simp only [ix_run, hs]
    rw [ix_ex_mono xs L d1 (max d d1) f1 (max f f1 + 1) _ _ _ _ (Nat.le_max_right _ _) (by have := Nat.le_max_right f f1; omega) hc]
    exact ix_run_mono (fun k as h o hq => ix_ex_mono xs L d _ f _ k as h o (Nat.le_max_left _ _) (by have := Nat.le_max_left f f1; omega) hq) xs L k f _ _ o (Nat.le_max_left _ _) h
theorem iv_end {k : Nat} {fr : ix_F} {o o1 : ix_O} (hs : ix_step xs L k fr = some (.inr (.inr o1))) : Ev xs L k fr o ↔ o = o1 := by
  constructor
  · rintro ⟨f, d, h⟩
    cases f with
    | zero => simp [ix_run] at h
    | succ f => simp only [ix_run, hs] at h; exact (Option.some.inj h).symm
  · rintro rfl
    exact ⟨1, 0, by simp only [ix_run, hs]⟩
variable {k pc n : Nat} {cc : ByteArray} {i : Instr} {lv lv' st st' r : List Value} {h h' : ix_H} {o : ix_O}
theorem st_of (hb : ix_by k = cc) (hd : decode cc pc = .ok (i, n)) (hn : ix_len i n = true) : ix_step xs L k (pc, lv, st, h) = ix_do xs L k i n (pc, lv, st, h) := by
  subst hb
  simp only [ix_step, hd, hn, if_true]
theorem iv_alu (hb : ix_by k = cc) (hd : decode cc pc = .ok (i, n)) (hn : ix_len i n = true) (h2 : ix_alu (ix_cp k) i st = some st') : Ev xs L k (pc, lv, st, h) o ↔ Ev xs L k (pc + n, lv, st', h) o :=
  iv_go xs L (by rw [st_of xs L hb hd hn]; simp only [ix_do, h2])
theorem iv_br {t : Nat} (hb : ix_by k = cc) (hd : decode cc pc = .ok (i, n)) (hn : ix_len i n = true) (h0 : ix_alu (ix_cp k) i st = none) (h2 : ix_br i pc st = some (t, st')) : Ev xs L k (pc, lv, st, h) o ↔ Ev xs L k (t, lv, st', h) o :=
  iv_go xs L (by rw [st_of xs L hb hd hn]; simp only [ix_do, h0, h2])
theorem iv_lc (hb : ix_by k = cc) (hd : decode cc pc = .ok (i, n)) (hn : ix_len i n = true) (h0 : ix_alu (ix_cp k) i st = none) (h1 : ix_br i pc st = none) (h2 : ix_lc (ix_lg k) i lv st = some (lv', st')) : Ev xs L k (pc, lv, st, h) o ↔ Ev xs L k (pc + n, lv', st', h) o :=
  iv_go xs L (by rw [st_of xs L hb hd hn]; simp only [ix_do, h0, h1, h2])
theorem iv_hp (hb : ix_by k = cc) (hd : decode cc pc = .ok (i, n)) (hn : ix_len i n = true) (h0 : ix_alu (ix_cp k) i st = none) (h1 : ix_br i pc st = none) (h3 : ix_lc (ix_lg k) i lv st = none) (h2 : ix_hp xs L k i st h = some (st', h')) : Ev xs L k (pc, lv, st, h) o ↔ Ev xs L k (pc + n, lv, st', h') o :=
  iv_go xs L (by rw [st_of xs L hb hd hn]; simp only [ix_do, h0, h1, h3, h2])
theorem iv_il {g : ix_F} (hb : ix_by k = cc) (hd : decode cc pc = .ok (i, n)) (hn : ix_len i n = true) (h0 : ix_alu (ix_cp k) i st = none) (h1 : ix_br i pc st = none) (h3 : ix_lc (ix_lg k) i lv st = none) (h4 : ix_hp xs L k i st h = none) (h2 : ix_inv k i pc lv st h = some (.inl g)) : Ev xs L k (pc, lv, st, h) o ↔ Ev xs L k g o :=
  iv_go xs L (by rw [st_of xs L hb hd hn]; simp only [ix_do, h0, h1, h3, h4, h2])
theorem iv_ir {q : ix_Q} (hb : ix_by k = cc) (hd : decode cc pc = .ok (i, n)) (hn : ix_len i n = true) (h0 : ix_alu (ix_cp k) i st = none) (h1 : ix_br i pc st = none) (h3 : ix_lc (ix_lg k) i lv st = none) (h4 : ix_hp xs L k i st h = none) (h2 : ix_inv k i pc lv st h = some (.inr q)) : Ev xs L k (pc, lv, st, h) o ↔ Cl xs L q.1 q.2.1 q.2.2.2.2.2 (fun v h' => Ev xs L k (q.2.2.1, q.2.2.2.1, v.toList ++ q.2.2.2.2.1, h') o) :=
  iv_cl xs L (by rw [st_of xs L hb hd hn]; simp only [ix_do, h0, h1, h3, h4, h2])
theorem iv_rt {v : Option Value} (hb : ix_by k = cc) (hd : decode cc pc = .ok (i, n)) (hn : ix_len i n = true) (h0 : ix_alu (ix_cp k) i st = none) (h1 : ix_br i pc st = none) (h3 : ix_lc (ix_lg k) i lv st = none) (h4 : ix_hp xs L k i st h = none) (h5 : ix_inv k i pc lv st h = none) (h2 : ix_rtn (ix_rk k) i st = some v) : Ev xs L k (pc, lv, st, h) o ↔ o = (v, h) :=
  iv_end xs L (by rw [st_of xs L hb hd hn]; simp only [ix_do, h0, h1, h3, h4, h5, h2])
-- by kinds
theorem cb_pos {P : Prop} {d : Decidable P} {off : Int} {t : Nat} (ht : (pc : Int) + off = (t : Int)) : ix_cb P d pc off r = some (@ite Nat P d t (pc + 3), r) := by
  unfold ix_cb ix_tg
  rw [ht, if_pos (Int.natCast_nonneg t), Int.toNat_natCast]
theorem iv_goto {off : Int} {t : Nat} (hb : ix_by k = cc) (hd : decode cc pc = .ok (.goto off, 3)) (ht : (pc : Int) + off = (t : Int)) : Ev xs L k (pc, lv, st, h) o ↔ Ev xs L k (t, lv, st, h) o :=
  iv_br xs L hb hd rfl rfl (by show ix_cb _ _ pc off st = _; rw [cb_pos ht, if_pos trivial])
theorem iv_if1 {c : Jvm.ClassFile.Cond} {off : Int} {t : Nat} {x : Int32} {P : Prop} {dP : Decidable P} (hb : ix_by k = cc) (hd : decode cc pc = .ok (.ifCond c off, 3)) (ht : (pc : Int) + off = (t : Int)) (hP : ix_c1 c x ↔ P) : Ev xs L k (pc, lv, .int x :: r, h) o ↔ if P then Ev xs L k (t, lv, r, h) o else Ev xs L k (pc + 3, lv, r, h) o := by
  have := iv_br xs L (lv := lv) (h := h) (o := o) (st := .int x :: r) hb hd rfl rfl (show ix_cb _ _ pc off r = _ from cb_pos ht)
  rw [this]
  by_cases hc : P
  · rw [if_pos (hP.mpr hc), if_pos hc]
  · rw [if_neg (fun q => hc (hP.mp q)), if_neg hc]
theorem iv_if2 {c : Jvm.ClassFile.Cond} {off : Int} {t : Nat} {x y : Int32} {P : Prop} {dP : Decidable P} (hb : ix_by k = cc) (hd : decode cc pc = .ok (.if_icmp c off, 3)) (ht : (pc : Int) + off = (t : Int)) (hP : ix_c2 c x y ↔ P) : Ev xs L k (pc, lv, .int y :: .int x :: r, h) o ↔ if P then Ev xs L k (t, lv, r, h) o else Ev xs L k (pc + 3, lv, r, h) o := by
  have := iv_br xs L (lv := lv) (h := h) (o := o) (st := .int y :: .int x :: r) hb hd rfl rfl (show ix_cb _ _ pc off r = _ from cb_pos ht)
  rw [this]
  by_cases hc : P
  · rw [if_pos (hP.mpr hc), if_pos hc]
  · rw [if_neg (fun q => hc (hP.mp q)), if_neg hc]
theorem iv_get {x p t j : Nat} {v : Value} (hb : ix_by k = cc) (hd : decode cc pc = .ok (.getfield x, 3)) (hc : ix_cp k x = (3, t, j)) (hT : ha_T h p = t) (hv : ix_av t j h p = v) : Ev xs L k (pc, lv, .ref p :: r, h) o ↔ Ev xs L k (pc + 3, lv, v :: r, h) o :=
  iv_hp xs L hb hd rfl rfl rfl rfl (by simp only [ix_hp, hc, hT, hv, and_self, if_true])
theorem iv_put {x p t j : Nat} {v : Value} (hb : ix_by k = cc) (hd : decode cc pc = .ok (.putfield x, 3)) (hc : ix_cp k x = (3, t, j)) (hf : ix_fin t j = false ∨ ix_ci k = t + 1) (hT : ha_T h p = t) (hv : ix_put t j p v h = some h') : Ev xs L k (pc, lv, v :: .ref p :: r, h) o ↔ Ev xs L k (pc + 3, lv, r, h') o :=
  iv_hp xs L hb hd rfl rfl rfl rfl (by simp only [ix_hp, hc, hT, hv, hf, and_self, if_true])
theorem put_i {t j p : Nat} {x : Int32} (hk : ix_fk t j = 0) : ix_put t j p (.int x) h = some (hs_I h p j x) := by simp only [ix_put, hk, true_or, if_true]
theorem put_z {t j p : Nat} {x : Int32} (hk : ix_fk t j = 3) (hx : x = 0 ∨ x = 1) : ix_put t j p (.int x) h = some (hs_I h p j x) := by
  unfold ix_put
  exact if_pos (Or.inr ⟨hk, hx⟩)
theorem put_r {t j p q : Nat} (hk : ix_fk t j = 1) : ix_put t j p (.ref q) h = some (hs_R h p j (some q)) := by simp only [ix_put, hk, if_true]
theorem put_n {t j p : Nat} (hk : ix_fk t j = 1) : ix_put t j p .null h = some (hs_R h p j none) := by simp only [ix_put, hk, if_true]
theorem put_l {t j p : Nat} {x : Int64} (hk : ix_fk t j = 2) : ix_put t j p (.long x) h = some (hs_J h p j x) := by simp only [ix_put, hk, if_true]
theorem iv_k1 {w v : Int32} (hb : ix_by k = cc) (hd : decode cc pc = .ok (i, n)) (hn : ix_len i n = true) (ha : ix_alu (ix_cp k) i st = some (.int w :: st)) (hw : w = v) : Ev xs L k (pc, lv, st, h) o ↔ Ev xs L k (pc + n, lv, .int v :: st, h) o := by
  subst hw
  exact iv_alu xs L hb hd hn ha
theorem iv_k2 {w v : Int64} (hb : ix_by k = cc) (hd : decode cc pc = .ok (i, n)) (hn : ix_len i n = true) (ha : ix_alu (ix_cp k) i st = some (.long w :: st)) (hw : w = v) : Ev xs L k (pc, lv, st, h) o ↔ Ev xs L k (pc + n, lv, .long v :: st, h) o := by
  subst hw
  exact iv_alu xs L hb hd hn ha
theorem iv_ldc {x a z : Nat} {v : Int32} (hb : ix_by k = cc) (hd : decode cc pc = .ok (.ldc x, 2)) (hc : ix_cp k x = (1, a, z)) (hw : Int32.ofNat a = v) : Ev xs L k (pc, lv, st, h) o ↔ Ev xs L k (pc + 2, lv, .int v :: st, h) o :=
  iv_k1 xs L hb hd rfl (by simp only [ix_alu, hc, if_true]) hw
theorem iv_ldcw {x a z : Nat} {v : Int32} (hb : ix_by k = cc) (hd : decode cc pc = .ok (.ldc_w x, 3)) (hc : ix_cp k x = (1, a, z)) (hw : Int32.ofNat a = v) : Ev xs L k (pc, lv, st, h) o ↔ Ev xs L k (pc + 3, lv, .int v :: st, h) o :=
  iv_k1 xs L hb hd rfl (by simp only [ix_alu, hc, if_true]) hw
theorem iv_ldc2 {x a z : Nat} {v : Int64} (hb : ix_by k = cc) (hd : decode cc pc = .ok (.ldc2_w x, 3)) (hc : ix_cp k x = (2, a, z)) (hw : Int64.ofNat a = v) : Ev xs L k (pc, lv, st, h) o ↔ Ev xs L k (pc + 3, lv, .long v :: st, h) o :=
  iv_k2 xs L hb hd rfl (by simp only [ix_alu, hc, if_true]) hw
theorem iv_nz {y x w : Int32} {f : Int32 → Int32 → Value} (hb : ix_by k = cc) (hd : decode cc pc = .ok (i, 1)) (hn : ix_len i 1 = true) (hf : ix_alu (ix_cp k) i (.int y :: .int x :: r) = ix_iz f (.int y :: .int x :: r)) (hw : f x y = .int w) (hy : ¬ y = 0) : Ev xs L k (pc, lv, .int y :: .int x :: r, h) o ↔ Ev xs L k (pc + 1, lv, .int w :: r, h) o :=
  iv_alu xs L hb hd hn (by rw [hf]; simp only [ix_iz, hy, if_false, hw])
theorem iv_v1 {v : Value} {f : Value → List Value} (hb : ix_by k = cc) (hd : decode cc pc = .ok (i, 1)) (hn : ix_len i 1 = true) (hf : ix_alu (ix_cp k) i (v :: r) = ix_v1 f (v :: r)) (hv : v.category = 1) (hw : f v ++ r = st') : Ev xs L k (pc, lv, v :: r, h) o ↔ Ev xs L k (pc + 1, lv, st', h) o :=
  iv_alu xs L hb hd hn (by rw [hf]; simp only [ix_v1, hv, if_true, hw])
theorem iv_v2 {v w : Value} {f : Value → Value → List Value} (hb : ix_by k = cc) (hd : decode cc pc = .ok (i, 1)) (hn : ix_len i 1 = true) (hf : ix_alu (ix_cp k) i (v :: w :: r) = ix_v2 f (v :: w :: r)) (hv : v.category = 1) (hw : w.category = 1) (he : f v w ++ r = st') : Ev xs L k (pc, lv, v :: w :: r, h) o ↔ Ev xs L k (pc + 1, lv, st', h) o :=
  iv_alu xs L hb hd hn (by rw [hf]; simp only [ix_v2, hv, hw, and_self, if_true, he])
theorem iv_v3 {v w z : Value} {f : Value → Value → Value → List Value} (hb : ix_by k = cc) (hd : decode cc pc = .ok (i, 1)) (hn : ix_len i 1 = true) (hf : ix_alu (ix_cp k) i (v :: w :: z :: r) = ix_v3 f (v :: w :: z :: r)) (hv : v.category = 1) (hw : w.category = 1) (hz : z.category = 1) (he : f v w z ++ r = st') : Ev xs L k (pc, lv, v :: w :: z :: r, h) o ↔ Ev xs L k (pc + 1, lv, st', h) o :=
  iv_alu xs L hb hd hn (by rw [hf]; simp only [ix_v3, hv, hw, hz, and_self, if_true, he])
theorem iv_nul {off : Int} {t : Nat} (hb : ix_by k = cc) (hd : decode cc pc = .ok (.ifnull off, 3)) (ht : (pc : Int) + off = (t : Int)) : Ev xs L k (pc, lv, .null :: r, h) o ↔ Ev xs L k (t, lv, r, h) o :=
  iv_br xs L hb hd rfl rfl (by show ix_cb _ _ pc off r = _; rw [cb_pos ht, if_pos trivial])
theorem iv_nur {off : Int} {p : Nat} (hb : ix_by k = cc) (hd : decode cc pc = .ok (.ifnull off, 3)) : Ev xs L k (pc, lv, .ref p :: r, h) o ↔ Ev xs L k (pc + 3, lv, r, h) o :=
  iv_br xs L hb hd rfl rfl rfl
theorem iv_nnl {off : Int} (hb : ix_by k = cc) (hd : decode cc pc = .ok (.ifnonnull off, 3)) : Ev xs L k (pc, lv, .null :: r, h) o ↔ Ev xs L k (pc + 3, lv, r, h) o :=
  iv_br xs L hb hd rfl rfl rfl
theorem iv_nnr {off : Int} {t p : Nat} (hb : ix_by k = cc) (hd : decode cc pc = .ok (.ifnonnull off, 3)) (ht : (pc : Int) + off = (t : Int)) : Ev xs L k (pc, lv, .ref p :: r, h) o ↔ Ev xs L k (t, lv, r, h) o :=
  iv_br xs L hb hd rfl rfl (by show ix_cb _ _ pc off r = _; rw [cb_pos ht, if_pos trivial])
theorem iv_lsw {d : Int} {ps : Array (Int × Int)} {x : Int32} {t : Nat} {off : Int} (hb : ix_by k = cc) (hd : decode cc pc = .ok (.lookupswitch d ps, n)) (hs : (ps.toList.zip (ps.toList.drop 1)).all (fun (a, next) => a.1 < next.1) = true) (ho : Op.lookupswitch.offset ps.toList d x.toInt = off) (ht : (pc : Int) + off = (t : Int)) : Ev xs L k (pc, lv, .int x :: r, h) o ↔ Ev xs L k (t, lv, r, h) o :=
  iv_br xs L hb hd rfl rfl (by
    show (if _ then _ else _) = _
    rw [ho, if_pos ⟨by rw [ht]; exact Int.natCast_nonneg t, hs⟩]
    unfold ix_tg
    rw [ht, Int.toNat_natCast])
theorem iv_tsO {d lo hi : Int} {os : Array Int} {x : Int32} {t : Nat} (hb : ix_by k = cc) (hd : decode cc pc = .ok (.tableswitch d lo hi os, n)) (hx : x.toInt < lo ∨ hi < x.toInt) (ht : (pc : Int) + d = (t : Int)) : Ev xs L k (pc, lv, .int x :: r, h) o ↔ Ev xs L k (t, lv, r, h) o :=
  iv_br xs L hb hd rfl rfl (by
    simp only [ix_br]
    rw [if_pos hx, if_pos (by rw [ht]; exact Int.natCast_nonneg t)]
    unfold ix_tg
    rw [ht, Int.toNat_natCast])
theorem iv_tsI {d lo hi off : Int} {os : Array Int} {x : Int32} {t : Nat} (hb : ix_by k = cc) (hd : decode cc pc = .ok (.tableswitch d lo hi os, n)) (hx : ¬ (x.toInt < lo ∨ hi < x.toInt)) (ho : os[(x.toInt - lo).toNat]? = some off) (ht : (pc : Int) + off = (t : Int)) : Ev xs L k (pc, lv, .int x :: r, h) o ↔ Ev xs L k (t, lv, r, h) o :=
  iv_br xs L hb hd rfl rfl (by
    simp only [ix_br]
    rw [if_neg hx, ho]
    simp only []
    rw [if_pos (by rw [ht]; exact Int.natCast_nonneg t)]
    unfold ix_tg
    rw [ht, Int.toNat_natCast])
theorem iv_new {x t m : Nat} (hb : ix_by k = cc) (hd : decode cc pc = .ok (.new x, 3)) {z : Nat} (hc : ix_cp k x = (4, t, z)) (hm : ix_nf t = m) : Ev xs L k (pc, lv, st, h) o ↔ Ev xs L k (pc + 3, lv, .ref (ha_N h) :: st, hs_new h t 0 m) o :=
  iv_hp xs L hb hd rfl rfl rfl rfl (by simp only [ix_hp, hc, hm, if_true])
theorem iv_newa {a : Jvm.ClassFile.ArrayType} {t N : Nat} {x : Int32} (hb : ix_by k = cc) (hd : decode cc pc = .ok (.newarray a, 2)) (ha : ix_at a = t) (ht : ¬ t = 0) (h0 : ¬ x < 0) (hx : x.toNatClampNeg = N) (hN : ¬ 1000000 < N) : Ev xs L k (pc, lv, .int x :: r, h) o ↔ Ev xs L k (pc + 2, lv, .ref (ha_N h) :: r, hs_new h t N N) o :=
  iv_hp xs L hb hd rfl rfl rfl rfl (by simp only [ix_hp, ha, ht, h0, hx, hN, or_self, if_false])
theorem iv_newq {x t N : Nat} {y : Int32} (hb : ix_by k = cc) (hd : decode cc pc = .ok (.anewarray x, 3)) {z : Nat} (hc : ix_cp k x = (4, z, t)) (ht : ¬ t = 0) (h0 : ¬ y < 0) (hx : y.toNatClampNeg = N) (hN : ¬ 1000000 < N) : Ev xs L k (pc, lv, .int y :: r, h) o ↔ Ev xs L k (pc + 3, lv, .ref (ha_N h) :: r, hs_new h t N N) o :=
  iv_hp xs L hb hd rfl rfl rfl rfl (by simp only [ix_hp, hc, ht, h0, hx, hN, not_true_eq_false, or_self, if_false])
theorem iv_alen {p : Nat} (hb : ix_by k = cc) (hd : decode cc pc = .ok (.arraylength, 1)) (hT : 100 ≤ ha_T h p) (hT' : ha_T h p < ix_tz) : Ev xs L k (pc, lv, .ref p :: r, h) o ↔ Ev xs L k (pc + 1, lv, .int (Int32.ofNat (ha_L h p)) :: r, h) o :=
  iv_hp xs L hb hd rfl rfl rfl rfl (by simp only [ix_hp, hT, hT', and_self, if_true])
theorem iv_slen (hb : ix_by k = cc) (hd : decode cc pc = .ok (.arraylength, 1)) : Ev xs L k (pc, lv, .retAddr 0 :: r, h) o ↔ Ev xs L k (pc + 1, lv, .int (Int32.ofNat L) :: r, h) o :=
  iv_hp xs L hb hd rfl rfl rfl rfl rfl
theorem iv_iald {p : Nat} {x : Int32} (hb : ix_by k = cc) (hd : decode cc pc = .ok (.iaload, 1)) (hT : ha_T h p = 100) (hx : vp_in x (ha_L h p)) : Ev xs L k (pc, lv, .int x :: .ref p :: r, h) o ↔ Ev xs L k (pc + 1, lv, .int (ha_I h p x.toNatClampNeg) :: r, h) o :=
  iv_hp xs L hb hd rfl rfl rfl rfl (by unfold vp_in at hx; simp only [ix_hp, hT, hx, not_false_eq_true, and_self, if_true])
theorem iv_sld {x : Int32} (hb : ix_by k = cc) (hd : decode cc pc = .ok (.iaload, 1)) (hx : vp_in x L) : Ev xs L k (pc, lv, .int x :: .retAddr 0 :: r, h) o ↔ Ev xs L k (pc + 1, lv, .int (xs x.toNatClampNeg) :: r, h) o :=
  iv_hp xs L hb hd rfl rfl rfl rfl (by unfold vp_in at hx; simp only [ix_hp, hx, if_false])
theorem iv_bald {p : Nat} {x : Int32} (hb : ix_by k = cc) (hd : decode cc pc = .ok (.baload, 1)) (hT : ha_T h p = 101) (hx : vp_in x (ha_L h p)) : Ev xs L k (pc, lv, .int x :: .ref p :: r, h) o ↔ Ev xs L k (pc + 1, lv, .int (ha_I h p x.toNatClampNeg) :: r, h) o :=
  iv_hp xs L hb hd rfl rfl rfl rfl (by unfold vp_in at hx; simp only [ix_hp, hT, hx, not_false_eq_true, and_self, if_true])
theorem iv_lald {p : Nat} {x : Int32} (hb : ix_by k = cc) (hd : decode cc pc = .ok (.laload, 1)) (hT : ha_T h p = 102) (hx : vp_in x (ha_L h p)) : Ev xs L k (pc, lv, .int x :: .ref p :: r, h) o ↔ Ev xs L k (pc + 1, lv, .long (ha_J h p x.toNatClampNeg) :: r, h) o :=
  iv_hp xs L hb hd rfl rfl rfl rfl (by unfold vp_in at hx; simp only [ix_hp, hT, hx, not_false_eq_true, and_self, if_true])
theorem iv_aald {p : Nat} {x : Int32} (hb : ix_by k = cc) (hd : decode cc pc = .ok (.aaload, 1)) (hT : 103 ≤ ha_T h p) (hT' : ha_T h p < ix_tz) (hx : vp_in x (ha_L h p)) : Ev xs L k (pc, lv, .int x :: .ref p :: r, h) o ↔ Ev xs L k (pc + 1, lv, va_rf (ha_R h p x.toNatClampNeg) :: r, h) o :=
  iv_hp xs L hb hd rfl rfl rfl rfl (by unfold vp_in at hx; simp only [ix_hp, hT, hT', hx, not_false_eq_true, and_self, if_true])
theorem iv_iast {p : Nat} {x y : Int32} (hb : ix_by k = cc) (hd : decode cc pc = .ok (.iastore, 1)) (hT : ha_T h p = 100) (hx : vp_in x (ha_L h p)) : Ev xs L k (pc, lv, .int y :: .int x :: .ref p :: r, h) o ↔ Ev xs L k (pc + 1, lv, r, hs_I h p x.toNatClampNeg y) o :=
  iv_hp xs L hb hd rfl rfl rfl rfl (by unfold vp_in at hx; simp only [ix_hp, hT, hx, not_false_eq_true, and_self, if_true])
theorem iv_bast {p : Nat} {x y : Int32} (hb : ix_by k = cc) (hd : decode cc pc = .ok (.bastore, 1)) (hT : ha_T h p = 101) (hy : y = 0 ∨ y = 1) (hx : vp_in x (ha_L h p)) : Ev xs L k (pc, lv, .int y :: .int x :: .ref p :: r, h) o ↔ Ev xs L k (pc + 1, lv, r, hs_I h p x.toNatClampNeg y) o :=
  iv_hp xs L hb hd rfl rfl rfl rfl (by unfold vp_in at hx; simp only [ix_hp]; rw [if_pos ⟨hT, hy, hx⟩])
theorem iv_last {p : Nat} {x : Int32} {y : Int64} (hb : ix_by k = cc) (hd : decode cc pc = .ok (.lastore, 1)) (hT : ha_T h p = 102) (hx : vp_in x (ha_L h p)) : Ev xs L k (pc, lv, .long y :: .int x :: .ref p :: r, h) o ↔ Ev xs L k (pc + 1, lv, r, hs_J h p x.toNatClampNeg y) o :=
  iv_hp xs L hb hd rfl rfl rfl rfl (by unfold vp_in at hx; simp only [ix_hp, hT, hx, not_false_eq_true, and_self, if_true])
theorem iv_aast {p q : Nat} {x : Int32} (hb : ix_by k = cc) (hd : decode cc pc = .ok (.aastore, 1)) (hT : 103 ≤ ha_T h p) (hT' : ha_T h p < ix_tz) (hq : ha_T h q = ix_co (ha_T h p)) (hx : vp_in x (ha_L h p)) : Ev xs L k (pc, lv, .ref q :: .int x :: .ref p :: r, h) o ↔ Ev xs L k (pc + 1, lv, r, hs_R h p x.toNatClampNeg (some q)) o :=
  iv_hp xs L hb hd rfl rfl rfl rfl (by unfold vp_in at hx; simp only [ix_hp]; rw [if_pos ⟨hT, hT', hq, hx⟩])
theorem iv_obj {x p : Nat} (hb : ix_by k = cc) (hd : decode cc pc = .ok (.invokespecial x, 3)) (hc : (ix_cp k x).1 = 9) (hra : 1 ≤ ix_ra k) (hr : ix_cs r + 12 ≤ ix_lo k) : Ev xs L k (pc, lv, .ref p :: r, h) o ↔ Ev xs L k (pc + 3, lv, r, h) o :=
  iv_il xs L hb hd rfl rfl rfl rfl rfl (by simp only [ix_inv, hc, hra, hr, and_self, if_true])
theorem iv_max {x : Nat} {y z : Int32} (hb : ix_by k = cc) (hd : decode cc pc = .ok (.invokestatic x, 3)) (hc : (ix_cp k x).1 = 10) (hra : 1 ≤ ix_ra k) (hr : ix_cs r + 13 ≤ ix_lo k) : Ev xs L k (pc, lv, .int y :: .int z :: r, h) o ↔ Ev xs L k (pc + 3, lv, .int (if z < y then y else z) :: r, h) o :=
  iv_il xs L hb hd rfl rfl rfl rfl rfl (by simp only [ix_inv, hc, hra, hr, and_self, if_true])
theorem iv_min {x : Nat} {y z : Int32} (hb : ix_by k = cc) (hd : decode cc pc = .ok (.invokestatic x, 3)) (hc : (ix_cp k x).1 = 11) (hra : 1 ≤ ix_ra k) (hr : ix_cs r + 13 ≤ ix_lo k) : Ev xs L k (pc, lv, .int y :: .int z :: r, h) o ↔ Ev xs L k (pc + 3, lv, .int (if y < z then y else z) :: r, h) o :=
  iv_il xs L hb hd rfl rfl rfl rfl rfl (by simp only [ix_inv, hc, hra, hr, and_self, if_true]; rfl)
theorem iv_cv {x a m p : Nat} {as : List Value} (hb : ix_by k = cc) (hd : decode cc pc = .ok (.invokevirtual x, 3)) (hc : ix_cp k x = (6, a, m)) (hra : ix_ra a < ix_ra k) (hlo : 19 + ix_ml a + ix_lo a ≤ ix_lo k) (hs : ix_sp m st = some (.ref p :: as, r)) (hT : ha_T h p = ix_mt a) (hr : ix_cs r ≤ 8) : Ev xs L k (pc, lv, st, h) o ↔ Cl xs L a (.ref p :: as) h (fun v h' => Ev xs L k (pc + 3, lv, v.toList ++ r, h') o) :=
  iv_ir xs L (q := (a, .ref p :: as, (pc + 3, lv, r, h))) hb hd rfl rfl rfl rfl rfl (by simp only [ix_inv, hc, hs, ix_cq, hra, hlo, hr, hT, and_self, if_true])
theorem iv_ci {x a m p z : Nat} {as : List Value} (hb : ix_by k = cc) (hd : decode cc pc = .ok (.invokespecial x, 3)) (hc : ix_cp k x = (z, a, m)) (hz : z = 7 ∨ z = 12) (hra : ix_ra a < ix_ra k) (hlo : 19 + ix_ml a + ix_lo a ≤ ix_lo k) (hs : ix_sp m st = some (.ref p :: as, r)) (hT : ha_T h p = ix_mt a) (hr : ix_cs r ≤ 8) : Ev xs L k (pc, lv, st, h) o ↔ Cl xs L a (.ref p :: as) h (fun v h' => Ev xs L k (pc + 3, lv, v.toList ++ r, h') o) :=
  iv_ir xs L (q := (a, .ref p :: as, (pc + 3, lv, r, h))) hb hd rfl rfl rfl rfl rfl (by
    have h9 : ¬ z = 9 := by omega
    simp only [ix_inv, hc, hs, ix_cq, hra, hlo, hr, hT, hz, h9, and_self, if_true, if_false])
theorem iv_ct {x a m : Nat} {as : List Value} (hb : ix_by k = cc) (hd : decode cc pc = .ok (.invokestatic x, 3)) (hc : ix_cp k x = (8, a, m)) (hra : ix_ra a < ix_ra k) (hlo : 19 + ix_ml a + ix_lo a ≤ ix_lo k) (hs : ix_sp m st = some (as, r)) (hr : ix_cs r ≤ 8) : Ev xs L k (pc, lv, st, h) o ↔ Cl xs L a as h (fun v h' => Ev xs L k (pc + 3, lv, v.toList ++ r, h') o) :=
  iv_ir xs L (q := (a, as, (pc + 3, lv, r, h))) hb hd rfl rfl rfl rfl rfl (by simp [ix_inv, hc, hs, ix_cq, hra, hlo, hr])
theorem iv_ret (hb : ix_by k = cc) (hd : decode cc pc = .ok (.return_, 1)) (hk : ix_rk k = 0) : Ev xs L k (pc, lv, [], h) o ↔ o = (none, h) :=
  iv_rt xs L hb hd rfl rfl rfl rfl rfl rfl (by rw [hk]; rfl)
theorem iv_iret {x : Int32} (hb : ix_by k = cc) (hd : decode cc pc = .ok (.ireturn, 1)) (hk : ix_rk k = 1) : Ev xs L k (pc, lv, [.int x], h) o ↔ o = (some (.int x), h) :=
  iv_rt xs L hb hd rfl rfl rfl rfl rfl rfl (by rw [hk]; rfl)
theorem iv_zret {x : Int32} (hb : ix_by k = cc) (hd : decode cc pc = .ok (.ireturn, 1)) (hk : ix_rk k = 2) (hx : x = 0 ∨ x = 1) : Ev xs L k (pc, lv, [.int x], h) o ↔ o = (some (.int x), h) :=
  iv_rt xs L hb hd rfl rfl rfl rfl rfl rfl (by rw [hk]; exact if_pos (Or.inr ⟨rfl, hx⟩))
theorem iv_lret {x : Int64} (hb : ix_by k = cc) (hd : decode cc pc = .ok (.lreturn, 1)) (hk : ix_rk k = 3) : Ev xs L k (pc, lv, [.long x], h) o ↔ o = (some (.long x), h) :=
  iv_rt xs L hb hd rfl rfl rfl rfl rfl rfl (by rw [hk]; rfl)
theorem iv_aret {x : Nat} (hb : ix_by k = cc) (hd : decode cc pc = .ok (.areturn, 1)) (hk : ix_rk k = 4) : Ev xs L k (pc, lv, [.ref x], h) o ↔ o = (some (.ref x), h) :=
  iv_rt xs L hb hd rfl rfl rfl rfl rfl rfl (by rw [hk]; rfl)
theorem iv_aretN (hb : ix_by k = cc) (hd : decode cc pc = .ok (.areturn, 1)) (hk : ix_rk k = 4) : Ev xs L k (pc, lv, [.null], h) o ↔ o = (some .null, h) :=
  iv_rt xs L hb hd rfl rfl rfl rfl rfl rfl (by rw [hk]; rfl)
end EV
end
section
def ix_cv (b scr : Nat) : Value → Value
  | .ref p => .ref (b + p)
  | .retAddr _ => .ref scr
  | v => v
theorem cv_cat (b scr : Nat) (v : Value) : (ix_cv b scr v).category = v.category := by cases v <;> rfl
theorem cv_cs (b scr : Nat) (vs : List Value) : ((vs.map (ix_cv b scr)).map (fun v => v.category)).sum = ix_cs vs := by
  unfold ix_cs
  induction vs with
  | nil => rfl
  | cons v vs ih => simp only [List.map_cons, List.sum_cons, cv_cat, ih]
theorem cv_rf (b scr : Nat) (q : Option Nat) : ix_cv b scr (va_rf q) = va_rf (q.map (fun x => b + x)) := by cases q <;> rfl
theorem ii_inv {f : Int32 → Int32 → Value} {st st' : List Value} (h : ix_ii f st = some st') : ∃ x y r, st = .int y :: .int x :: r ∧ st' = f x y :: r := by
  unfold ix_ii at h
  split at h
  · exact ⟨_, _, _, rfl, (Option.some.inj h).symm⟩
  · cases h
theorem ll_inv {f : Int64 → Int64 → Value} {st st' : List Value} (h : ix_ll f st = some st') : ∃ x y r, st = .long y :: .long x :: r ∧ st' = f x y :: r := by
  unfold ix_ll at h
  split at h
  · exact ⟨_, _, _, rfl, (Option.some.inj h).symm⟩
  · cases h
theorem li_inv {f : Int64 → Int32 → Value} {st st' : List Value} (h : ix_li f st = some st') : ∃ x y r, st = .int y :: .long x :: r ∧ st' = f x y :: r := by
  unfold ix_li at h
  split at h
  · exact ⟨_, _, _, rfl, (Option.some.inj h).symm⟩
  · cases h
theorem i1_inv {f : Int32 → Value} {st st' : List Value} (h : ix_i1 f st = some st') : ∃ x r, st = .int x :: r ∧ st' = f x :: r := by
  unfold ix_i1 at h
  split at h
  · exact ⟨_, _, rfl, (Option.some.inj h).symm⟩
  · cases h
theorem l1_inv {f : Int64 → Value} {st st' : List Value} (h : ix_l1 f st = some st') : ∃ x r, st = .long x :: r ∧ st' = f x :: r := by
  unfold ix_l1 at h
  split at h
  · exact ⟨_, _, rfl, (Option.some.inj h).symm⟩
  · cases h
theorem iz_inv {f : Int32 → Int32 → Value} {st st' : List Value} (h : ix_iz f st = some st') : ∃ x y r, st = .int y :: .int x :: r ∧ ¬ y = 0 ∧ st' = f x y :: r := by
  unfold ix_iz at h
  split at h
  · split at h
    · cases h
    · next hz => exact ⟨_, _, _, rfl, hz, (Option.some.inj h).symm⟩
  · cases h
theorem lz_inv {f : Int64 → Int64 → Value} {st st' : List Value} (h : ix_lz f st = some st') : ∃ x y r, st = .long y :: .long x :: r ∧ ¬ y = 0 ∧ st' = f x y :: r := by
  unfold ix_lz at h
  split at h
  · split at h
    · cases h
    · next hz => exact ⟨_, _, _, rfl, hz, (Option.some.inj h).symm⟩
  · cases h
theorem v1_inv {f : Value → List Value} {st st' : List Value} (h : ix_v1 f st = some st') : ∃ v r, st = v :: r ∧ v.category = 1 ∧ st' = f v ++ r := by
  unfold ix_v1 at h
  split at h
  · split at h
    · next hz => exact ⟨_, _, rfl, hz, (Option.some.inj h).symm⟩
    · cases h
  · cases h
theorem v2_inv {f : Value → Value → List Value} {st st' : List Value} (h : ix_v2 f st = some st') : ∃ v w r, st = v :: w :: r ∧ v.category = 1 ∧ w.category = 1 ∧ st' = f v w ++ r := by
  unfold ix_v2 at h
  split at h
  · split at h
    · next hz => exact ⟨_, _, _, rfl, hz.1, hz.2, (Option.some.inj h).symm⟩
    · cases h
  · cases h
theorem v3_inv {f : Value → Value → Value → List Value} {st st' : List Value} (h : ix_v3 f st = some st') : ∃ v w z r, st = v :: w :: z :: r ∧ v.category = 1 ∧ w.category = 1 ∧ z.category = 1 ∧ st' = f v w z ++ r := by
  unfold ix_v3 at h
  split at h
  · split at h
    · next hz => exact ⟨_, _, _, _, rfl, hz.1, hz.2.1, hz.2.2, (Option.some.inj h).symm⟩
    · cases h
  · cases h
theorem cb_inv {P : Prop} {d : Decidable P} {pc t : Nat} {off : Int} {r st' : List Value} (h : ix_cb P d pc off r = some (t, st')) : st' = r ∧ (pc : Int) + off = (ix_tg pc off : Nat) ∧ t = @ite Nat P d (ix_tg pc off) (pc + 3) := by
  unfold ix_cb at h
  split at h
  · next hz =>
    simp only [Option.some.injEq, Prod.mk.injEq] at h
    exact ⟨h.2.symm, (Int.toNat_of_nonneg hz).symm, h.1.symm⟩
  · cases h
section GR
variable {p : Program} {l : Launch} {e : Env} {R : Room} {s : State} {m : MethodId} {args : Array Value} {below : List Frame} {meth : Method} {c : Code} {H : Heap} {locs : List Loc} {cells slots : Nat} {Q : State → Prop} {cc : ByteArray} {pc t n b scr : Nat} {ls : Array Slot} {st st' : List Value} {i : Instr} {cp : Nat → Nat × Nat × Nat} {own : String}
set_option maxHeartbeats 1000000 in
theorem ix_aluW (hx : p.tables.exec = Jvm.exec) (hb : c.code = cc) (hd : decode cc pc = .ok (i, n)) (hn : ix_len i n = true) (hown : s.vm.findClass own = some m.cls) (hci : ∀ x, (cp x).1 = 1 → (Jvm.Cond.constant own x (Int32.ofNat (cp x).2.1)).before args s = true) (hcj : ∀ x, (cp x).1 = 2 → (Jvm.Cond.constantLong own x (Int64.ofNat (cp x).2.1)).before args s = true) (ha : ix_alu cp i st = some st') (kk : W p l e R s m args below meth c H locs cells slots Q (F0 m (pc + n) ls (st'.map (ix_cv b scr)))) : W p l e R s m args below meth c H locs cells slots Q (F0 m pc ls (st.map (ix_cv b scr))) := by
  cases i with
  | iconst z => (obtain rfl : n = 1 := eq_of_beq hn; obtain rfl := Option.some.inj ha; exact lv_iconst hx hb hd rfl kk)
  | bipush z => (obtain rfl : n = 2 := eq_of_beq hn; obtain rfl := Option.some.inj ha; exact lv_bipush hx hb hd rfl kk)
  | sipush z => (obtain rfl : n = 3 := eq_of_beq hn; obtain rfl := Option.some.inj ha; exact lv_sipush hx hb hd rfl kk)
  | lconst z => (obtain rfl : n = 1 := eq_of_beq hn; obtain rfl := Option.some.inj ha; exact lv_lconst hx hb hd rfl kk)
  | aconst_null => (obtain rfl : n = 1 := eq_of_beq hn; obtain rfl := Option.some.inj ha; exact lv_null hx hb hd kk)
  | ldc z =>
    obtain rfl : n = 2 := eq_of_beq hn
    simp only [ix_alu] at ha
    split at ha
    · next hz =>
      obtain rfl := Option.some.inj ha
      exact lv_ldc hx hb hown (hci z hz) hd kk
    · cases ha
  | ldc_w z =>
    obtain rfl : n = 3 := eq_of_beq hn
    simp only [ix_alu] at ha
    split at ha
    · next hz =>
      obtain rfl := Option.some.inj ha
      exact lv_ldcw hx hb hown (hci z hz) hd kk
    · cases ha
  | ldc2_w z =>
    obtain rfl : n = 3 := eq_of_beq hn
    simp only [ix_alu] at ha
    split at ha
    · next hz =>
      obtain rfl := Option.some.inj ha
      exact lv_ldc2 hx hb hown (hcj z hz) hd kk
    · cases ha
  | iadd => (obtain rfl : n = 1 := eq_of_beq hn; obtain ⟨x, y, r, rfl, rfl⟩ := ii_inv ha; exact lv_iadd hx hb hd kk)
  | isub => (obtain rfl : n = 1 := eq_of_beq hn; obtain ⟨x, y, r, rfl, rfl⟩ := ii_inv ha; exact lv_isub hx hb hd kk)
  | imul => (obtain rfl : n = 1 := eq_of_beq hn; obtain ⟨x, y, r, rfl, rfl⟩ := ii_inv ha; exact lv_imul hx hb hd kk)
  | iand => (obtain rfl : n = 1 := eq_of_beq hn; obtain ⟨x, y, r, rfl, rfl⟩ := ii_inv ha; exact lv_iand hx hb hd kk)
  | ior => (obtain rfl : n = 1 := eq_of_beq hn; obtain ⟨x, y, r, rfl, rfl⟩ := ii_inv ha; exact lv_ior hx hb hd kk)
  | ixor => (obtain rfl : n = 1 := eq_of_beq hn; obtain ⟨x, y, r, rfl, rfl⟩ := ii_inv ha; exact lv_ixor hx hb hd kk)
  | ishl => (obtain rfl : n = 1 := eq_of_beq hn; obtain ⟨x, y, r, rfl, rfl⟩ := ii_inv ha; exact lv_ishl hx hb hd kk)
  | ishr => (obtain rfl : n = 1 := eq_of_beq hn; obtain ⟨x, y, r, rfl, rfl⟩ := ii_inv ha; exact lv_ishr hx hb hd kk)
  | iushr => (obtain rfl : n = 1 := eq_of_beq hn; obtain ⟨x, y, r, rfl, rfl⟩ := ii_inv ha; exact lv_iushr hx hb hd rfl kk)
  | idiv => (obtain rfl : n = 1 := eq_of_beq hn; obtain ⟨x, y, r, rfl, hz, rfl⟩ := iz_inv ha; exact lv_idiv hx hb hd hz kk)
  | irem => (obtain rfl : n = 1 := eq_of_beq hn; obtain ⟨x, y, r, rfl, hz, rfl⟩ := iz_inv ha; exact lv_irem hx hb hd hz kk)
  | ldiv => (obtain rfl : n = 1 := eq_of_beq hn; obtain ⟨x, y, r, rfl, hz, rfl⟩ := lz_inv ha; exact lv_ldiv hx hb hd hz kk)
  | lrem => (obtain rfl : n = 1 := eq_of_beq hn; obtain ⟨x, y, r, rfl, hz, rfl⟩ := lz_inv ha; exact lv_lrem hx hb hd hz kk)
  | ineg => (obtain rfl : n = 1 := eq_of_beq hn; obtain ⟨x, r, rfl, rfl⟩ := i1_inv ha; exact lv_ineg hx hb hd kk)
  | ladd => (obtain rfl : n = 1 := eq_of_beq hn; obtain ⟨x, y, r, rfl, rfl⟩ := ll_inv ha; exact lv_ladd hx hb hd kk)
  | lsub => (obtain rfl : n = 1 := eq_of_beq hn; obtain ⟨x, y, r, rfl, rfl⟩ := ll_inv ha; exact lv_lsub hx hb hd kk)
  | lmul => (obtain rfl : n = 1 := eq_of_beq hn; obtain ⟨x, y, r, rfl, rfl⟩ := ll_inv ha; exact lv_lmul hx hb hd kk)
  | land => (obtain rfl : n = 1 := eq_of_beq hn; obtain ⟨x, y, r, rfl, rfl⟩ := ll_inv ha; exact lv_land hx hb hd kk)
  | lor => (obtain rfl : n = 1 := eq_of_beq hn; obtain ⟨x, y, r, rfl, rfl⟩ := ll_inv ha; exact lv_lor hx hb hd kk)
  | lxor => (obtain rfl : n = 1 := eq_of_beq hn; obtain ⟨x, y, r, rfl, rfl⟩ := ll_inv ha; exact lv_lxor hx hb hd kk)
  | lcmp => (obtain rfl : n = 1 := eq_of_beq hn; obtain ⟨x, y, r, rfl, rfl⟩ := ll_inv ha; exact W.lcmp hx hb hd kk)
  | lshl => (obtain rfl : n = 1 := eq_of_beq hn; obtain ⟨x, y, r, rfl, rfl⟩ := li_inv ha; exact lv_lshl hx hb hd rfl kk)
  | lshr => (obtain rfl : n = 1 := eq_of_beq hn; obtain ⟨x, y, r, rfl, rfl⟩ := li_inv ha; exact lv_lshr hx hb hd rfl kk)
  | lushr => (obtain rfl : n = 1 := eq_of_beq hn; obtain ⟨x, y, r, rfl, rfl⟩ := li_inv ha; exact lv_lushr hx hb hd rfl kk)
  | i2l => (obtain rfl : n = 1 := eq_of_beq hn; obtain ⟨x, r, rfl, rfl⟩ := i1_inv ha; exact lv_i2l hx hb hd rfl kk)
  | l2i => (obtain rfl : n = 1 := eq_of_beq hn; obtain ⟨x, r, rfl, rfl⟩ := l1_inv ha; exact lv_l2i hx hb hd rfl kk)
  | dup => (obtain rfl : n = 1 := eq_of_beq hn; obtain ⟨v, r, rfl, hv, rfl⟩ := v1_inv ha; exact lv_dup hx hb hd (by rw [cv_cat]; exact hv) kk)
  | pop => (obtain rfl : n = 1 := eq_of_beq hn; obtain ⟨v, r, rfl, hv, rfl⟩ := v1_inv ha; exact lv_pop hx hb hd (by rw [cv_cat]; exact hv) kk)
  | dup_x1 => (obtain rfl : n = 1 := eq_of_beq hn; obtain ⟨v, w, r, rfl, hv, hw, rfl⟩ := v2_inv ha; exact lv_dup_x1 hx hb hd (by rw [cv_cat]; exact hv) (by rw [cv_cat]; exact hw) kk)
  | dup_x2 => (obtain rfl : n = 1 := eq_of_beq hn; obtain ⟨v, w, z, r, rfl, hv, hw, hz, rfl⟩ := v3_inv ha; exact lv_dup_x2 hx hb hd (by rw [cv_cat]; exact hv) (by rw [cv_cat]; exact hw) (by rw [cv_cat]; exact hz) kk)
  | dup2 => (obtain rfl : n = 1 := eq_of_beq hn; obtain ⟨v, w, r, rfl, hv, hw, rfl⟩ := v2_inv ha; exact lv_dup2_11 hx hb hd (by rw [cv_cat]; exact hv) (by rw [cv_cat]; exact hw) kk)
  | _ => exact nomatch (show (none : Option (List Value)) = some st' from ha)
set_option maxHeartbeats 1000000 in
theorem ix_brW (hx : p.tables.exec = Jvm.exec) (hb : c.code = cc) (hd : decode cc pc = .ok (i, n)) (hn : ix_len i n = true) (ha : ix_br i pc st = some (t, st')) (kk : W p l e R s m args below meth c H locs cells slots Q (F0 m t ls (st'.map (ix_cv b scr)))) : W p l e R s m args below meth c H locs cells slots Q (F0 m pc ls (st.map (ix_cv b scr))) := by
  cases i with
  | goto off => (obtain rfl : n = 3 := eq_of_beq hn; obtain ⟨rfl, ht, h2⟩ := cb_inv ha; rw [if_pos trivial] at h2; subst h2; exact lv_goto hx hb hd ht kk)
  | ifCond cd off =>
    obtain rfl : n = 3 := eq_of_beq hn
    simp only [ix_br] at ha
    split at ha
    · obtain ⟨rfl, ht, h2⟩ := cb_inv ha
      subst h2
      cases cd with
      | eq => exact lv_if_eq hx hb hd ht (fun hc => by rw [if_pos (c := ix_c1 Jvm.ClassFile.Cond.eq _) hc] at kk; exact kk) (fun hc => by rw [if_neg (c := ix_c1 Jvm.ClassFile.Cond.eq _) hc] at kk; exact kk)
      | ne => exact lv_if_ne hx hb hd ht (fun hc => by rw [if_pos (c := ix_c1 Jvm.ClassFile.Cond.ne _) hc] at kk; exact kk) (fun hc => by rw [if_neg (c := ix_c1 Jvm.ClassFile.Cond.ne _) (fun q => q hc)] at kk; exact kk)
      | lt => exact lv_if_lt hx hb hd ht (fun hc => by rw [if_pos (c := ix_c1 Jvm.ClassFile.Cond.lt _) hc] at kk; exact kk) (fun hc => by rw [if_neg (c := ix_c1 Jvm.ClassFile.Cond.lt _) hc] at kk; exact kk)
      | ge => exact lv_if_ge hx hb hd ht (fun hc => by rw [if_pos (c := ix_c1 Jvm.ClassFile.Cond.ge _) hc] at kk; exact kk) (fun hc => by rw [if_neg (c := ix_c1 Jvm.ClassFile.Cond.ge _) hc] at kk; exact kk)
      | gt => exact lv_if_gt hx hb hd ht (fun hc => by rw [if_pos (c := ix_c1 Jvm.ClassFile.Cond.gt _) hc] at kk; exact kk) (fun hc => by rw [if_neg (c := ix_c1 Jvm.ClassFile.Cond.gt _) hc] at kk; exact kk)
      | le => exact lv_if_le hx hb hd ht (fun hc => by rw [if_pos (c := ix_c1 Jvm.ClassFile.Cond.le _) hc] at kk; exact kk) (fun hc => by rw [if_neg (c := ix_c1 Jvm.ClassFile.Cond.le _) hc] at kk; exact kk)
    · cases ha
  | if_icmp cd off =>
    obtain rfl : n = 3 := eq_of_beq hn
    simp only [ix_br] at ha
    split at ha
    · obtain ⟨rfl, ht, h2⟩ := cb_inv ha
      subst h2
      cases cd with
      | eq => exact lv_icmp_eq hx hb hd ht (fun hc => by rw [if_pos (c := ix_c2 Jvm.ClassFile.Cond.eq _ _) hc] at kk; exact kk) (fun hc => by rw [if_neg (c := ix_c2 Jvm.ClassFile.Cond.eq _ _) hc] at kk; exact kk)
      | ne => exact lv_icmp_ne hx hb hd ht (fun hc => by rw [if_pos (c := ix_c2 Jvm.ClassFile.Cond.ne _ _) hc] at kk; exact kk) (fun hc => by rw [if_neg (c := ix_c2 Jvm.ClassFile.Cond.ne _ _) (fun q => q hc)] at kk; exact kk)
      | lt => exact lv_icmp_lt hx hb hd ht (fun hc => by rw [if_pos (c := ix_c2 Jvm.ClassFile.Cond.lt _ _) hc] at kk; exact kk) (fun hc => by rw [if_neg (c := ix_c2 Jvm.ClassFile.Cond.lt _ _) hc] at kk; exact kk)
      | ge => exact lv_icmp_ge hx hb hd ht (fun hc => by rw [if_pos (c := ix_c2 Jvm.ClassFile.Cond.ge _ _) hc] at kk; exact kk) (fun hc => by rw [if_neg (c := ix_c2 Jvm.ClassFile.Cond.ge _ _) hc] at kk; exact kk)
      | gt => exact lv_icmp_gt hx hb hd ht (fun hc => by rw [if_pos (c := ix_c2 Jvm.ClassFile.Cond.gt _ _) hc] at kk; exact kk) (fun hc => by rw [if_neg (c := ix_c2 Jvm.ClassFile.Cond.gt _ _) hc] at kk; exact kk)
      | le => exact lv_icmp_le hx hb hd ht (fun hc => by rw [if_pos (c := ix_c2 Jvm.ClassFile.Cond.le _ _) hc] at kk; exact kk) (fun hc => by rw [if_neg (c := ix_c2 Jvm.ClassFile.Cond.le _ _) hc] at kk; exact kk)
    · cases ha
  | ifnull off =>
    obtain rfl : n = 3 := eq_of_beq hn
    simp only [ix_br] at ha
    split at ha
    · obtain ⟨rfl, ht, h2⟩ := cb_inv ha
      rw [if_pos trivial] at h2
      subst h2
      exact lv_ifnullN hx hb hd ht kk
    · simp only [Option.some.injEq, Prod.mk.injEq] at ha
      obtain ⟨rfl, rfl⟩ := ha
      exact lv_ifnull hx hb hd kk
    · cases ha
  | ifnonnull off =>
    obtain rfl : n = 3 := eq_of_beq hn
    simp only [ix_br] at ha
    split at ha
    · simp only [Option.some.injEq, Prod.mk.injEq] at ha
      obtain ⟨rfl, rfl⟩ := ha
      exact lv_ifnonnullN hx hb hd kk
    · obtain ⟨rfl, ht, h2⟩ := cb_inv ha
      rw [if_pos trivial] at h2
      subst h2
      exact lv_ifnonnull hx hb hd ht kk
    · cases ha
  | lookupswitch d ps =>
    simp only [ix_br] at ha
    split at ha
    · split at ha
      · next hz =>
        simp only [Option.some.injEq, Prod.mk.injEq] at ha
        obtain ⟨rfl, rfl⟩ := ha
        exact lv_lookup hx hb hd hz.2 rfl (Int.toNat_of_nonneg hz.1).symm kk
      · cases ha
    · cases ha
  | tableswitch d lo hi os =>
    simp only [ix_br] at ha
    split at ha
    · split at ha
      · next hc =>
        split at ha
        · next hz =>
          simp only [Option.some.injEq, Prod.mk.injEq] at ha
          obtain ⟨rfl, rfl⟩ := ha
          exact lv_tableOut hx hb hd hc (Int.toNat_of_nonneg hz).symm kk
        · cases ha
      · next hc =>
        split at ha
        · next o ho2 =>
          split at ha
          · next hz =>
            simp only [Option.some.injEq, Prod.mk.injEq] at ha
            obtain ⟨rfl, rfl⟩ := ha
            exact lv_tableIn hx hb hd (fun h => hc (Or.inl h)) (fun h => hc (Or.inr h)) ho2 (Int.toNat_of_nonneg hz).symm kk
          · cases ha
        · cases ha
    · cases ha
  | _ => exact nomatch (show (none : Option (Nat × List Value)) = some (t, st') from ha)
end GR
def ix_nu (v : Value) : Bool := match v with
  | .retAddr (_ + 1) => true
  | _ => false
def ix_pr (b scr : Nat) (lv : List Value) : List (Nat × Value) := (List.range lv.length).filterMap (fun i => (lv[i]?).bind (fun v => if ix_nu v = true then none else some (i, ix_cv b scr v)))
theorem pr_mem {b scr : Nat} {lv : List Value} {q : Nat × Value} : q ∈ ix_pr b scr lv ↔ ∃ v, lv[q.1]? = some v ∧ ix_nu v = false ∧ q.2 = ix_cv b scr v := by
  unfold ix_pr
  rw [List.mem_filterMap]
  constructor
  · rintro ⟨i, hi, h⟩
    cases hv : lv[i]? with
    | none => rw [hv] at h; cases h
    | some v =>
      rw [hv, Option.bind_some] at h
      split at h
      · cases h
      · next hz =>
        cases h
        exact ⟨v, hv, by simpa using hz, rfl⟩
  · rintro ⟨v, hv, hz, h⟩
    refine ⟨q.1, List.mem_range.mpr (List.getElem?_eq_some_iff.mp hv).1, ?_⟩
    rw [hv, Option.bind_some, if_neg (by rw [hz]; decide), ← h]
def ix_lh (ls : Array Slot) (nL b scr : Nat) (lg : List Nat) (lv : List Value) : Prop := lv_has ls nL (ix_pr b scr lv) ∧ lv.length = nL ∧ ∀ (j : Nat) (w : Value), lv[j]? = some w → w.category = 2 → j ∈ lg
theorem lh_at {ls : Array Slot} {nL b scr i : Nat} {lg : List Nat} {lv : List Value} {v : Value} (h : ix_lh ls nL b scr lg lv) (hv : lv[i]? = some v) (hn : ix_nu v = false) : ls[i]? = some (.val (ix_cv b scr v)) := h.1.2.2 (i, ix_cv b scr v) (pr_mem.mpr ⟨v, hv, hn, rfl⟩)
theorem lh_p1 {ls' : Array Slot} {nL b scr i : Nat} {lg : List Nat} {lv : List Value} {v : Value} (hl : lv.length = nL) (hg : ∀ (j : Nat) (w : Value), lv[j]? = some w → w.category = 2 → j ∈ lg) (hc : v.category = 1) (hi : i < lv.length) (h2 : ∀ g ∈ lg, ¬ g + 1 = i)
    (h' : lv_has ls' nL ((i, ix_cv b scr v) :: (ix_pr b scr lv).filter (fun q => !(q.1 == i) && !(q.1 + 1 == i && q.2.category == 2)))) : ix_lh ls' nL b scr lg (lv.set i v) := by
  refine ⟨⟨h'.1, h'.2.1, fun q hq => ?_⟩, by rw [List.length_set]; exact hl, fun j w hj hw => ?_⟩
  · obtain ⟨w, hw, hz, he⟩ := pr_mem.mp hq
    by_cases hqi : q.1 = i
    · rw [hqi, List.getElem?_set_self hi] at hw
      cases hw
      have := h'.2.2 (i, ix_cv b scr v) List.mem_cons_self
      rw [hqi, he]
      exact this
    · rw [List.getElem?_set_ne (Ne.symm hqi)] at hw
      refine h'.2.2 q (List.mem_cons_of_mem _ (List.mem_filter.mpr ⟨pr_mem.mpr ⟨w, hw, hz, he⟩, ?_⟩))
      have h3 : ¬ (q.1 + 1 = i ∧ q.2.category = 2) := by
        rintro ⟨z1, z2⟩
        rw [he, cv_cat] at z2
        exact h2 _ (hg _ _ hw z2) z1
      simp only [Bool.and_eq_true, Bool.not_eq_true', beq_eq_false_iff_ne, ne_eq, Bool.and_eq_false_iff, hqi, not_false_eq_true, true_and]
      by_cases z1 : q.1 + 1 = i
      · exact Or.inr (fun z2 => h3 ⟨z1, z2⟩)
      · exact Or.inl z1
  · by_cases hji : j = i
    · subst hji
      rw [List.getElem?_set_self hi] at hj
      cases hj
      omega
    · rw [List.getElem?_set_ne (Ne.symm hji)] at hj
      exact hg j w hj hw
theorem lh_p2 {ls' : Array Slot} {nL b scr i : Nat} {lg : List Nat} {lv : List Value} {v : Value} (hl : lv.length = nL) (hg : ∀ (j : Nat) (w : Value), lv[j]? = some w → w.category = 2 → j ∈ lg) (hi : i + 1 < lv.length) (h0 : i ∈ lg) (h2 : ∀ g ∈ lg, ¬ g + 1 = i)
    (h' : lv_has ls' nL ((i, ix_cv b scr v) :: (ix_pr b scr lv).filter (fun q => !(q.1 == i) && (!(q.1 == i + 1) && !(q.1 + 1 == i && q.2.category == 2))))) : ix_lh ls' nL b scr lg ((lv.set i v).set (i + 1) (.retAddr 1)) := by
  refine ⟨⟨h'.1, h'.2.1, fun q hq => ?_⟩, by rw [List.length_set, List.length_set]; exact hl, fun j w hj hw => ?_⟩
  · obtain ⟨w, hw, hz, he⟩ := pr_mem.mp hq
    by_cases hq1 : q.1 = i + 1
    · rw [hq1, List.getElem?_set_self (by rw [List.length_set]; exact hi)] at hw
      cases hw
      cases hz
    · rw [List.getElem?_set_ne (Ne.symm hq1)] at hw
      by_cases hqi : q.1 = i
      · rw [hqi, List.getElem?_set_self (by omega)] at hw
        cases hw
        have := h'.2.2 (i, ix_cv b scr v) List.mem_cons_self
        rw [hqi, he]
        exact this
      · rw [List.getElem?_set_ne (Ne.symm hqi)] at hw
        refine h'.2.2 q (List.mem_cons_of_mem _ (List.mem_filter.mpr ⟨pr_mem.mpr ⟨w, hw, hz, he⟩, ?_⟩))
        have h3 : ¬ (q.1 + 1 = i ∧ q.2.category = 2) := by
          rintro ⟨z1, z2⟩
          rw [he, cv_cat] at z2
          exact h2 _ (hg _ _ hw z2) z1
        simp only [Bool.and_eq_true, Bool.not_eq_true', beq_eq_false_iff_ne, ne_eq, Bool.and_eq_false_iff, hqi, hq1, not_false_eq_true, true_and]
        by_cases z1 : q.1 + 1 = i
        · exact Or.inr (fun z2 => h3 ⟨z1, z2⟩)
        · exact Or.inl z1
  · by_cases hj1 : j = i + 1
    · subst hj1
      rw [List.getElem?_set_self (by rw [List.length_set]; exact hi)] at hj
      cases hj
      cases hw
    · rw [List.getElem?_set_ne (Ne.symm hj1)] at hj
      by_cases hji : j = i
      · subst hji; exact h0
      · rw [List.getElem?_set_ne (Ne.symm hji)] at hj
        exact hg j w hj hw
theorem ga_inv {o : Option Value} {w : Value} (h : ix_ga o = some w) : o = some w ∧ ((∃ x, w = .ref x) ∨ w = .null ∨ w = .retAddr 0) := by
  unfold ix_ga at h
  split at h
  · cases h; exact ⟨rfl, Or.inl ⟨_, rfl⟩⟩
  · cases h; exact ⟨rfl, Or.inr (Or.inl rfl)⟩
  · cases h; exact ⟨rfl, Or.inr (Or.inr rfl)⟩
  · cases h
theorem gi_inv {o : Option Value} {w : Value} (h : ix_gi o = some w) : o = some w ∧ ∃ x, w = .int x := by
  unfold ix_gi at h
  split at h
  · cases h; exact ⟨rfl, ⟨_, rfl⟩⟩
  · cases h
theorem gl_inv {o : Option Value} {w : Value} (h : ix_gl o = some w) : o = some w ∧ ∃ x, w = .long x := by
  unfold ix_gl at h
  split at h
  · cases h; exact ⟨rfl, ⟨_, rfl⟩⟩
  · cases h
theorem ld_inv {lv st lv' st' : List Value} {o : Option Value} (h : ix_ld lv st o = some (lv', st')) : ∃ w, o = some w ∧ lv' = lv ∧ st' = w :: st := by
  unfold ix_ld at h
  split at h
  · simp only [Option.some.injEq, Prod.mk.injEq] at h
    exact ⟨_, rfl, h.1.symm, h.2.symm⟩
  · cases h
theorem p1_inv {lg : List Nat} {lv r lv' st' : List Value} {i : Nat} {v : Value} (h : ix_p1 lg lv i v r = some (lv', st')) : i < lv.length ∧ i ∉ lg ∧ (∀ g ∈ lg, ¬ g + 1 = i) ∧ lv' = lv.set i v ∧ st' = r := by
  unfold ix_p1 at h
  split at h
  · next hz =>
    simp only [Option.some.injEq, Prod.mk.injEq] at h
    exact ⟨hz.1, hz.2.1, hz.2.2, h.1.symm, h.2.symm⟩
  · cases h
theorem sa_inv {lg : List Nat} {lv st lv' st' : List Value} {i : Nat} {g : Option Value → Option Value} (h : ix_sa lg lv i g st = some (lv', st')) : ∃ v r w, st = v :: r ∧ g (some v) = some w ∧ ix_p1 lg lv i w r = some (lv', st') := by
  unfold ix_sa at h
  split at h
  · split at h
    · next hz => exact ⟨_, _, _, rfl, hz, h⟩
    · cases h
  · cases h
theorem sl_inv {lg : List Nat} {lv st lv' st' : List Value} {i : Nat} (h : ix_sl lg lv i st = some (lv', st')) : ∃ x r, st = .long x :: r ∧ i + 1 < lv.length ∧ i ∈ lg ∧ (∀ g ∈ lg, ¬ g + 1 = i) ∧ lv' = (lv.set i (.long x)).set (i + 1) (.retAddr 1) ∧ st' = r := by
  unfold ix_sl ix_p2 at h
  split at h
  · split at h
    · next hz =>
      simp only [Option.some.injEq, Prod.mk.injEq] at h
      exact ⟨_, _, rfl, hz.1, hz.2.1, hz.2.2.2, h.1.symm, h.2.symm⟩
    · cases h
  · cases h
section GL
variable {p : Program} {l : Launch} {e : Env} {R : Room} {s : State} {m : MethodId} {args : Array Value} {below : List Frame} {meth : Method} {c : Code} {H : Heap} {locs : List Loc} {cells slots : Nat} {Q : State → Prop} {cc : ByteArray} {pc n b scr nL : Nat} {ls : Array Slot} {lv lv' st st' : List Value} {i : Instr} {lg : List Nat}
set_option maxHeartbeats 1000000 in
theorem ix_lcW (hx : p.tables.exec = Jvm.exec) (hb : c.code = cc) (hd : decode cc pc = .ok (i, n)) (hn : ix_len i n = true) (hl : ix_lh ls nL b scr lg lv) (ha : ix_lc lg i lv st = some (lv', st')) (kk : ∀ ls' : Array Slot, ix_lh ls' nL b scr lg lv' → W p l e R s m args below meth c H locs cells slots Q (F0 m (pc + n) ls' (st'.map (ix_cv b scr)))) : W p l e R s m args below meth c H locs cells slots Q (F0 m pc ls (st.map (ix_cv b scr))) := by
  cases i with
  | iload_n z => (obtain rfl : n = 1 := eq_of_beq hn; obtain ⟨w, hw, rfl, rfl⟩ := ld_inv ha; obtain ⟨hw, x, rfl⟩ := gi_inv hw; exact lv_iload_n hx hb hd rfl (lh_at hl hw rfl) (kk ls hl))
  | iload z => (obtain rfl : n = 2 := eq_of_beq hn; obtain ⟨w, hw, rfl, rfl⟩ := ld_inv ha; obtain ⟨hw, x, rfl⟩ := gi_inv hw; exact lv_iload hx hb hd (lh_at hl hw rfl) (kk ls hl))
  | lload_n z => (obtain rfl : n = 1 := eq_of_beq hn; obtain ⟨w, hw, rfl, rfl⟩ := ld_inv ha; obtain ⟨hw, x, rfl⟩ := gl_inv hw; exact lv_lload_n hx hb hd rfl (lh_at hl hw rfl) (kk ls hl))
  | lload z => (obtain rfl : n = 2 := eq_of_beq hn; obtain ⟨w, hw, rfl, rfl⟩ := ld_inv ha; obtain ⟨hw, x, rfl⟩ := gl_inv hw; exact lv_lload hx hb hd (lh_at hl hw rfl) (kk ls hl))
  | aload_n z =>
    obtain rfl : n = 1 := eq_of_beq hn
    obtain ⟨w, hw, rfl, rfl⟩ := ld_inv ha
    obtain ⟨hw, ⟨x, rfl⟩ | rfl | rfl⟩ := ga_inv hw
    · exact lv_aload_n hx hb hd rfl (lh_at hl hw rfl) (kk ls hl)
    · exact lv_aload_nN hx hb hd rfl (lh_at hl hw rfl) (kk ls hl)
    · exact lv_aload_n hx hb hd rfl (lh_at hl hw rfl) (kk ls hl)
  | aload z =>
    obtain rfl : n = 2 := eq_of_beq hn
    obtain ⟨w, hw, rfl, rfl⟩ := ld_inv ha
    obtain ⟨hw, ⟨x, rfl⟩ | rfl | rfl⟩ := ga_inv hw
    · exact lv_aload hx hb hd (lh_at hl hw rfl) (kk ls hl)
    · exact lv_aloadN hx hb hd (lh_at hl hw rfl) (kk ls hl)
    · exact lv_aload hx hb hd (lh_at hl hw rfl) (kk ls hl)
  | istore_n z => (obtain rfl : n = 1 := eq_of_beq hn; obtain ⟨v, r, w, rfl, hw, hp⟩ := sa_inv ha; obtain ⟨hw, x, rfl⟩ := gi_inv hw; cases hw; obtain ⟨h1, h2, h3, rfl, rfl⟩ := p1_inv hp; exact lv_istore_n hx hb hd rfl hl.1 (by rw [← hl.2.1]; exact h1) rfl (fun ls' h' => kk ls' (lh_p1 hl.2.1 hl.2.2 rfl h1 h3 h')))
  | istore z => (obtain rfl : n = 2 := eq_of_beq hn; obtain ⟨v, r, w, rfl, hw, hp⟩ := sa_inv ha; obtain ⟨hw, x, rfl⟩ := gi_inv hw; cases hw; obtain ⟨h1, h2, h3, rfl, rfl⟩ := p1_inv hp; exact lv_istore hx hb hd hl.1 (by rw [← hl.2.1]; exact h1) rfl (fun ls' h' => kk ls' (lh_p1 hl.2.1 hl.2.2 rfl h1 h3 h')))
  | astore_n z =>
    obtain rfl : n = 1 := eq_of_beq hn
    obtain ⟨v, r, w, rfl, hw, hp⟩ := sa_inv ha
    obtain ⟨h1, h2, h3, rfl, rfl⟩ := p1_inv hp
    obtain ⟨hw, ⟨x, rfl⟩ | rfl | rfl⟩ := ga_inv hw
    · cases hw
      exact lv_astore_n hx hb hd rfl hl.1 (by rw [← hl.2.1]; exact h1) rfl (fun ls' h' => kk ls' (lh_p1 hl.2.1 hl.2.2 rfl h1 h3 h'))
    · cases hw
      exact lv_astore_nN hx hb hd rfl hl.1 (by rw [← hl.2.1]; exact h1) rfl (fun ls' h' => kk ls' (lh_p1 hl.2.1 hl.2.2 rfl h1 h3 h'))
    · cases hw
      exact lv_astore_n hx hb hd rfl hl.1 (by rw [← hl.2.1]; exact h1) rfl (fun ls' h' => kk ls' (lh_p1 hl.2.1 hl.2.2 rfl h1 h3 h'))
  | astore z =>
    obtain rfl : n = 2 := eq_of_beq hn
    obtain ⟨v, r, w, rfl, hw, hp⟩ := sa_inv ha
    obtain ⟨h1, h2, h3, rfl, rfl⟩ := p1_inv hp
    obtain ⟨hw, ⟨x, rfl⟩ | rfl | rfl⟩ := ga_inv hw
    · cases hw
      exact lv_astore hx hb hd hl.1 (by rw [← hl.2.1]; exact h1) rfl (fun ls' h' => kk ls' (lh_p1 hl.2.1 hl.2.2 rfl h1 h3 h'))
    · cases hw
      exact lv_astoreN hx hb hd hl.1 (by rw [← hl.2.1]; exact h1) rfl (fun ls' h' => kk ls' (lh_p1 hl.2.1 hl.2.2 rfl h1 h3 h'))
    · cases hw
      exact lv_astore hx hb hd hl.1 (by rw [← hl.2.1]; exact h1) rfl (fun ls' h' => kk ls' (lh_p1 hl.2.1 hl.2.2 rfl h1 h3 h'))
  | lstore_n z => (obtain rfl : n = 1 := eq_of_beq hn; obtain ⟨x, r, rfl, h1, h2, h3, rfl, rfl⟩ := sl_inv ha; exact lv_lstore_n hx hb hd rfl hl.1 (by rw [← hl.2.1]; exact h1) rfl (fun ls' h' => kk ls' (lh_p2 hl.2.1 hl.2.2 h1 h2 h3 h')))
  | lstore z => (obtain rfl : n = 2 := eq_of_beq hn; obtain ⟨x, r, rfl, h1, h2, h3, rfl, rfl⟩ := sl_inv ha; exact lv_lstore hx hb hd hl.1 (by rw [← hl.2.1]; exact h1) rfl (fun ls' h' => kk ls' (lh_p2 hl.2.1 hl.2.2 h1 h2 h3 h')))
  | iinc z w =>
    obtain rfl : n = 3 := eq_of_beq hn
    simp only [ix_lc] at ha
    split at ha
    · next x hv =>
      obtain ⟨h1, h2, h3, rfl, rfl⟩ := p1_inv ha
      obtain ⟨j, hj⟩ := List.getElem?_of_mem (pr_mem (b := b) (scr := scr).mpr ⟨.int x, hv, rfl, rfl⟩ : (z, Value.int x) ∈ ix_pr b scr lv)
      exact lv_iinc hx hb hd hl.1 hj rfl (by rw [← hl.2.1]; exact h1) rfl (fun ls' h' => kk ls' (lh_p1 hl.2.1 hl.2.2 rfl h1 h3 h'))
    · cases ha
  | _ => exact nomatch (show (none : Option (List Value × List Value)) = some (lv', st') from ha)
end GL
end
section
def ix_fv (b t : Nat) (h : ix_H) (p j : Nat) : Value := match ix_fk t j with
  | 1 => va_rf ((ha_R h p j).map (fun q => b + q))
  | 2 => .long (ha_J h p j)
  | _ => .int (ha_I h p j)
theorem fv_av (b scr t j : Nat) (h : ix_H) (p : Nat) : ix_cv b scr (ix_av t j h p) = ix_fv b t h p j := by
  unfold ix_av ix_fv
  generalize ix_fk t j = z
  match z with
  | 0 => rfl
  | 1 => exact cv_rf b scr _
  | 2 => rfl
  | n + 3 => rfl
def ix_ev (b t : Nat) (h : ix_H) (p j : Nat) : Value := if t ≤ 101 then .int (ha_I h p j) else if t = 102 then .long (ha_J h p j) else va_rf ((ha_R h p j).map (fun q => b + q))
def ix_dA (tys : List (ClassId × FieldType)) (t : Nat) : ClassId := (tys.getD (t - 100) (0, .int)).1
def ix_cell (D : va_G) (tys : List (ClassId × FieldType)) (b : Nat) (h : ix_H) (p : Nat) (H : Heap) : Prop :=
  if ha_T h p < 100 then t_OB (b + p) (D.1 (ha_T h p)) (ix_nf (ha_T h p)) (D.2 (ha_T h p)) H (ix_fv b (ha_T h p) h p)
  else H[b + p]? = some (arrV (ix_dA tys (ha_T h p)) (ha_L h p) (ix_ev b (ha_T h p) h p))
def ix_rep (D : va_G) (tys : List (ClassId × FieldType)) (b : Nat) (h : ix_H) (H : Heap) : Prop := H.size = b + ha_N h ∧ (∀ p, p < ha_N h → ix_cell D tys b h p H) ∧ ∀ p, ha_N h ≤ p → ha_T h p = 9999
theorem rep_lt {D : va_G} {tys : List (ClassId × FieldType)} {b : Nat} {h : ix_H} {H : Heap} (hr : ix_rep D tys b h H) {p : Nat} (hp : ha_T h p < 9999) : p < ha_N h := by
  apply Nat.lt_of_not_le
  intro hq
  have := hr.2.2 p hq
  omega
theorem cell_kept {D : va_G} {tys : List (ClassId × FieldType)} {b : Nat} {h : ix_H} {H H1 : Heap} {p : Nat} (hc : ix_cell D tys b h p H) (hq : H1[b + p]? = H[b + p]?) : ix_cell D tys b h p H1 := by
  unfold ix_cell at hc ⊢
  split at hc
  · next ht => rw [if_pos ht]; exact hc.kept hq
  · next ht => rw [if_neg ht, hq]; exact hc
theorem cell_same {D : va_G} {tys : List (ClassId × FieldType)} {b : Nat} {h h' : ix_H} {H : Heap} {p : Nat} (hc : ix_cell D tys b h p H) (hT : ha_T h' p = ha_T h p) (hL : ha_L h' p = ha_L h p) (i1 : ha_I h' p = ha_I h p) (i2 : ha_R h' p = ha_R h p) (i3 : ha_J h' p = ha_J h p) : ix_cell D tys b h' p H := by
  unfold ix_cell at hc ⊢
  have e1 : ∀ t, ix_fv b t h' p = ix_fv b t h p := by intro t; funext j; unfold ix_fv; rw [i1, i2, i3]
  have e2 : ∀ t, ix_ev b t h' p = ix_ev b t h p := by intro t; funext j; unfold ix_ev; rw [i1, i2, i3]
  rw [hT, hL, e1, e2]
  exact hc
theorem rep_put {D : va_G} {tys : List (ClassId × FieldType)} {b : Nat} {h h' : ix_H} {H H1 : Heap} {p : Nat} (hr : ix_rep D tys b h H) (hN : ha_N h' = ha_N h) (hT : ha_T h' = ha_T h) (hL : ha_L h' = ha_L h)
    (hI : ∀ q, q ≠ p → ha_I h' q = ha_I h q ∧ ha_R h' q = ha_R h q ∧ ha_J h' q = ha_J h q) (hz : H1.size = H.size) (oq : ∀ q, q ≠ b + p → H1[q]? = H[q]?) (hc : ix_cell D tys b h' p H1) : ix_rep D tys b h' H1 := by
  refine ⟨by rw [hz, hN]; exact hr.1, fun q hq => ?_, fun q hq => ?_⟩
  · by_cases hqp : q = p
    · subst hqp; exact hc
    · obtain ⟨i1, i2, i3⟩ := hI q hqp
      exact cell_same (cell_kept (hr.2.1 q (by omega)) (oq (b + q) (by omega))) (by rw [hT]) (by rw [hL]) i1 i2 i3
  · rw [hT]; exact hr.2.2 q (by omega)
theorem rep_new {D : va_G} {tys : List (ClassId × FieldType)} {b t len sl : Nat} {h : ix_H} {H H1 : Heap} (hr : ix_rep D tys b h H) (hz : H1.size = H.size + 1) (oq : ∀ q, q < H.size → H1[q]? = H[q]?) (hc : ix_cell D tys b (hs_new h t len sl) (ha_N h) H1) : ix_rep D tys b (hs_new h t len sl) H1 := by
  refine ⟨by rw [hz, hr.1, hN_new]; omega, fun q hq => ?_, fun q hq => ?_⟩
  · rw [hN_new] at hq
    by_cases hqp : q = ha_N h
    · subst hqp; exact hc
    · refine cell_same (cell_kept (hr.2.1 q (by omega)) (oq (b + q) (by rw [hr.1]; omega))) ?_ ?_ ?_ ?_ ?_
      · rw [hT_new, if_neg hqp]
      · rw [hL_new, if_neg hqp]
      · funext j; rw [hI_new, if_neg hqp]
      · funext j; rw [hR_new, if_neg hqp]
      · funext j; rw [hJ_new, if_neg hqp]
  · rw [hN_new] at hq
    rw [hT_new, if_neg (by omega)]
    exact hr.2.2 q (by omega)
theorem S_new {A : Nat → Prop} {H0 H H1 : Heap} {locs : List Loc} (h : va_S A H0 H locs) (z : H1.size = H.size + 1) (oq : ∀ q : Nat, q < H.size → H1[q]? = H[q]?) : va_S A H0 H1 locs :=
  ⟨by have := h.1; omega, fun q h1 h2 => (oq q (Nat.lt_of_lt_of_le h1 h.1)).trans (h.2.1 q h1 h2), h.2.2⟩
-- kinds of a field
theorem kok_put {b scr t j q : Nat} {v : Value} {h h' : ix_H} {ty : FieldType} (hk : ix_kok ty (ix_fk t j)) (hp : ix_put t j q v h = some h') : narrow ty (ix_cv b scr v) = ix_cv b scr v ∧ fits ty (ix_cv b scr v) = true ∧ ha_N h' = ha_N h ∧ ha_S h' = ha_S h ∧ ha_T h' = ha_T h ∧ ha_L h' = ha_L h ∧ (∀ z, z ≠ q → ha_I h' z = ha_I h z ∧ ha_R h' z = ha_R h z ∧ ha_J h' z = ha_J h z) ∧ ∀ k, ix_fv b t h' q k = updV (ix_fv b t h q) j (ix_cv b scr v) k := by
  have e0 : ∀ {α : Type} (f : Nat → Nat → α) (g : Nat → α) (z : Nat), z ≠ q → va_up f q g z = f z := fun f g z hz => if_neg hz
  have e1 : ∀ {α : Type} (f : Nat → Nat → α) (g : Nat → α), va_up f q g q = g := fun f g => if_pos rfl
  unfold ix_put at hp
  split at hp
  · split at hp
    · next x hz =>
      cases hp
      have hfk : ix_fk t j = 0 ∨ ix_fk t j = 3 := hz.imp id And.left
      refine ⟨?_, ?_, rfl, rfl, rfl, rfl, fun z hz => ⟨e0 _ _ z hz, rfl, rfl⟩, fun k => ?_⟩
      · rcases hk with ⟨a1, rfl⟩ | ⟨a1, -⟩ | ⟨a1, -⟩ | ⟨a1, rfl⟩
        · rfl
        · omega
        · omega
        · rcases hz with hz | ⟨-, rfl | rfl⟩
          · omega
          · rfl
          · rfl
      · rcases hk with ⟨a1, rfl⟩ | ⟨a1, -⟩ | ⟨a1, -⟩ | ⟨a1, rfl⟩
        · rfl
        · omega
        · omega
        · rcases hz with hz | ⟨-, rfl | rfl⟩
          · omega
          · rfl
          · rfl
      · unfold ix_fv updV
        by_cases hkj : k = j
        · subst hkj
          rw [if_pos rfl]
          have : ha_I (hs_I h q k x) q k = x := by rw [hI_I, if_pos ⟨rfl, rfl⟩]
          split
          · omega
          · omega
          · rw [this]; rfl
        · rw [if_neg hkj]
          have : ha_I (hs_I h q j x) q k = ha_I h q k := by rw [hI_I, if_neg (fun z => hkj z.2)]
          rw [this, hR_I, hJ_I]
    · cases hp
  · split at hp
    · next x hz =>
      cases hp
      refine ⟨?_, ?_, rfl, rfl, rfl, rfl, fun z hz => ⟨rfl, rfl, e0 _ _ z hz⟩, fun k => ?_⟩
      · rcases hk with ⟨a1, -⟩ | ⟨a1, -⟩ | ⟨a1, rfl⟩ | ⟨a1, -⟩
        · omega
        · omega
        · rfl
        · omega
      · rcases hk with ⟨a1, -⟩ | ⟨a1, -⟩ | ⟨a1, rfl⟩ | ⟨a1, -⟩
        · omega
        · omega
        · rfl
        · omega
      · unfold ix_fv updV
        by_cases hkj : k = j
        · subst hkj
          rw [if_pos rfl]
          have : ha_J (hs_J h q k x) q k = x := by rw [hJ_J, if_pos ⟨rfl, rfl⟩]
          split
          · omega
          · rw [this]; rfl
          · next c1 c2 => exact absurd hz c2
        · rw [if_neg hkj]
          have : ha_J (hs_J h q j x) q k = ha_J h q k := by rw [hJ_J, if_neg (fun z => hkj z.2)]
          rw [this, hR_J, hI_J]
    · cases hp
  · split at hp
    · next hz =>
      cases hp
      refine ⟨?_, ?_, rfl, rfl, rfl, rfl, fun z hz => ⟨rfl, e0 _ _ z hz, rfl⟩, fun k => ?_⟩
      · rcases hk with ⟨a1, -⟩ | ⟨a1, ⟨n, rfl⟩ | ⟨n, rfl⟩⟩ | ⟨a1, -⟩ | ⟨a1, -⟩
        · omega
        · rfl
        · rfl
        · omega
        · omega
      · rcases hk with ⟨a1, -⟩ | ⟨a1, ⟨n, rfl⟩ | ⟨n, rfl⟩⟩ | ⟨a1, -⟩ | ⟨a1, -⟩
        · omega
        · rfl
        · rfl
        · omega
        · omega
      · unfold ix_fv updV
        by_cases hkj : k = j
        · subst hkj
          rw [if_pos rfl]
          have : ha_R (hs_R h q k none) q k = none := by rw [hR_R, if_pos ⟨rfl, rfl⟩]
          split
          · rw [this]; rfl
          · omega
          · next c1 c2 => exact absurd hz c1
        · rw [if_neg hkj]
          have : ha_R (hs_R h q j none) q k = ha_R h q k := by rw [hR_R, if_neg (fun z => hkj z.2)]
          rw [this, hI_R, hJ_R]
    · cases hp
  · split at hp
    · next x hz =>
      cases hp
      refine ⟨?_, ?_, rfl, rfl, rfl, rfl, fun z hz => ⟨rfl, e0 _ _ z hz, rfl⟩, fun k => ?_⟩
      · rcases hk with ⟨a1, -⟩ | ⟨a1, ⟨n, rfl⟩ | ⟨n, rfl⟩⟩ | ⟨a1, -⟩ | ⟨a1, -⟩
        · omega
        · rfl
        · rfl
        · omega
        · omega
      · rcases hk with ⟨a1, -⟩ | ⟨a1, ⟨n, rfl⟩ | ⟨n, rfl⟩⟩ | ⟨a1, -⟩ | ⟨a1, -⟩
        · omega
        · rfl
        · rfl
        · omega
        · omega
      · unfold ix_fv updV
        by_cases hkj : k = j
        · subst hkj
          rw [if_pos rfl]
          have : ha_R (hs_R h q k (some x)) q k = some x := by rw [hR_R, if_pos ⟨rfl, rfl⟩]
          split
          · rw [this]; rfl
          · omega
          · next c1 c2 => exact absurd hz c1
        · rw [if_neg hkj]
          have : ha_R (hs_R h q j (some x)) q k = ha_R h q k := by rw [hR_R, if_neg (fun z => hkj z.2)]
          rw [this, hI_R, hJ_R]
    · cases hp
  · cases hp
theorem kok_new {b t j : Nat} {h : ix_H} {ty : FieldType} {len sl : Nat} (hk : ix_kok ty (ix_fk t j)) : defaultValue ty = ix_fv b t (hs_new h t len sl) (ha_N h) j := by
  unfold ix_fv
  rw [hI_new, hR_new, hJ_new, if_pos rfl, if_pos rfl, if_pos rfl]
  rcases hk with ⟨a1, rfl⟩ | ⟨a1, ⟨n, rfl⟩ | ⟨n, rfl⟩⟩ | ⟨a1, rfl⟩ | ⟨a1, rfl⟩ <;> rw [a1] <;> rfl
section HP
variable {p : Program} {l : Launch} {e : Env} {R : Room} {s : State} {m : MethodId} {args : Array Value} {below : List Frame} {meth : Method} {c : Code} {H : Heap} {locs : List Loc} {cells slots : Nat} {Q : State → Prop} {cc : ByteArray} {pc : Nat} {ls : Array Slot} {rest : List Value} {D : va_G} {tys : List (ClassId × FieldType)} {b : Nat} {h h' : ix_H} {q idx t j : Nat} {own : String} {H0 : Heap}
theorem ix_getW (hx : p.tables.exec = Jvm.exec) (hb : c.code = cc) (hts : ∀ w ∈ Tw, w.before args s = true) (hown : s.vm.findClass own = some m.cls) (hK : va_K D vwCl tys s) (hr : ix_rep D tys b h H) (hc : ix_okc t) (hj : j < ix_nf t) (hlink : (Cond.fieldLink own idx ((ix_cl t).2.1 j).1 ((ix_cl t).2.1 j).2.1 ((ix_cl t).2.1 j).2.2.1).before args s = true) (hT : ha_T h q = t) (hd : decode cc pc = .ok (.getfield idx, 3))
    (kk : W p l e R s m args below meth c H locs cells slots Q (F0 m (pc + 3) ls (ix_fv b t h q j :: rest))) : W p l e R s m args below meth c H locs cells slots Q (F0 m pc ls (.ref (b + q) :: rest)) := by
  obtain ⟨h1, h2, h3, h4, h5, -⟩ := hc
  have hq := rep_lt hr (p := q) (by omega)
  have h7 := hr.2.1 q hq
  unfold ix_cell at h7
  rw [hT, if_pos h1] at h7
  obtain ⟨cell, q1, q2, q3, q4⟩ := h7
  obtain ⟨hS, hfc, kC, hkC, hkind⟩ := hK.1 t _ h2
  obtain ⟨cf, kf, fi, f, hi, hsl⟩ := hS j (by omega)
  refine W.getf hx hb hown hlink hi (u_facts hfc hkC (u_lays hts h4 (by omega)) hi).1 q1 (by rw [q3]; exact fun z => by cases z) (v := ix_fv b t h q j) ?_ rfl rfl hd kk
  rw [hsl]
  exact q4 j hj
theorem ix_putW {scr : Nat} {v : Value} (hx : p.tables.exec = Jvm.exec) (hb : c.code = cc) (hts : ∀ w ∈ Tw, w.before args s = true) (hown : s.vm.findClass own = some m.cls) (hK : va_K D vwCl tys s) (hr : ix_rep D tys b h H) (hc : ix_okc t) (hj : j < ix_nf t) (hlink : (Cond.fieldLink own idx ((ix_cl t).2.1 j).1 ((ix_cl t).2.1 j).2.1 ((ix_cl t).2.1 j).2.2.1).before args s = true) (hT : ha_T h q = t) (hfin : ix_fin t j = false ∨ (meth.name = "<init>" ∧ own = (ix_cl t).1)) (hp : ix_put t j q v h = some h') (hd : decode cc pc = .ok (.putfield idx, 3)) (hS0 : va_S (fun z => b ≤ z) H0 H locs)
    (kk : ∀ (H1 : Heap) (locs1 : List Loc), ix_rep D tys b h' H1 → va_S (fun z => b ≤ z) H0 H1 locs1 → W p l e R s m args below meth c H1 locs1 cells slots Q (F0 m (pc + 3) ls rest)) : W p l e R s m args below meth c H locs cells slots Q (F0 m pc ls (ix_cv b scr v :: .ref (b + q) :: rest)) := by
  obtain ⟨h1, h2, h3, h4, h5, h6, h7a, h8a, h9a⟩ := hc
  obtain ⟨g1, g2, gN, gS, gT, gL, gI, gV⟩ := kok_put (b := b) (scr := scr) (h7a j hj) hp
  have hq := rep_lt hr (p := q) (by omega)
  have h7 := hr.2.1 q hq
  unfold ix_cell at h7
  rw [hT, if_pos h1] at h7
  obtain ⟨cell, q1, q2, q3, q4⟩ := h7
  have hap := va_apart (own := own) (D := D) (cl := vwCl) (tys := tys) hts h4 (ix_tt t) h5 h6 hK h2
  obtain ⟨hS, hfc, kC, hkC, hkind⟩ := hK.1 t _ h2
  obtain ⟨cf, kf, fi, f, hi, hsl⟩ := hS j (by omega)
  have hlay := hts _ (h4 _ (u_in_lay (show j < (ix_cl t).2.2 by omega)))
  have hst := (u_facts hfc hkC (u_lays hts h4 (by omega)) hi).1
  have key : ∀ (H1 : Heap), H1[b + q]? = some (cell.setSlot f.slot (ix_cv b scr v)) → H1.size = H.size → (∀ z, z ≠ b + q → H1[z]? = H[z]?) → W p l e R s m args below meth c H1 (locs ++ [⟨b + q, f.slot⟩]) cells slots Q (F0 m (pc + 3) ls rest) := by
    intro H1 e1 e2 e3
    rw [hsl] at e1
    refine kk H1 _ (rep_put hr gN gT gL gI e2 e3 ?_) (hS0.put e2 e3 (Nat.le_add_right b q))
    unfold ix_cell
    rw [gT, hT, if_pos h1]
    exact t_OB.to (V := updV (ix_fv b t h q) j (ix_cv b scr v)) ⟨_, e1, q2, q3, t_set q4 (fun x y hx hy => hap x y (by omega) (by omega)) hj _⟩ (fun k hk => (gV k).symm)
  unfold u_lay at hlay
  by_cases hff : ix_fin t j = true
  · rw [if_pos (by rw [h8a j hj]; exact hff)] at hlay
    obtain ⟨hin2, hdecl⟩ := hfin.resolve_left (by rw [hff]; decide)
    have hcf : m.cls = cf := by
      obtain ⟨_, _, c', _, _, _, -, -, hf', -, -, -, hown2, -⟩ := Cond.laysFinal_spec hlay
      have e1 : c' = cf := by have := hi.symm.trans hf'; simp at this; exact this.1.symm
      rw [h9a j hj, ← hdecl] at hown2
      rw [← e1]; exact Option.some.inj (hown.symm.trans hown2)
    have h8 := u_fits hfc hkC hkind (Or.inr hlay) hi (h5 j (by omega)) g1 g2
    exact W.putFinK hx hb hown hlink hi hst hcf hin2 (by rw [q2]; exact h8) q1 q3 (by rw [hsl]; exact k2_hasslot (q4 j hj)) rfl rfl hd key
  · rw [if_neg (by rw [h8a j hj]; exact hff)] at hlay
    have h8 := u_store hfc hkC hkind hlay hi (h5 j (by omega)) g1 g2
    exact W.putK hx hb (f := f) ⟨hown, hlink, ⟨_, _, _, hi⟩, hst⟩ (by rw [q2]; exact h8) q1 q3 (by rw [hsl]; exact k2_hasslot (q4 j hj)) rfl rfl hd key
theorem ix_newW (hx : p.tables.exec = Jvm.exec) (hb : c.code = cc) (hts : ∀ w ∈ Tw, w.before args s = true) (hown : s.vm.findClass own = some m.cls) (hK : va_K D vwCl tys s) (hr : ix_rep D tys b h H) (hc : ix_okc t) (hl1 : (Cond.classLink own idx (ix_cl t).1).before args s = true) (hl2 : (Cond.instantiable (ix_cl t).1 (ix_nf t)).before args s = true) (hl3 : (Cond.initialized (ix_cl t).1).before args s = true) (hcells : cells + 1 ≤ R.cells) (hslots : slots + ix_nf t ≤ R.slots) (hd : decode cc pc = .ok (.new idx, 3)) (hS0 : va_S (fun z => b ≤ z) H0 H locs)
    (kk : ∀ (H1 : Heap), ix_rep D tys b (hs_new h t 0 (ix_nf t)) H1 → va_S (fun z => b ≤ z) H0 H1 locs → W p l e R s m args below meth c H1 locs (cells + 1) (slots + ix_nf t) Q (F0 m (pc + 3) ls (.ref (b + ha_N h) :: rest))) : W p l e R s m args below meth c H locs cells slots Q (F0 m pc ls rest) := by
  obtain ⟨h1, h2, h3, h4, h5, h6, h7a, h8a, h9a⟩ := hc
  have hKn := hK.1 t _ h2
  refine W.newcK hx hb hown hl1 hl2 hl3 rfl hd hcells hslots hKn.2.1 hr.1 fun H1 kC hkC e1 z1 o1 => ?_
  refine kk H1 (rep_new hr (by rw [z1, hr.1]) (fun z hz => o1 z (by rw [← hr.1]; exact hz)) ?_) (S_new hS0 (by rw [z1, hr.1]) (fun z hz => o1 z (by rw [← hr.1]; exact hz)))
  unfold ix_cell
  rw [hT_new, if_pos rfl, if_pos h1]
  have hb1 := u_born (ix_tt t) hts h4 hKn hkC e1 h5
  rw [h3] at hb1
  exact t_OB.to hb1 (fun k hk => kok_new (h7a k hk))
theorem ty_at {tys : List (ClassId × FieldType)} {t : Nat} {ty : FieldType} (hk : tys.map (fun q => q.2) = ix_aty) (ht : ix_aty[t - 100]? = some ty) : tys[t - 100]? = some (ix_dA tys t, ty) := by
  rw [← hk, List.getElem?_map] at ht
  cases hq : tys[t - 100]? with
  | none => rw [hq] at ht; cases ht
  | some q =>
    rw [hq] at ht
    obtain ⟨a, y⟩ := q
    cases ht
    unfold ix_dA
    rw [List.getD_eq_getElem?_getD, hq]
    rfl
theorem ix_newaW {a : Jvm.ClassFile.ArrayType} {x : Int32} (hx : p.tables.exec = Jvm.exec) (hb : c.code = cc) (hts : ∀ w ∈ Tw, w.before args s = true) (hK : va_K D vwCl tys s) (htk : tys.map (fun q => q.2) = ix_aty) (hr : ix_rep D tys b h H) (ha : ¬ ix_at a = 0) (hw : Cond.arrayClass (newarray.typeOf a) ∈ Tw) (h0 : ¬ x < 0) (hN : ¬ 1000000 < x.toNatClampNeg) (hcells : cells + 1 ≤ R.cells) (hslots : slots + x.toNatClampNeg ≤ R.slots) (hd : decode cc pc = .ok (.newarray a, 2)) (hS0 : va_S (fun z => b ≤ z) H0 H locs)
    (kk : ∀ (H1 : Heap), ix_rep D tys b (hs_new h (ix_at a) x.toNatClampNeg x.toNatClampNeg) H1 → va_S (fun z => b ≤ z) H0 H1 locs → W p l e R s m args below meth c H1 locs (cells + 1) (slots + x.toNatClampNeg) Q (F0 m (pc + 2) ls (.ref (b + ha_N h) :: rest))) : W p l e R s m args below meth c H locs cells slots Q (F0 m pc ls (.int x :: rest)) := by
  have hbytes : x.toNatClampNeg * componentBytes (newarray.typeOf a) ≤ 536870912 := by
    have h8 : componentBytes (newarray.typeOf a) ≤ 8 := by cases a <;> decide
    have := Nat.mul_le_mul (show x.toNatClampNeg ≤ 1000000 by omega) h8
    omega
  refine va_newaK hx hb (hts _ hw) rfl hd rfl h0 rfl hbytes hcells hslots hr.1 fun H1 cA e1 z1 o1 hAr hNm => ?_
  refine kk H1 (rep_new hr (by rw [z1, hr.1]) (fun z hz => o1 z (by rw [← hr.1]; exact hz)) ?_) (S_new hS0 (by rw [z1, hr.1]) (fun z hz => o1 z (by rw [← hr.1]; exact hz)))
  unfold ix_cell
  rw [hT_new, hL_new, if_pos rfl, if_pos rfl]
  have hty : ix_aty[ix_at a - 100]? = some (newarray.typeOf a) ∧ ¬ ix_at a < 100 ∧ (∀ n, newarray.typeOf a ≠ .object n) ∧ ∀ j, defaultValue (newarray.typeOf a) = ix_ev b (ix_at a) (hs_new h (ix_at a) x.toNatClampNeg x.toNatClampNeg) (ha_N h) j := by
    have e2 : ∀ j, ha_I (hs_new h (ix_at a) x.toNatClampNeg x.toNatClampNeg) (ha_N h) j = 0 := fun j => by rw [hI_new, if_pos rfl]
    have e3 : ∀ j, ha_J (hs_new h (ix_at a) x.toNatClampNeg x.toNatClampNeg) (ha_N h) j = 0 := fun j => by rw [hJ_new, if_pos rfl]
    cases a with
    | int => exact ⟨rfl, by decide, fun n q => (by cases q), fun j => by unfold ix_ev; rw [if_pos (by decide), e2]; rfl⟩
    | boolean => exact ⟨rfl, by decide, fun n q => (by cases q), fun j => by unfold ix_ev; rw [if_pos (by decide), e2]; rfl⟩
    | long => exact ⟨rfl, by decide, fun n q => (by cases q), fun j => by unfold ix_ev; rw [if_neg (by decide), if_pos (by decide), e3]; rfl⟩
    | _ => exact absurd rfl ha
  rw [if_neg hty.2.1, e1]
  have h9 := (hK.2 _ _ (ty_at htk hty.1)).2
  have hcA : cA = ix_dA tys (ix_at a) := by
    unfold va_RA at h9
    split at h9
    · next q => exact absurd q (hty.2.2.1 _)
    · exact Option.some.inj (hNm.symm.trans h9)
  rw [hcA]
  congr 2
  funext j
  exact hty.2.2.2 j
theorem ix_newqW {x : Int32} (hx : p.tables.exec = Jvm.exec) (hb : c.code = cc) (hts : ∀ w ∈ Tw, w.before args s = true) (hown : s.vm.findClass own = some m.cls) (hK : va_K D vwCl tys s) (htk : tys.map (fun q => q.2) = ix_aty) (hr : ix_rep D tys b h H) {C : String} (ht : 103 ≤ t) (hty : ix_aty[t - 100]? = some (.object C)) (hl : (Cond.classLink own idx C).before args s = true) (hover : va_AO C s) (h0 : ¬ x < 0) (hN : ¬ 1000000 < x.toNatClampNeg) (hcells : cells + 1 ≤ R.cells) (hslots : slots + x.toNatClampNeg ≤ R.slots) (hd : decode cc pc = .ok (.anewarray idx, 3)) (hS0 : va_S (fun z => b ≤ z) H0 H locs)
    (kk : ∀ (H1 : Heap), ix_rep D tys b (hs_new h t x.toNatClampNeg x.toNatClampNeg) H1 → va_S (fun z => b ≤ z) H0 H1 locs → W p l e R s m args below meth c H1 locs (cells + 1) (slots + x.toNatClampNeg) Q (F0 m (pc + 3) ls (.ref (b + ha_N h) :: rest))) : W p l e R s m args below meth c H locs cells slots Q (F0 m pc ls (.int x :: rest)) := by
  refine W.anew hx hb hown hl (va_AO.use hover) rfl hd rfl h0 (by omega) hcells hslots fun cA kA comp f1 f2 f3 f4 => ?_
  generalize hH1 : H.push ({ cls := cA, slots := Array.replicate x.toNatClampNeg .null, vm := .none } : Cell) = H1
  have z1 : H1.size = H.size + 1 := by rw [← hH1, Array.size_push]
  have e1 : H1[H.size]? = some (arrV cA x.toNatClampNeg (fun _ => .null)) := by rw [← hH1, Array.getElem?_push_size, ← arrV_new]
  have o1 : ∀ q : Nat, q < H.size → H1[q]? = H[q]? := fun q hq => by rw [← hH1, Array.getElem?_push, if_neg (Nat.ne_of_lt hq)]
  have := kk H1 (rep_new hr z1 o1 ?_) (S_new hS0 z1 o1)
  · rw [hr.1]; exact this
  unfold ix_cell
  rw [hT_new, hL_new, if_pos rfl, if_pos rfl, if_neg (by omega), ← hr.1, e1]
  obtain ⟨kA', comp', -, -, -, h9⟩ := (hK.2 _ _ (ty_at htk hty)).2
  rw [Option.some.inj (f1.symm.trans h9)]
  congr 2
  funext j
  unfold ix_ev
  rw [if_neg (by omega), if_neg (by omega), hR_new, if_pos rfl]
  rfl
end HP
end
section
def ix_Cx (p : Program) (s : State) (m : MethodId) (args : Array Value) (meth : Method) (c : Code) (k : Nat) (D : va_G) (tys : List (ClassId × FieldType)) (b scr L : Nat) (xs : Nat → Int32) : Prop :=
  p.tables.exec = Jvm.exec ∧ c.code = ix_by k ∧ c.maxLocals = ix_ml k ∧ (∀ w ∈ Tw, w.before args s = true) ∧ s.vm.findClass (ix_ocl (ix_on k)) = some m.cls ∧ (∀ t, ix_ci k = t + 1 → meth.name = "<init>" ∧ ix_ocl (ix_on k) = (ix_cl t).1) ∧ va_K D vwCl tys s ∧ tys.map (fun q => q.2) = ix_aty ∧ (∀ C ∈ ix_AO, va_AO C s) ∧ (∀ q ∈ ix_NW, va_Nw (.methodLinkNest q.1 q.2.1 q.2.2.1 q.2.2.2) s) ∧ va_X scr L xs s s.heap ∧ scr < b ∧ b ≤ s.heap.size
theorem put_grows {t j q : Nat} {v : Value} {h h' : ix_H} (hp : ix_put t j q v h = some h') : ha_N h' = ha_N h ∧ ha_S h' = ha_S h := by
  unfold ix_put at hp
  split at hp <;> (try split at hp) <;> first | cases hp; exact ⟨rfl, rfl⟩ | cases hp
theorem hp_grows {xs : Nat → Int32} {L k : Nat} {i : Instr} {st st' : List Value} {h h' : ix_H} (ha : ix_hp xs L k i st h = some (st', h')) : ha_N h ≤ ha_N h' ∧ ha_S h ≤ ha_S h' := by
  unfold ix_hp at ha
  split at ha
  · split at ha
    · split at ha
      · cases ha; exact ⟨Nat.le_refl _, Nat.le_refl _⟩
      · cases ha
    · cases ha
  · split at ha
    · split at ha
      · split at ha
        · next hq => cases ha; obtain ⟨e1, e2⟩ := put_grows hq; exact ⟨Nat.le_of_eq e1.symm, Nat.le_of_eq e2.symm⟩
        · cases ha
      · cases ha
    · cases ha
  · split at ha
    · cases ha; exact ⟨Nat.le_succ _, Nat.le_add_right _ _⟩
    · cases ha
  · split at ha
    · split at ha
      · cases ha
      · cases ha; exact ⟨Nat.le_succ _, Nat.le_add_right _ _⟩
    · cases ha
  · split at ha
    · split at ha
      · cases ha
      · cases ha; exact ⟨Nat.le_succ _, Nat.le_add_right _ _⟩
    · cases ha
  · split at ha
    · split at ha
      · cases ha; exact ⟨Nat.le_refl _, Nat.le_refl _⟩
      · cases ha
    · cases ha; exact ⟨Nat.le_refl _, Nat.le_refl _⟩
    · cases ha
  · split at ha
    · split at ha
      · cases ha; exact ⟨Nat.le_refl _, Nat.le_refl _⟩
      · cases ha
    · split at ha
      · cases ha
      · cases ha; exact ⟨Nat.le_refl _, Nat.le_refl _⟩
    · cases ha
  all_goals first
    | cases ha
    | (split at ha
       · split at ha
         · cases ha; exact ⟨Nat.le_refl _, Nat.le_refl _⟩
         · cases ha
       · cases ha)
theorem inv_heap {k : Nat} {i : Instr} {pc : Nat} {lv st : List Value} {h : ix_H} : (∀ g, ix_inv k i pc lv st h = some (.inl g) → (g.2.1 = lv ∧ g.2.2.2 = h)) ∧ ∀ q, ix_inv k i pc lv st h = some (.inr q) → (q.2.2.2.1 = lv ∧ q.2.2.2.2.2 = h) := by
  have hcq : ∀ (a : Nat) (as r : List Value) (rc : Bool) (z : ix_F ⊕ ix_Q), ix_cq k a as r pc lv h rc = some z → ∃ q : ix_Q, z = .inr q ∧ (q.2.2.2.1 = lv ∧ q.2.2.2.2.2 = h) := by
    intro a as r rc z hz
    unfold ix_cq at hz
    split at hz
    · split at hz
      · split at hz
        · cases hz; exact ⟨_, rfl, rfl, rfl⟩
        · cases hz
      · cases hz; exact ⟨_, rfl, rfl, rfl⟩
      · cases hz
    · cases hz
  have key : ∀ z, ix_inv k i pc lv st h = some z → (∀ g, z = .inl g → (g.2.1 = lv ∧ g.2.2.2 = h)) ∧ ∀ q, z = .inr q → (q.2.2.2.1 = lv ∧ q.2.2.2.2.2 = h) := by
    intro z hz
    have fin : ∀ {a : Nat} {as r : List Value} {rc : Bool}, ix_cq k a as r pc lv h rc = some z → (∀ g, z = .inl g → (g.2.1 = lv ∧ g.2.2.2 = h)) ∧ ∀ q, z = .inr q → (q.2.2.2.1 = lv ∧ q.2.2.2.2.2 = h) := by
      intro a as r rc hq
      obtain ⟨q, rfl, hh⟩ := hcq a as r rc z hq
      exact ⟨fun g hg => (by cases hg), fun q' hq' => (by cases hq'; exact hh)⟩
    have fin2 : ∀ {g : ix_F}, (g.2.1 = lv ∧ g.2.2.2 = h) → some (Sum.inl g : ix_F ⊕ ix_Q) = some z → (∀ g, z = .inl g → (g.2.1 = lv ∧ g.2.2.2 = h)) ∧ ∀ q, z = .inr q → (q.2.2.2.1 = lv ∧ q.2.2.2.2.2 = h) := by
      intro g hg hq
      cases hq
      exact ⟨fun g' hg' => (by cases hg'; exact hg), fun q' hq' => (by cases hq')⟩
    unfold ix_inv at hz
    split at hz
    · split at hz
      · split at hz
        · split at hz
          · exact fin2 ⟨rfl, rfl⟩ hz
          · cases hz
        · cases hz
      · split at hz
        · split at hz
          · exact fin hz
          · cases hz
        · cases hz
    · split at hz
      · split at hz
        · exact fin hz
        · cases hz
      · cases hz
    · split at hz
      · split at hz
        · split at hz
          · exact fin2 ⟨rfl, rfl⟩ hz
          · cases hz
        · cases hz
      · split at hz
        · split at hz
          · split at hz
            · exact fin2 ⟨rfl, rfl⟩ hz
            · cases hz
          · cases hz
        · split at hz
          · split at hz
            · exact fin hz
            · cases hz
          · cases hz
    · cases hz
  exact ⟨fun g hg => (key _ hg).1 g rfl, fun q hq => (key _ hq).2 q rfl⟩
-- the six ways of a step
theorem do_inv {xs : Nat → Int32} {L k n : Nat} {i : Instr} {fr : ix_F} {z : ix_F ⊕ (ix_Q ⊕ ix_O)} (hz : ix_do xs L k i n fr = some z) :
    (∃ q, ix_alu (ix_cp k) i fr.2.2.1 = some q ∧ z = .inl (fr.1 + n, fr.2.1, q, fr.2.2.2)) ∨ (∃ q, ix_br i fr.1 fr.2.2.1 = some q ∧ z = .inl (q.1, fr.2.1, q.2, fr.2.2.2)) ∨ (∃ q, ix_lc (ix_lg k) i fr.2.1 fr.2.2.1 = some q ∧ z = .inl (fr.1 + n, q.1, q.2, fr.2.2.2)) ∨
    (∃ q, ix_hp xs L k i fr.2.2.1 fr.2.2.2 = some q ∧ z = .inl (fr.1 + n, fr.2.1, q.1, q.2)) ∨ (∃ g, ix_inv k i fr.1 fr.2.1 fr.2.2.1 fr.2.2.2 = some (.inl g) ∧ z = .inl g) ∨ (∃ q, ix_inv k i fr.1 fr.2.1 fr.2.2.1 fr.2.2.2 = some (.inr q) ∧ z = .inr (.inl q)) ∨ ∃ v, ix_rtn (ix_rk k) i fr.2.2.1 = some v ∧ z = .inr (.inr (v, fr.2.2.2)) := by
  unfold ix_do at hz
  split at hz
  · next q hq => exact Or.inl ⟨q, hq, (Option.some.inj hz).symm⟩
  split at hz
  · next q hq => exact Or.inr (Or.inl ⟨q, hq, (Option.some.inj hz).symm⟩)
  split at hz
  · next q hq => exact Or.inr (Or.inr (Or.inl ⟨q, hq, (Option.some.inj hz).symm⟩))
  split at hz
  · next q hq => exact Or.inr (Or.inr (Or.inr (Or.inl ⟨q, hq, (Option.some.inj hz).symm⟩)))
  split at hz
  · next g hq => exact Or.inr (Or.inr (Or.inr (Or.inr (Or.inl ⟨g, hq, (Option.some.inj hz).symm⟩))))
  · next q hq => exact Or.inr (Or.inr (Or.inr (Or.inr (Or.inr (Or.inl ⟨q, hq, (Option.some.inj hz).symm⟩)))))
  split at hz
  · next v hq => exact Or.inr (Or.inr (Or.inr (Or.inr (Or.inr (Or.inr ⟨v, hq, (Option.some.inj hz).symm⟩)))))
  · cases hz
theorem step_inv {xs : Nat → Int32} {L k : Nat} {fr : ix_F} {z : ix_F ⊕ (ix_Q ⊕ ix_O)} (hz : ix_step xs L k fr = some z) : ∃ i n, decode (ix_by k) fr.1 = .ok (i, n) ∧ ix_len i n = true ∧ ix_do xs L k i n fr = some z := by
  unfold ix_step at hz
  split at hz
  · next i n hd =>
    split at hz
    · next hn => exact ⟨i, n, hd, hn, hz⟩
    · cases hz
  · cases hz
theorem run_grows {call : Nat → List Value → ix_H → Option ix_O} (hc : ∀ k as h o, call k as h = some o → ha_N h ≤ ha_N o.2 ∧ ha_S h ≤ ha_S o.2) (xs : Nat → Int32) (L k : Nat) : ∀ (f : Nat) (fr : ix_F) (o : ix_O), ix_run call xs L k f fr = some o → ha_N fr.2.2.2 ≤ ha_N o.2 ∧ ha_S fr.2.2.2 ≤ ha_S o.2 := by
  intro f
  induction f with
  | zero => intro fr o h; simp [ix_run] at h
  | succ f ih =>
    intro fr o h
    simp only [ix_run] at h
    split at h
    · cases h
    · next g hs =>
      obtain ⟨i, n, hd, hn, hz⟩ := step_inv hs
      have h2 := ih g o h
      rcases do_inv hz with ⟨q, hq, e⟩ | ⟨q, hq, e⟩ | ⟨q, hq, e⟩ | ⟨q, hq, e⟩ | ⟨q, hq, e⟩ | ⟨q, hq, e⟩ | ⟨q, hq, e⟩
      · cases e; exact h2
      · cases e; exact h2
      · cases e; exact h2
      · cases e
        have h3 := hp_grows hq
        exact ⟨Nat.le_trans h3.1 h2.1, Nat.le_trans h3.2 h2.2⟩
      · cases e
        have h3 := (inv_heap.1 g hq).2
        rw [← h3]
        exact h2
      · cases e
      · cases e
    · next q hs =>
      obtain ⟨i, n, hd, hn, hz⟩ := step_inv hs
      split at h
      · cases h
      · next o1 ho =>
        have h2 := ih _ o h
        have h3 := hc _ _ _ _ ho
        rcases do_inv hz with ⟨q', hq, e⟩ | ⟨q', hq, e⟩ | ⟨q', hq, e⟩ | ⟨q', hq, e⟩ | ⟨q', hq, e⟩ | ⟨q', hq, e⟩ | ⟨q', hq, e⟩
        · cases e
        · cases e
        · cases e
        · cases e
        · cases e
        · cases e
          have h4 := (inv_heap.2 q hq).2
          rw [h4] at h3
          exact ⟨Nat.le_trans h3.1 h2.1, Nat.le_trans h3.2 h2.2⟩
        · cases e
    · next o1 hs =>
      obtain ⟨i, n, hd, hn, hz⟩ := step_inv hs
      cases h
      rcases do_inv hz with ⟨q', hq, e⟩ | ⟨q', hq, e⟩ | ⟨q', hq, e⟩ | ⟨q', hq, e⟩ | ⟨q', hq, e⟩ | ⟨q', hq, e⟩ | ⟨q', hq, e⟩
      · cases e
      · cases e
      · cases e
      · cases e
      · cases e
      · cases e
      · cases e; exact ⟨Nat.le_refl _, Nat.le_refl _⟩
theorem ex_grows (xs : Nat → Int32) (L f : Nat) : ∀ (d k : Nat) (as : List Value) (h : ix_H) (o : ix_O), ix_ex xs L f d k as h = some o → ha_N h ≤ ha_N o.2 ∧ ha_S h ≤ ha_S o.2 := by
  intro d
  induction d with
  | zero => intro k as h o hx; simp [ix_ex] at hx
  | succ d ih =>
    intro k as h o hx
    simp only [ix_ex] at hx
    split at hx
    · exact run_grows (fun k as h o hq => ih k as h o hq) xs L k f _ o hx
    · cases hx
section HW
variable {p : Program} {l : Launch} {e : Env} {R : Room} {s : State} {m : MethodId} {args : Array Value} {below : List Frame} {meth : Method} {c : Code} {H : Heap} {locs : List Loc} {Q : State → Prop} {pc n b scr L k n0 s0 : Nat} {xs : Nat → Int32} {ls : Array Slot} {st st' : List Value} {D : va_G} {tys : List (ClassId × FieldType)} {h h' : ix_H} {i : Instr}
theorem ar_cell {q t : Nat} (hr : ix_rep D tys b h H) (hT : ha_T h q = t) (h1 : 100 ≤ t) (h2 : t < 9999) : H[b + q]? = some (arrV (ix_dA tys t) (ha_L h q) (ix_ev b t h q)) := by
  have := hr.2.1 q (rep_lt hr (by omega))
  unfold ix_cell at this
  rw [hT, if_neg (by omega)] at this
  exact this
theorem rep_arr {q t j : Nat} {v : Value} {H1 : Heap} (hr : ix_rep D tys b h H) (hT : ha_T h q = t) (h1 : 100 ≤ t) (h2 : t < 9999) (hN : ha_N h' = ha_N h) (hT' : ha_T h' = ha_T h) (hL : ha_L h' = ha_L h) (hI : ∀ z, z ≠ q → ha_I h' z = ha_I h z ∧ ha_R h' z = ha_R h z ∧ ha_J h' z = ha_J h z)
    (hv : ∀ z, ix_ev b t h' q z = updV (ix_ev b t h q) j v z) (e1 : H1[b + q]? = some ((arrV (ix_dA tys t) (ha_L h q) (ix_ev b t h q)).setSlot j v)) (hz : H1.size = H.size) (oq : ∀ z, z ≠ b + q → H1[z]? = H[z]?) : ix_rep D tys b h' H1 := by
  refine rep_put hr hN hT' hL hI hz oq ?_
  unfold ix_cell
  rw [hT', hT, if_neg (by omega), hL, e1, arrV_store]
  congr 2
  funext z
  exact (hv z).symm
set_option maxHeartbeats 2000000 in
theorem ix_hpW (CX : ix_Cx p s m args meth c k D tys b scr L xs) (hd : decode (ix_by k) pc = .ok (i, n)) (hn : ix_len i n = true) (hr : ix_rep D tys b h H) (hS0 : va_S (fun z => b ≤ z) s.heap H locs) (ha : ix_hp xs L k i st h = some (st', h')) (hN0 : n0 ≤ ha_N h) (hSS0 : s0 ≤ ha_S h) (hcells : ha_N h' - n0 ≤ R.cells) (hslots : ha_S h' - s0 ≤ R.slots)
    (kk : ∀ (H1 : Heap) (locs1 : List Loc), ix_rep D tys b h' H1 → va_S (fun z => b ≤ z) s.heap H1 locs1 → W p l e R s m args below meth c H1 locs1 (ha_N h' - n0) (ha_S h' - s0) Q (F0 m (pc + n) ls (st'.map (ix_cv b scr)))) : W p l e R s m args below meth c H locs (ha_N h - n0) (ha_S h - s0) Q (F0 m pc ls (st.map (ix_cv b scr))) := by
  obtain ⟨hx, hb, hml, hts, hown, hnm, hK, htk, hAO, hNW, hX, hsb, hbs⟩ := CX
  have hbA : ¬ (fun z => b ≤ z) scr := fun z => by have : b ≤ scr := z; omega
  have h3 : 103 ≤ ix_tz := tz_ge
  have h4 : ix_tz ≤ 9999 := tz_le
  unfold ix_hp at ha
  split at ha
  · obtain rfl : n = 3 := eq_of_beq hn
    split at ha
    · next q r =>
      split at ha
      · next hz =>
        cases ha
        obtain ⟨g1, g2, g3⟩ := cp_z hz.1 (by decide)
        refine ix_getW hx hb hts hown hK hr g1 g2 (hts _ g3) hz.2 hd ?_
        have := kk H locs hr hS0
        rw [List.map_cons, fv_av] at this
        exact this
      · cases ha
    · cases ha
  · obtain rfl : n = 3 := eq_of_beq hn
    split at ha
    · next v q r =>
      split at ha
      · next hz =>
        split at ha
        · next h1 hq =>
          cases ha
          obtain ⟨g1, g2, g3⟩ := cp_z hz.1 (by decide)
          obtain ⟨e1, e2⟩ := put_grows hq
          refine ix_putW (scr := scr) hx hb hts hown hK hr g1 g2 (hts _ g3) hz.2.1 ?_ hq hd hS0 ?_
          · rcases hz.2.2 with hf | hf
            · exact Or.inl hf
            · exact Or.inr (hnm _ hf)
          · intro H1 locs1 r1 r2
            have := kk H1 locs1 r1 r2
            rw [e1, e2] at this
            exact this
        · cases ha
      · cases ha
    · cases ha
  · obtain rfl : n = 3 := eq_of_beq hn
    split at ha
    · next x hz =>
      cases ha
      obtain ⟨g1, g2, g3, g4, -⟩ := cp_z hz (by decide)
      rw [hN_new] at hcells
      rw [hS_new] at hslots
      refine ix_newW hx hb hts hown hK hr g1 (hts _ g2) (hts _ g3) (hts _ g4) (by omega) (by omega) hd hS0 ?_
      intro H1 r1 r2
      refine W.cs (by rw [hN_new]; omega) (by rw [hS_new]; omega) (kk H1 locs r1 r2)
    · cases ha
  · obtain rfl : n = 2 := eq_of_beq hn
    split at ha
    · next x r =>
      split at ha
      · cases ha
      · next hz =>
        cases ha
        rw [hN_new] at hcells
        rw [hS_new] at hslots
        have z0 : ¬ x < 0 := fun q => hz (Or.inl q)
        have z1 : ¬ 1000000 < x.toNatClampNeg := fun q => hz (Or.inr (Or.inl q))
        have z2 := fun q => hz (Or.inr (Or.inr q))
        refine ix_newaW hx hb hts hK htk hr z2 (aw_in z2) z0 z1 (by omega) (by omega) hd hS0 ?_
        intro H1 r1 r2
        refine W.cs (by rw [hN_new]; omega) (by rw [hS_new]; omega) (kk H1 locs r1 r2)
    · cases ha
  · obtain rfl : n = 3 := eq_of_beq hn
    split at ha
    · next x y r =>
      split at ha
      · cases ha
      · next hz =>
        cases ha
        rw [hN_new] at hcells
        rw [hS_new] at hslots
        simp only [not_or, Decidable.not_not] at hz
        obtain ⟨z0, z1, z2, z3⟩ := hz
        obtain ⟨-, f2, -, -, f5⟩ := cp_z z2 (by decide)
        obtain ⟨g1, g2, g3, g5⟩ := f5 z3
        refine ix_newqW hx hb hts hown hK htk hr g1 g3 (hts _ f2) (hAO _ g5) z0 z1 (by omega) (by omega) hd hS0 ?_
        intro H1 r1 r2
        refine W.cs (by rw [hN_new]; omega) (by rw [hS_new]; omega) (kk H1 locs r1 r2)
    · cases ha
  · obtain rfl : n = 1 := eq_of_beq hn
    split at ha
    · next q r =>
      split at ha
      · next hz =>
        cases ha
        obtain ⟨ty, hty⟩ : ∃ ty, ix_aty[ha_T h q - 100]? = some ty := ⟨_, List.getElem?_eq_getElem (by rw [aty_len]; omega)⟩
        exact W.alen hx hb (ar_cell hr rfl hz.1 (by omega)) ((hK.2 _ _ (ty_at htk hty)).1 _ _) (by rw [arrV_size]) rfl rfl hd (kk H locs hr hS0)
      · cases ha
    · cases ha
      exact va_slen hx hb hX (by omega) hbA hS0 hd (kk H locs hr hS0)
    · cases ha
  · obtain rfl : n = 1 := eq_of_beq hn
    split at ha
    · next x q r =>
      split at ha
      · next hz =>
        cases ha
        have hlt : x.toNatClampNeg < ha_L h q := Nat.not_le.mp fun z => hz.2 (Or.inr z)
        refine W.iald (v := .int (ha_I h q x.toNatClampNeg)) hx hb (ar_cell hr hz.1 (by omega) (by omega)) ((hK.2 _ _ (ty_at (t := 100) htk aty_0)).1 _ _) (fun z => by cases z) (by rw [arrV_size]; exact hz.2) (by rw [arrV_read _ _ hlt]; rfl) rfl rfl hd (kk H locs hr hS0)
      · cases ha
    · next x r =>
      split at ha
      · cases ha
      · next hz =>
        cases ha
        exact va_sld hx hb hX (by omega) hbA hS0 hz hd (kk H locs hr hS0)
    · cases ha
  · obtain rfl : n = 1 := eq_of_beq hn
    split at ha
    · next x q r =>
      split at ha
      · next hz =>
        cases ha
        have hlt : x.toNatClampNeg < ha_L h q := Nat.not_le.mp fun z => hz.2 (Or.inr z)
        refine W.zald (v := .int (ha_I h q x.toNatClampNeg)) hx hb (ar_cell hr hz.1 (by omega) (by omega)) ((hK.2 _ _ (ty_at (t := 101) htk aty_1)).1 _ _) (fun z => by cases z) (by rw [arrV_size]; exact hz.2) (by rw [arrV_read _ _ hlt]; rfl) rfl rfl hd (kk H locs hr hS0)
      · cases ha
    · cases ha
  · obtain rfl : n = 1 := eq_of_beq hn
    split at ha
    · next x q r =>
      split at ha
      · next hz =>
        cases ha
        have hlt : x.toNatClampNeg < ha_L h q := Nat.not_le.mp fun z => hz.2 (Or.inr z)
        refine W.lald (v := .long (ha_J h q x.toNatClampNeg)) hx hb (ar_cell hr hz.1 (by omega) (by omega)) ((hK.2 _ _ (ty_at (t := 102) htk aty_2)).1 _ _) (fun z => by cases z) (by rw [arrV_size]; exact hz.2) (by rw [arrV_read _ _ hlt]; rfl) rfl rfl hd (kk H locs hr hS0)
      · cases ha
    · cases ha
  · obtain rfl : n = 1 := eq_of_beq hn
    split at ha
    · next x q r =>
      split at ha
      · next hz =>
        cases ha
        have hlt : x.toNatClampNeg < ha_L h q := Nat.not_le.mp fun z => hz.2.2 (Or.inr z)
        obtain ⟨g1, g2⟩ := ar_ref hz.1 hz.2.1
        have hev : ix_ev b (ha_T h q) h q x.toNatClampNeg = ix_cv b scr (va_rf (ha_R h q x.toNatClampNeg)) := by
          unfold ix_ev
          rw [if_neg (by omega), if_neg (by omega), cv_rf]
        refine W.aald (v := ix_cv b scr (va_rf (ha_R h q x.toNatClampNeg))) hx hb (ar_cell hr rfl (by omega) (by omega)) ((hK.2 _ _ (ty_at htk g2)).1 _ _) rfl (fun z => by cases z) (by rw [arrV_size]; exact hz.2.2) (by rw [arrV_read _ _ hlt, hev]) rfl rfl hd (kk H locs hr hS0)
      · cases ha
    · cases ha
  · obtain rfl : n = 1 := eq_of_beq hn
    split at ha
    · next y x q r =>
      split at ha
      · next hz =>
        cases ha
        refine W.iast hx hb (ar_cell hr hz.1 (by omega) (by omega)) ((hK.2 _ _ (ty_at (t := 100) htk aty_0)).1 _ _) (fun z => by cases z) (by rw [arrV_size]; exact hz.2) rfl rfl hd fun H1 e1 z1 o1 => ?_
        refine kk H1 _ (rep_arr hr hz.1 (by omega) (by omega) rfl rfl rfl (fun z hz => ⟨if_neg hz, rfl, rfl⟩) (fun z => ?_) e1 z1 o1) (hS0.put z1 o1 (Nat.le_add_right b q))
        show Value.int (ha_I (hs_I h q x.toNatClampNeg y) q z) = if z = x.toNatClampNeg then Value.int y else Value.int (ha_I h q z)
        rw [hI_I]
        by_cases hzx : z = x.toNatClampNeg
        · rw [if_pos ⟨rfl, hzx⟩, if_pos hzx]
        · rw [if_neg (fun w => hzx w.2), if_neg hzx]
      · cases ha
    · cases ha
  · obtain rfl : n = 1 := eq_of_beq hn
    split at ha
    · next y x q r =>
      split at ha
      · next hz =>
        cases ha
        have hy : narrow .boolean (.int y) = .int y := by rcases hz.2.1 with rfl | rfl <;> rfl
        refine W.zast hx hb (ar_cell hr hz.1 (by omega) (by omega)) ((hK.2 _ _ (ty_at (t := 101) htk aty_1)).1 _ _) (fun z => by cases z) (by rw [arrV_size]; exact hz.2.2) rfl rfl hd fun H1 e1 z1 o1 => ?_
        rw [hy] at e1
        refine kk H1 _ (rep_arr hr hz.1 (by omega) (by omega) rfl rfl rfl (fun z hz => ⟨if_neg hz, rfl, rfl⟩) (fun z => ?_) e1 z1 o1) (hS0.put z1 o1 (Nat.le_add_right b q))
        show Value.int (ha_I (hs_I h q x.toNatClampNeg y) q z) = if z = x.toNatClampNeg then Value.int y else Value.int (ha_I h q z)
        rw [hI_I]
        by_cases hzx : z = x.toNatClampNeg
        · rw [if_pos ⟨rfl, hzx⟩, if_pos hzx]
        · rw [if_neg (fun w => hzx w.2), if_neg hzx]
      · cases ha
    · cases ha
  · obtain rfl : n = 1 := eq_of_beq hn
    split at ha
    · next y x q r =>
      split at ha
      · next hz =>
        cases ha
        refine W.last hx hb (ar_cell hr hz.1 (by omega) (by omega)) ((hK.2 _ _ (ty_at (t := 102) htk aty_2)).1 _ _) (fun z => by cases z) (by rw [arrV_size]; exact hz.2) rfl rfl hd fun H1 e1 z1 o1 => ?_
        refine kk H1 _ (rep_arr hr hz.1 (by omega) (by omega) rfl rfl rfl (fun z hz => ⟨rfl, rfl, if_neg hz⟩) (fun z => ?_) e1 z1 o1) (hS0.put z1 o1 (Nat.le_add_right b q))
        show Value.long (ha_J (hs_J h q x.toNatClampNeg y) q z) = if z = x.toNatClampNeg then Value.long y else Value.long (ha_J h q z)
        rw [hJ_J]
        by_cases hzx : z = x.toNatClampNeg
        · rw [if_pos ⟨rfl, hzx⟩, if_pos hzx]
        · rw [if_neg (fun w => hzx w.2), if_neg hzx]
      · cases ha
    · cases ha
  · obtain rfl : n = 1 := eq_of_beq hn
    split at ha
    · next v x q r =>
      split at ha
      · next hz =>
        cases ha
        obtain ⟨g1, g2⟩ := ar_ref hz.1 hz.2.1
        have hlt : x.toNatClampNeg < ha_L h q := Nat.not_le.mp fun z => hz.2.2.2 (Or.inr z)
        have h0 : ¬ x < 0 := fun z => hz.2.2.2 (Or.inl z)
        have hcls := (hK.1 _ _ g1.2.1).2
        obtain ⟨kA, comp, k1, k2, k3, -⟩ := (hK.2 _ _ (ty_at htk g2)).2
        have hcomp : comp = D.1 (ix_co (ha_T h q)) := Option.some.inj (k3.symm.trans hcls.1)
        subst hcomp
        obtain ⟨kC, hkC, hkind⟩ := hcls.2
        have hvc := hr.2.1 v (rep_lt hr (by have := g1.1; omega))
        unfold ix_cell at hvc
        rw [hz.2.2.1, if_pos g1.1] at hvc
        obtain ⟨cellV, c1, c2, c3, -⟩ := hvc
        refine W.aast hx hb (ar_cell hr rfl (by omega) (by omega)) (fun z w => by cases w) (fun w => by cases w) k1 k2 rfl hkC ⟨h0, by rw [arrV_size]; exact hlt⟩ c1 (fun z w => by rw [c3] at w; cases w) (by rw [c2]; exact hkC) (by rw [c2]; exact va_assign hcls) rfl rfl hd fun H1 e1 z1 o1 => ?_
        refine kk H1 _ (rep_arr hr rfl (by omega) (by omega) rfl rfl rfl (fun z hz => ⟨rfl, if_neg hz, rfl⟩) (fun z => ?_) e1 z1 o1) (hS0.put z1 o1 (Nat.le_add_right b q))
        have t1 : ¬ ha_T h q ≤ 101 := by omega
        have t2 : ¬ ha_T h q = 102 := by omega
        simp only [ix_ev, updV, t1, t2, if_false]
        rw [hR_R]
        by_cases hzx : z = x.toNatClampNeg
        · rw [if_pos ⟨rfl, hzx⟩, if_pos hzx]; rfl
        · rw [if_neg (fun w => hzx w.2), if_neg hzx]
      · cases ha
    · cases ha
  · cases ha
end HW
end
section
def ix_wk (k : Nat) : List Cond := Cond.code (ix_nm k) (ix_by k) (ix_ml k) (ix_rt k) :: Tw
def ix_rm (k mc ms : Nat) : Room := { frames := ix_ra k, cells := mc, slots := ms, locals := ix_lo k }
def ix_Pc (D : va_G) (tys : List (ClassId × FieldType)) (b scr L : Nat) (xs : Nat → Int32) (h : ix_H) (U : State) : Prop :=
  ix_rep D tys b h U.heap ∧ va_K D vwCl tys U ∧ tys.map (fun q => q.2) = ix_aty ∧ (∀ C ∈ ix_AO, va_AO C U) ∧ (∀ q ∈ ix_NW, va_Nw (.methodLinkNest q.1 q.2.1 q.2.2.1 q.2.2.2) U) ∧ va_X scr L xs U U.heap ∧ scr < b
def ix_Qc (D : va_G) (tys : List (ClassId × FieldType)) (b scr : Nat) (o : ix_O) : Array Value → State → Outcome → State → Prop := fun _ st oc t => oc = .returned (o.1.map (ix_cv b scr)) ∧ ix_rep D tys b o.2 t.heap ∧ va_F (fun q => b ≤ q) st t
def ix_Met (l : Launch) (D : va_G) (tys : List (ClassId × FieldType)) (b scr L : Nat) (xs : Nat → Int32) (k : Nat) (as : List Value) (h : ix_H) (o : ix_O) : Prop :=
  Met l (ix_nm k) (ix_wk k) (ix_rm k (ha_N o.2 - ha_N h) (ha_S o.2 - ha_S h)) (va_Pc (as.map (ix_cv b scr)) (ix_Pc D tys b scr L xs h)) (ix_Qc D tys b scr o) (ha_N o.2 - ha_N h) (ha_S o.2 - ha_S h) (fun q => b ≤ q)
theorem Pc_blind {D : va_G} {tys : List (ClassId × FieldType)} {b scr L : Nat} {xs : Nat → Int32} {h : ix_H} {av : List Value} : FrameBlind (va_Pc av (ix_Pc D tys b scr L xs h)) := by
  intro a U g mk hq
  obtain ⟨q0, q1, q2, q3, q4, q5, q6, q7⟩ := hq
  exact ⟨q0, q1, va_K.moved (u := U) (U := U.calling g mk a) (Vm.Alike.refl U.vm) q2, q3, fun C hC => va_AO.moved (u := U) (U := U.calling g mk a) (Vm.Alike.refl U.vm) (q4 C hC), fun w hw => va_Nw.same rfl (u := U) (U := U.calling g mk a) rfl (q5 w hw), va_X.moved (u := U) (U := U.calling g mk a) (Vm.Alike.refl U.vm) q6, q7⟩
theorem good_wk {k : Nat} (hk : k < ix_M) : GoodIn Tw (ix_wk k) := by
  intro w hw
  have h1 : w ∈ Tw := by
    rcases List.mem_cons.mp hw with rfl | h
    · exact (md_ok hk).1
    · exact h
  exact ⟨h1, good_of_word (tw_good w h1)⟩
theorem sp_inv : ∀ (n : Nat) (st as r : List Value), ix_sp n st = some (as, r) → st = as.reverse ++ r ∧ as.length = n := by
  intro n
  induction n with
  | zero => intro st as r h; simp only [ix_sp, Option.some.injEq, Prod.mk.injEq] at h; obtain ⟨rfl, rfl⟩ := h; exact ⟨rfl, rfl⟩
  | succ n ih =>
    intro st as r h
    cases st with
    | nil => simp [ix_sp] at h
    | cons v st =>
      simp only [ix_sp] at h
      split at h
      · next as' q hq =>
        simp only [Option.some.injEq, Prod.mk.injEq] at h
        obtain ⟨rfl, rfl⟩ := h
        obtain ⟨rfl, h2⟩ := ih st as' q hq
        exact ⟨by simp, by simp [h2]⟩
      · cases h
theorem cq_inv {k a pc : Nat} {as r lv : List Value} {h : ix_H} {rc : Bool} {q : ix_Q} (hq : ix_cq k a as r pc lv h rc = some (.inr q)) : ix_ra a < ix_ra k ∧ 19 + ix_ml a + ix_lo a ≤ ix_lo k ∧ ix_cs r ≤ 8 ∧ q = (a, as, (pc + 3, lv, r, h)) ∧ (rc = true → ∃ p as', as = .ref p :: as' ∧ ha_T h p = ix_mt a) := by
  unfold ix_cq at hq
  split at hq
  · next hz =>
    split at hq
    · split at hq
      · next hT => cases hq; exact ⟨hz.1, hz.2.1, hz.2.2, rfl, fun _ => ⟨_, _, rfl, hT⟩⟩
      · cases hq
    · cases hq; exact ⟨hz.1, hz.2.1, hz.2.2, rfl, fun z => by cases z⟩
    · cases hq
  · cases hq
section CW
variable {p : Program} {l : Launch} {e : Env} {R : Room} {s : State} {m : MethodId} {args : Array Value} {below : List Frame} {meth : Method} {c : Code} {H : Heap} {locs : List Loc} {cells slots : Nat} {Q : State → Prop} {pc n b scr L k n0 s0 : Nat} {xs : Nat → Int32} {ls : Array Slot} {st lv : List Value} {D : va_G} {tys : List (ClassId × FieldType)} {h : ix_H} {i : Instr}
theorem ix_callK {mc ms : Nat} {st0 rest : List Value} {Qa : State → Outcome → State → Prop} {free : Addr → Prop}
    (hr : va_Run p l e R s m args below meth c H locs cells slots mc ms (F0 m pc ls st0) rest Qa free)
    (kk : ∀ (v : Option Value) (st₀ t : State) (Lc : List Loc), st₀.heap = H → (∀ q ∈ Lc, free q.base) → Qa st₀ (.returned v) t → W p l e R s m args below meth c t.heap (locs ++ Lc) (cells + mc) (slots + ms) Q (F0 m (pc + 3) ls (v.toList ++ rest))) :
    W p l e R s m args below meth c H locs cells slots Q (F0 m pc ls st0) := by
  intro T hT X
  obtain ⟨v, st₀, t, T', Lc, h0, X', hL, e1, e2, hq, st⟩ := hr T hT X
  obtain ⟨t2, a1, b1⟩ := kk v st₀ t Lc h0 hL hq T' e1 X'
  exact ⟨t2, st t2 a1, b1⟩
theorem map_toList (f : Value → Value) (o : Option Value) : (o.map f).toList = o.toList.map f := by cases o <;> rfl
set_option maxHeartbeats 1000000 in
theorem ix_callW (CX : ix_Cx p s m args meth c k D tys b scr L xs) (hfr : ix_ra k ≤ R.frames) (hlo : ix_lo k ≤ R.locals) (hd : decode (ix_by k) pc = .ok (i, n)) (hn : ix_len i n = true) (hsz : ls.size = ix_ml k) (hr : ix_rep D tys b h H) (hS0 : va_S (fun z => b ≤ z) s.heap H locs) {q : ix_Q} {o : ix_O} (ha : ix_inv k i pc lv st h = some (.inr q)) (hM : q.1 < ix_M → ix_Met l D tys b scr L xs q.1 q.2.1 h o) (hN0 : n0 ≤ ha_N h) (hSS0 : s0 ≤ ha_S h) (hgN : ha_N h ≤ ha_N o.2) (hgS : ha_S h ≤ ha_S o.2) (hcells : ha_N o.2 - n0 ≤ R.cells) (hslots : ha_S o.2 - s0 ≤ R.slots)
    (kk : ∀ (H1 : Heap) (locs1 : List Loc), ix_rep D tys b o.2 H1 → va_S (fun z => b ≤ z) s.heap H1 locs1 → W p l e R s m args below meth c H1 locs1 (ha_N o.2 - n0) (ha_S o.2 - s0) Q (F0 m q.2.2.1 ls ((o.1.toList ++ q.2.2.2.2.1).map (ix_cv b scr)))) : W p l e R s m args below meth c H locs (ha_N h - n0) (ha_S h - s0) Q (F0 m pc ls (st.map (ix_cv b scr))) := by
  obtain ⟨hx, hb, hml, hts, hown, hnm, hK, htk, hAO, hNW, hX, hsb, hbs⟩ := CX
  have hXH : va_X scr L xs s H := hX.kept (hS0.2.1 scr (by omega) (fun z => by have : b ≤ scr := z; omega))
  have hPcU : ∀ (av : List Value) (U : State), U.heap = H → s.WarmedH U.vm → va_Pc av (ix_Pc D tys b scr L xs h) av.toArray U := fun av U hU hW =>
    ⟨rfl, by rw [hU]; exact hr, hK.moved hW.alike, htk, fun C hC => (hAO C hC).moved hW.alike, fun w hw => (hNW w hw).warmM hW, by rw [hU]; exact hXH.moved hW.alike, hsb⟩
  have fin : ∀ (as r : List Value), q = (q.1, as, (pc + 3, lv, r, h)) → va_Run p l e R s m args below meth c H locs (ha_N h - n0) (ha_S h - s0) (ha_N o.2 - ha_N h) (ha_S o.2 - ha_S h) (F0 m pc ls (st.map (ix_cv b scr))) (r.map (ix_cv b scr)) (ix_Qc D tys b scr o (as.map (ix_cv b scr)).toArray) (fun z => b ≤ z) → W p l e R s m args below meth c H locs (ha_N h - n0) (ha_S h - s0) Q (F0 m pc ls (st.map (ix_cv b scr))) := by
    intro as r hq hrun
    refine ix_callK hrun ?_
    intro v st₀ t Lc h0 hL hQ
    obtain ⟨e1, e2, e3⟩ := hQ
    obtain rfl := Outcome.returned.inj e1
    rw [map_toList, ← List.map_append]
    have := kk t.heap (locs ++ Lc) e2 ⟨?_, ?_, ?_⟩
    · rw [hq] at this
      exact W.cs (by omega) (by omega) this
    · have := e3.1; rw [h0] at this; exact Nat.le_trans hS0.1 this
    · intro z h1 h2
      have h3 := e3.2 z (by rw [h0]; exact Nat.lt_of_lt_of_le h1 hS0.1) h2
      rw [h3, h0]
      exact hS0.2.1 z h1 h2
    · intro z hz
      rcases List.mem_append.mp hz with hz | hz
      · exact hS0.2.2 z hz
      · exact hL z hz
  have hroom : ∀ a, ix_ra a < ix_ra k → 19 + ix_ml a + ix_lo a ≤ ix_lo k → ix_ra a + 1 ≤ R.frames ∧ 8 + (ix_ml a + 11) + ix_lo a ≤ R.locals := by
    intro a h1 h2
    omega
  have hff : ha_N h - n0 + (ha_N o.2 - ha_N h) ≤ R.cells ∧ ha_S h - s0 + (ha_S o.2 - ha_S h) ≤ R.slots := by omega
  have hrs : ∀ {r : List Value}, ix_cs r ≤ 8 → 2 * (F0 m pc ls (st.map (ix_cv b scr))).monitorRoom + ((r.map (ix_cv b scr)).map fun v => v.category).sum ≤ 8 := by
    intro r hr8
    refine lv_room ?_
    rw [cv_cs]
    exact hr8
  unfold ix_inv at ha
  split at ha
  · next x =>
    obtain rfl : n = 3 := eq_of_beq hn
    split at ha
    · split at ha
      · split at ha
        · cases ha
        · cases ha
      · cases ha
    · split at ha
      · next hz =>
        split at ha
        · next as r hsp =>
          obtain ⟨c1, c5, c2, c3, c4⟩ := cq_inv ha
          obtain ⟨pp, as', rfl, hT⟩ := c4 rfl
          obtain ⟨rfl, hlen⟩ := sp_inv _ _ _ _ hsp
          subst c3
          refine fin _ r rfl ?_
          have hst : ((Value.ref pp :: as').reverse ++ r).map (ix_cv b scr) = (as'.map (ix_cv b scr)).reverse ++ .ref (b + pp) :: r.map (ix_cv b scr) := by simp [ix_cv]
          rcases hz with hz | hz
          · obtain ⟨d1, d2, d4, d5, d6, d7, d8⟩ := cp_z hz (by decide)
            have md := md_ok d1
            refine va_runI (Ts := Tw) (own := ix_ocl (ix_on k)) (nL := ix_ml k) (As := as'.map (ix_cv b scr)) (b := b + pp) (index := x) (bytes := ix_by (ix_cp k x).2.1) (maxL := ix_ml (ix_cp k x).2.1) (n := ix_pn (ix_cp k x).2.1) ⟨hx, hb, hml, hown, hts⟩ (hM d1) ⟨callB_of (ws' := Tw) _ hts (good_wk d1) (by unfold ix_wk; rw [d4]) rfl rfl (hts _ d8) (hts _ d6) ⟨md.2.2.2.1, md.2.2.2.2.1, md.2.2.2.2.2.1⟩ (hroom _ c1 c5), d5, hts _ d7⟩ ⟨Pc_blind, hPcU _⟩ rfl (by simp at hlen ⊢; omega) hsz hst (hrs c2) hd hff
          · obtain ⟨d1, d2, d4, d5, ⟨host, d6⟩, d7, d8⟩ := cp_z hz (by decide)
            have md := md_ok d1
            refine va_runIN (Ts := Tw) (own := ix_ocl (ix_on k)) (nL := ix_ml k) (As := as'.map (ix_cv b scr)) (b := b + pp) (index := x) (host := host) (bytes := ix_by (ix_cp k x).2.1) (maxL := ix_ml (ix_cp k x).2.1) (n := ix_pn (ix_cp k x).2.1) ⟨hx, hb, hml, hown, hts⟩ (hM d1) ⟨va_cnB (ws' := Tw) _ hts (good_wk d1) (by unfold ix_wk; rw [d4]) rfl rfl (hNW (ix_ocl (ix_on k), x, ix_nm (ix_cp k x).2.1, host) d6) (hts _ d8) ⟨md.2.2.2.1, md.2.2.2.2.1, md.2.2.2.2.2.1⟩ (hroom _ c1 c5), d5, hts _ d7⟩ ⟨Pc_blind, hPcU _⟩ rfl (by simp at hlen ⊢; omega) hsz hst (hrs c2) hd hff
        · cases ha
      · cases ha
  · next x =>
    obtain rfl : n = 3 := eq_of_beq hn
    split at ha
    · next hz =>
      split at ha
      · next as r hsp =>
        obtain ⟨c1, c5, c2, c3, c4⟩ := cq_inv ha
        obtain ⟨pp, as', rfl, hT⟩ := c4 rfl
        obtain ⟨rfl, hlen⟩ := sp_inv _ _ _ _ hsp
        subst c3
        refine fin _ r rfl ?_
        have hst : ((Value.ref pp :: as').reverse ++ r).map (ix_cv b scr) = (as'.map (ix_cv b scr)).reverse ++ .ref (b + pp) :: r.map (ix_cv b scr) := by simp [ix_cv]
        obtain ⟨d1, d2, d4, d5, d6, d7, d8, d9⟩ := cp_z hz (by decide)
        have md := md_ok d1
        have hcell := hr.2.1 pp (rep_lt hr (by have := d4.1; omega))
        unfold ix_cell at hcell
        rw [hT, if_pos d4.1] at hcell
        obtain ⟨cellB, q1, q2, q3, -⟩ := hcell
        refine va_runV (Ts := Tw) (own := ix_ocl (ix_on k)) (C := (ix_nm (ix_cp k x).2.1).cls) (nL := ix_ml k) (As := as'.map (ix_cv b scr)) (b := b + pp) (index := x) (bytes := ix_by (ix_cp k x).2.1) (maxL := ix_ml (ix_cp k x).2.1) (ret := ix_rt (ix_cp k x).2.1) (n := ix_pn (ix_cp k x).2.1) ⟨hx, hb, hml, hown, hts⟩ (hM d1) ⟨callB_of (ws' := Tw) _ hts (good_wk d1) rfl rfl rfl (hts _ d9) (hts _ d6) ⟨md.2.2.2.1, md.2.2.2.2.1, md.2.2.2.2.2.1⟩ (hroom _ c1 c5), hts _ d7, hts _ d8⟩ ⟨Pc_blind, ⟨cellB, q1, by rw [q3]; rfl, by rw [q2, ← d5]; exact (hK.1 _ _ d4.2.1).2.1⟩, hPcU _⟩ rfl (by simp at hlen ⊢; omega) hsz hst (hrs c2) hd hff
      · cases ha
    · cases ha
  · next x =>
    obtain rfl : n = 3 := eq_of_beq hn
    split at ha
    · split at ha
      · split at ha
        · cases ha
        · cases ha
      · cases ha
    · split at ha
      · split at ha
        · split at ha
          · cases ha
          · cases ha
        · cases ha
      · split at ha
        · next hz =>
          split at ha
          · next as r hsp =>
            obtain ⟨c1, c5, c2, c3, -⟩ := cq_inv ha
            obtain ⟨rfl, hlen⟩ := sp_inv _ _ _ _ hsp
            subst c3
            refine fin _ r rfl ?_
            have hst : (as.reverse ++ r).map (ix_cv b scr) = (as.map (ix_cv b scr)).reverse ++ r.map (ix_cv b scr) := by simp
            obtain ⟨d1, d2, d6, d7, d8⟩ := cp_z hz (by decide)
            have md := md_ok d1
            refine va_runS (Ts := Tw) (own := ix_ocl (ix_on k)) (nL := ix_ml k) (As := as.map (ix_cv b scr)) (index := x) (bytes := ix_by (ix_cp k x).2.1) (maxL := ix_ml (ix_cp k x).2.1) (ret := ix_rt (ix_cp k x).2.1) (n := ix_pn (ix_cp k x).2.1) ⟨hx, hb, hml, hown, hts⟩ (hM d1) ⟨callB_of (ws' := Tw) _ hts (good_wk d1) rfl rfl rfl (hts _ d8) (hts _ d6) ⟨md.2.2.2.1, md.2.2.2.2.1, md.2.2.2.2.2.1⟩ (hroom _ c1 c5), hts _ d7⟩ ⟨Pc_blind, hPcU _⟩ rfl (by simp at hlen ⊢; omega) hsz hst (hrs c2) hd hff
          · cases ha
        · cases ha
  · cases ha
theorem ix_ilW (CX : ix_Cx p s m args meth c k D tys b scr L xs) (hfr : ix_ra k ≤ R.frames) (hlo : ix_lo k ≤ R.locals) (hd : decode (ix_by k) pc = .ok (i, n)) (hn : ix_len i n = true) (hsz : ls.size = ix_ml k) (hc : cells ≤ R.cells) (hs : slots ≤ R.slots) {g : ix_F} (ha : ix_inv k i pc lv st h = some (.inl g))
    (kk : W p l e R s m args below meth c H locs cells slots Q (F0 m g.1 ls (g.2.2.1.map (ix_cv b scr)))) : W p l e R s m args below meth c H locs cells slots Q (F0 m pc ls (st.map (ix_cv b scr))) := by
  obtain ⟨hx, hb, hml, hts, hown, hnm, hK, htk, hAO, hNW, hX, hsb, hbs⟩ := CX
  have hcq : ∀ (a : Nat) (as r : List Value) (rc : Bool), ¬ ix_cq k a as r pc lv h rc = some (.inl g) := by
    intro a as r rc hz
    unfold ix_cq at hz
    split at hz
    · split at hz
      · split at hz
        · cases hz
        · cases hz
      · cases hz
      · cases hz
    · cases hz
  unfold ix_inv at ha
  split at ha
  · next x =>
    obtain rfl : n = 3 := eq_of_beq hn
    split at ha
    · next hz =>
      split at ha
      · next a r =>
        split at ha
        · next h8 =>
          cases ha
          obtain ⟨g1, g2, g3⟩ := cp_z hz (by decide)
          have h9 := cv_cs b scr r
          exact W.objInit hx hb hown (hts _ g1) (hts _ g2) (hts _ g3) rfl (by rw [hml]; exact hsz) rfl hd (by omega) (by show 2 * 0 + _ + 12 ≤ _; omega) kk
        · cases ha
      · cases ha
    · split at ha
      · split at ha
        · exact absurd ha (hcq _ _ _ _)
        · cases ha
      · cases ha
  · split at ha
    · split at ha
      · exact absurd ha (hcq _ _ _ _)
      · cases ha
    · cases ha
  · next x =>
    obtain rfl : n = 3 := eq_of_beq hn
    split at ha
    · next hz =>
      split at ha
      · next y z r =>
        split at ha
        · next h8 =>
          cases ha
          obtain ⟨g1, g2, g3, g4⟩ := cp_z hz (by decide)
          have h9 := cv_cs b scr r
          exact va_mmax hx hb (by rw [hml]; exact hsz.symm) hown (hts _ g1) (hts _ g2) (hts _ g3) (hts _ g4) (by omega) (by omega) hc hs hd kk
        · cases ha
      · cases ha
    · split at ha
      · next hz =>
        split at ha
        · next y z r =>
          split at ha
          · next h8 =>
            cases ha
            obtain ⟨g1, g2, g3, g4⟩ := cp_z hz (by decide)
            have h9 := cv_cs b scr r
            exact va_mmin hx hb (by rw [hml]; exact hsz.symm) hown (hts _ g1) (hts _ g2) (hts _ g3) (hts _ g4) (by omega) (by omega) hc hs hd kk
          · cases ha
        · cases ha
      · split at ha
        · split at ha
          · exact absurd ha (hcq _ _ _ _)
          · cases ha
        · cases ha
  · cases ha
theorem ix_runW {f0 d : Nat} (CX : ix_Cx p s m args meth c k D tys b scr L xs) (hfr : ix_ra k ≤ R.frames) (hlo : ix_lo k ≤ R.locals)
    (hcall : ∀ k as h o, k < ix_M → ix_ex xs L f0 d k as h = some o → ix_Met l D tys b scr L xs k as h o) (o : ix_O) (hoc : ha_N o.2 - n0 ≤ R.cells) (hos : ha_S o.2 - s0 ≤ R.slots)
    (hret : ∀ (pc n : Nat) (i : Instr) (st : List Value) (ls : Array Slot) (H : Heap) (locs : List Loc), decode (ix_by k) pc = .ok (i, n) → ix_len i n = true → ix_rtn (ix_rk k) i st = some o.1 → ix_rep D tys b o.2 H → va_S (fun q => b ≤ q) s.heap H locs → W p l e R s m args below meth c H locs (ha_N o.2 - n0) (ha_S o.2 - s0) Q (F0 m pc ls (st.map (ix_cv b scr)))) :
    ∀ (f pc : Nat) (lv st : List Value) (h : ix_H) (H : Heap) (ls : Array Slot) (locs : List Loc),
      ix_run (ix_ex xs L f0 d) xs L k f (pc, lv, st, h) = some o → ix_lh ls (ix_ml k) b scr (ix_lg k) lv → ix_rep D tys b h H → va_S (fun q => b ≤ q) s.heap H locs → n0 ≤ ha_N h → s0 ≤ ha_S h →
      W p l e R s m args below meth c H locs (ha_N h - n0) (ha_S h - s0) Q (F0 m pc ls (st.map (ix_cv b scr))) := by
  have hgr := run_grows (call := ix_ex xs L f0 d) (fun k as h o hq => ex_grows xs L f0 d k as h o hq) xs L k
  have ⟨hx, hb, hml, hts, hown, hnm, hK, htk, hAO, hNW, hX, hsb, hbs⟩ := CX
  intro f
  induction f with
  | zero => intro pc lv st h H ls locs hr; simp [ix_run] at hr
  | succ f ih =>
    intro pc lv st h H ls locs hrun hl hr hS hn0 hs0
    have g0 := hgr (f + 1) _ o hrun
    simp only [ix_run] at hrun
    split at hrun
    · cases hrun
    · next g hs =>
      obtain ⟨i, n, hd, hn, hz⟩ := step_inv hs
      rcases do_inv hz with ⟨q, hq, e⟩ | ⟨q, hq, e⟩ | ⟨q, hq, e⟩ | ⟨q, hq, e⟩ | ⟨q, hq, e⟩ | ⟨q, hq, e⟩ | ⟨q, hq, e⟩
      · cases e
        exact ix_aluW hx hb hd hn hown (fun x h1 => hts _ (cp_z h1 (by decide))) (fun x h1 => hts _ (cp_z h1 (by decide))) hq (ih _ _ _ _ _ _ _ hrun hl hr hS hn0 hs0)
      · cases e
        exact ix_brW hx hb hd hn hq (ih _ _ _ _ _ _ _ hrun hl hr hS hn0 hs0)
      · cases e
        exact ix_lcW hx hb hd hn hl hq (fun ls' hl' => ih _ _ _ _ _ _ _ hrun hl' hr hS hn0 hs0)
      · cases e
        have g1 := hgr f _ o hrun
        have g2 := hp_grows hq
        dsimp only at g1 g2
        refine ix_hpW CX hd hn hr hS hq hn0 hs0 (by omega) (by omega) (fun H1 locs1 r1 r2 => ih _ _ _ _ _ _ _ hrun hl r1 r2 (by omega) (by omega))
      · cases e
        dsimp only at g0
        have := ix_ilW (l := l) (e := e) (below := below) (H := H) (locs := locs) (cells := ha_N h - n0) (slots := ha_S h - s0) (Q := Q) (ls := ls) CX hfr hlo hd hn hl.1.1 (by omega) (by omega) hq
        have h5 : g.2.1 = lv ∧ g.2.2.2 = h := inv_heap.1 g hq
        refine this ?_
        obtain ⟨g1, g2, g3, g4⟩ := g
        obtain ⟨rfl, rfl⟩ := h5
        exact ih _ _ _ _ _ _ _ hrun hl hr hS hn0 hs0
      · cases e
      · cases e
    · next q hs =>
      obtain ⟨i, n, hd, hn, hz⟩ := step_inv hs
      split at hrun
      · cases hrun
      · next o1 ho =>
        have g1 := hgr f _ o hrun
        dsimp only at g1
        rcases do_inv hz with ⟨q', hq, e⟩ | ⟨q', hq, e⟩ | ⟨q', hq, e⟩ | ⟨q', hq, e⟩ | ⟨q', hq, e⟩ | ⟨q', hq, e⟩ | ⟨q', hq, e⟩
        · cases e
        · cases e
        · cases e
        · cases e
        · cases e
        · cases e
          have h4 := (inv_heap.2 q hq).2
          dsimp only at h4
          rw [h4] at ho
          have g3 := ex_grows xs L f0 d _ _ _ _ ho
          have h5 : q.2.2.2.1 = lv := (inv_heap.2 q hq).1
          refine ix_callW CX hfr hlo hd hn hl.1.1 hr hS hq (fun hm => hcall _ _ _ _ hm ho) hn0 hs0 g3.1 g3.2 (by omega) (by omega) (fun H1 locs1 r1 r2 => ?_)
          refine ih _ _ _ _ _ _ _ hrun ?_ r1 r2 (by omega) (by omega)
          rw [h5]
          exact hl
        · cases e
    · next o1 hs =>
      obtain ⟨i, n, hd, hn, hz⟩ := step_inv hs
      cases hrun
      rcases do_inv hz with ⟨q', hq, e⟩ | ⟨q', hq, e⟩ | ⟨q', hq, e⟩ | ⟨q', hq, e⟩ | ⟨q', hq, e⟩ | ⟨q', hq, e⟩ | ⟨q', hq, e⟩
      · cases e
      · cases e
      · cases e
      · cases e
      · cases e
      · cases e
      · cases e
        exact hret pc n i st ls H locs hd hn hq hr hS
end CW
theorem la_len (b scr : Nat) : ∀ as : List Value, (lg_sl (as.map (ix_cv b scr))).length = (ix_la as).length := by
  intro as
  induction as with
  | nil => rfl
  | cons v vs ih =>
    rw [List.map_cons]
    unfold lg_sl at ih ⊢
    rw [List.flatMap_cons, List.length_append, ih]
    simp only [ix_la, cv_cat]
    split <;> simp <;> omega
theorem la_args (b scr : Nat) : ∀ (as : List Value) (base i : Nat) (v : Value), (ix_la as)[i]? = some v → ix_nu v = false → (base + i, ix_cv b scr v) ∈ lv_args base (as.map (ix_cv b scr)) := by
  intro as
  induction as with
  | nil => intro base i v h; simp [ix_la] at h
  | cons w ws ih =>
    intro base i v h hv
    rw [List.map_cons]
    simp only [ix_la] at h
    simp only [lv_args, cv_cat]
    split at h
    · next hc =>
      rw [if_pos hc]
      match i, h with
      | 0, h => cases h; exact List.mem_cons_self
      | 1, h => cases h; cases hv
      | j + 2, h =>
        refine List.mem_cons_of_mem _ ?_
        have := ih (base + 2) j v h hv
        rwa [show base + (j + 2) = base + 2 + j by omega]
    · next hc =>
      rw [if_neg hc]
      match i, h with
      | 0, h => cases h; exact List.mem_cons_self
      | j + 1, h =>
        refine List.mem_cons_of_mem _ ?_
        have := ih (base + 1) j v h hv
        rwa [show base + (j + 1) = base + 1 + j by omega]
theorem lh_entry {b scr n : Nat} {lg : List Nat} {as : List Value} {ls : Array Slot} (hl : lv_has ls n (lv_args 0 (as.map (ix_cv b scr)))) (hn : (ix_la as).length ≤ n) (hg : ix_lgk lg 0 (ix_la as) = true) : ix_lh ls n b scr lg (ix_l0 as n) := by
  refine ⟨⟨hl.1, hl.2.1, fun q hq => ?_⟩, ?_, fun j w hj hw => ?_⟩
  · obtain ⟨v, hv, hz, he⟩ := pr_mem.mp hq
    unfold ix_l0 at hv
    by_cases hlt : q.1 < (ix_la as).length
    · rw [List.getElem?_append_left hlt] at hv
      have := hl.2.2 _ (la_args b scr as 0 q.1 v hv hz)
      rw [Nat.zero_add] at this
      rw [he]
      exact this
    · rw [List.getElem?_append_right (by omega)] at hv
      have h2 := List.eq_of_mem_replicate (List.mem_of_getElem? hv)
      subst h2
      cases hz
  · unfold ix_l0
    rw [List.length_append, List.length_replicate]
    omega
  · unfold ix_l0 at hj
    by_cases hlt : j < (ix_la as).length
    · rw [List.getElem?_append_left hlt] at hj
      have := lgk_at _ 0 hg j w hj hw
      rwa [Nat.zero_add] at this
    · rw [List.getElem?_append_right (by omega)] at hj
      have h2 := List.eq_of_mem_replicate (List.mem_of_getElem? hj)
      subst h2
      cases hw
theorem ok0_inv {k : Nat} {as : List Value} (h : ix_ok0 k as = true) : k < ix_M ∧ (ix_la as).length ≤ ix_ml k ∧ as.length = ix_np k ∧ ix_lgk (ix_lg k) 0 (ix_la as) = true := by
  unfold ix_ok0 at h
  simp only [Bool.and_eq_true] at h
  exact ⟨Nat.le_of_ble_eq_true h.1, Nat.le_of_ble_eq_true h.2.1, Nat.eq_of_beq_eq_true h.2.2.1, h.2.2.2⟩
set_option maxHeartbeats 1000000 in
theorem ix_sound (l : Launch) (D : va_G) (tys : List (ClassId × FieldType)) (b scr L : Nat) (xs : Nat → Int32) (f : Nat) : ∀ (d k : Nat) (as : List Value) (h : ix_H) (o : ix_O), ix_ex xs L f d k as h = some o → ix_Met l D tys b scr L xs k as h o := by
  intro d
  induction d with
  | zero => intro k as h o hx; simp [ix_ex] at hx
  | succ d ih =>
    intro k as h o hx
    have hgr := ex_grows xs L f (d + 1) k as h o hx
    simp only [ix_ex] at hx
    split at hx
    · next hok =>
      obtain ⟨hk, hla, hnp, hlg⟩ := ok0_inv hok
      have md := md_ok hk
      refine Met.ofW (cc := ix_by k) (maxL := ix_ml k) (ret := ix_rt k) md.2.1 rfl ?_
      intro p e s m args below meth c s₁ B hml hv
      obtain ⟨rfl, h1, h2, h3, h4, h5, h6, h7⟩ := hv
      have hts := atoms_spec (ws := ix_wk k) B.pre
      have CX : ix_Cx p s m (as.map (ix_cv b scr)).toArray meth c k D tys b scr L xs := ⟨B.exec, B.bytes, hml, fun w hw => hts w (List.mem_cons_of_mem _ hw), by rw [← md.2.2.1]; exact findClass_of_methodNamed B.named, fun t ht => ⟨(name_of_methodNamed B.named B.method).1.trans (md.2.2.2.2.2.2.2 t ht).1, by rw [← md.2.2.1]; exact (md.2.2.2.2.2.2.2 t ht).2⟩, h2, h3, h4, h5, h6, h7, by rw [h1.1]; omega⟩
      have hl := lv_entry (as.map (ix_cv b scr)) (n := ix_ml k) (by rw [la_len]; exact hla)
      rw [lg_entry_eq]
      generalize (lg_sl (as.map (ix_cv b scr)) ++ List.replicate (ix_ml k - (lg_sl (as.map (ix_cv b scr))).length) Slot.unset).toArray = ls at hl ⊢
      have hlh := lh_entry (lg := ix_lg k) hl hla hlg
      refine W.cs (cells' := ha_N h - ha_N h) (slots' := ha_S h - ha_S h) (by omega) (by omega) ?_
      have hlocks := B.notSynchronized
      have hr := B.returns
      refine ix_runW (f0 := f) (d := d) (n0 := ha_N h) (s0 := ha_S h) CX (Nat.le_refl _) (Nat.le_refl _) (fun k as h o hm hq => ih k as h o hq) o (Nat.le_refl _) (Nat.le_refl _) ?_ f 0 _ [] h s.heap ls [] hx hlh h1 va_S.rf (Nat.le_refl _) (Nat.le_refl _)
      intro pc n i st ls H locs hd hn hrt hrep hS
      have hq : ∀ t : State, t.heap = H → s.WarmedH t.vm → ix_Qc D tys b scr o (as.map (ix_cv b scr)).toArray s (.returned (o.1.map (ix_cv b scr))) t := fun t ht _ => ⟨rfl, by rw [ht]; exact hrep, hS.F ht⟩
      have hrok := md.2.2.2.2.2.2.1
      unfold ix_rtn at hrt
      split at hrt
      · obtain rfl : n = 1 := eq_of_beq hn
        split at hrt
        · next hz =>
          obtain rfl : st = [] := List.isEmpty_iff.mp hz.2
          have he : o.1 = none := (Option.some.inj hrt).symm
          rw [he] at hq
          exact W.vret CX.1 CX.2.1 (hr.trans (rok_0 hrok hz.1)) hq hS.2.2 hd hlocks
        · cases hrt
      · obtain rfl : n = 1 := eq_of_beq hn
        split at hrt
        · next x =>
          split at hrt
          · next hz =>
            have he : o.1 = some (.int x) := (Option.some.inj hrt).symm
            rw [he] at hq
            rcases hz with hz | ⟨hz, hx01⟩
            · exact W.iret CX.1 CX.2.1 (hr.trans (rok_1 hrok hz)) hq hS.2.2 hd hlocks
            · exact W.zret CX.1 CX.2.1 (hr.trans (rok_2 hrok hz)) (by rcases hx01 with rfl | rfl <;> rfl) hq hS.2.2 hd hlocks
          · cases hrt
        · cases hrt
      · obtain rfl : n = 1 := eq_of_beq hn
        split at hrt
        · next x =>
          split at hrt
          · next hz =>
            have he : o.1 = some (.long x) := (Option.some.inj hrt).symm
            rw [he] at hq
            exact W.lret CX.1 CX.2.1 (hr.trans (rok_3 hrok hz)) hq hS.2.2 hd hlocks
          · cases hrt
        · cases hrt
      · obtain rfl : n = 1 := eq_of_beq hn
        split at hrt
        · split at hrt
          · next hz =>
            have he : o.1 = some .null := (Option.some.inj hrt).symm
            rw [he] at hq
            obtain ⟨rt, h8, h9⟩ := rok_4 hrok hz
            exact W.aret CX.1 CX.2.1 (hr.trans h8) h9 (Or.inl rfl) hq hS.2.2 hd hlocks
          · cases hrt
        · next x =>
          split at hrt
          · next hz =>
            have he : o.1 = some (.ref x) := (Option.some.inj hrt).symm
            rw [he] at hq
            obtain ⟨rt, h8, h9⟩ := rok_4 hrok hz
            exact W.aret CX.1 CX.2.1 (hr.trans h8) h9 (Or.inr ⟨_, rfl⟩) hq hS.2.2 hd hlocks
          · cases hrt
        · cases hrt
      · cases hrt
    · cases hx
theorem Ex_sound (l : Launch) (D : va_G) (tys : List (ClassId × FieldType)) (b scr L : Nat) (xs : Nat → Int32) {k : Nat} {as : List Value} {h : ix_H} {o : ix_O} (hx : Ex xs L k as h o) : ix_Met l D tys b scr L xs k as h o := by
  obtain ⟨f, d, hx⟩ := hx
  exact ix_sound l D tys b scr L xs f d k as h o hx
end
