section
-- ===== PART A: goes FIRST, ahead of the names: the tables' words, and 'selects' of the private methods out of them =====
/-- a private method of a class that the tables say can be made, by its rows of tables_1 -/
def lw_okq (q : MethodName × Nat) : Prop := (q.1.cls ≠ "java/lang/invoke/MethodHandle" ∧ q.1.cls ≠ "java/lang/invoke/VarHandle") ∧ Cond.instantiable q.1.cls q.2 ∈ tables_1 ∧ Cond.privateMethod q.1 ∈ tables_1 ∧ Cond.instanceMethod q.1 ∈ tables_1
theorem lw_p0 : lw_okq (⟨"PollYard", "makeTask", "(I)I"⟩, 14) := ⟨⟨by decide +kernel, by decide +kernel⟩, List.mem_of_getElem? (i := 11) (by decide +kernel), List.mem_of_getElem? (i := 216) (by decide +kernel), List.mem_of_getElem? (i := 217) (by decide +kernel)⟩
theorem lw_p1 : lw_okq (⟨"PollYard", "injectWoken", "()V"⟩, 14) := ⟨⟨by decide +kernel, by decide +kernel⟩, List.mem_of_getElem? (i := 11) (by decide +kernel), List.mem_of_getElem? (i := 273) (by decide +kernel), List.mem_of_getElem? (i := 274) (by decide +kernel)⟩
theorem lw_p2 : lw_okq (⟨"PollYard", "takeTurn", "(LPollYard$Worker;)I"⟩, 14) := ⟨⟨by decide +kernel, by decide +kernel⟩, List.mem_of_getElem? (i := 11) (by decide +kernel), List.mem_of_getElem? (i := 285) (by decide +kernel), List.mem_of_getElem? (i := 286) (by decide +kernel)⟩
theorem lw_p3 : lw_okq (⟨"PollYard", "nextTask", "(LPollYard$Worker;)I"⟩, 14) := ⟨⟨by decide +kernel, by decide +kernel⟩, List.mem_of_getElem? (i := 11) (by decide +kernel), List.mem_of_getElem? (i := 289) (by decide +kernel), List.mem_of_getElem? (i := 290) (by decide +kernel)⟩
theorem lw_p4 : lw_okq (⟨"PollYard$Row", "removeAt", "(I)V"⟩, 2) := ⟨⟨by decide +kernel, by decide +kernel⟩, List.mem_of_getElem? (i := 55) (by decide +kernel), List.mem_of_getElem? (i := 306) (by decide +kernel), List.mem_of_getElem? (i := 307) (by decide +kernel)⟩
theorem lw_p5 : lw_okq (⟨"PollYard", "steal", "(LPollYard$Worker;)I"⟩, 14) := ⟨⟨by decide +kernel, by decide +kernel⟩, List.mem_of_getElem? (i := 11) (by decide +kernel), List.mem_of_getElem? (i := 310) (by decide +kernel), List.mem_of_getElem? (i := 311) (by decide +kernel)⟩
theorem lw_p6 : lw_okq (⟨"PollYard", "taskAt", "(I)LPollYard$Task;"⟩, 14) := ⟨⟨by decide +kernel, by decide +kernel⟩, List.mem_of_getElem? (i := 11) (by decide +kernel), List.mem_of_getElem? (i := 314) (by decide +kernel), List.mem_of_getElem? (i := 315) (by decide +kernel)⟩
theorem lw_p7 : lw_okq (⟨"PollYard", "poll", "(LPollYard$Task;II)I"⟩, 14) := ⟨⟨by decide +kernel, by decide +kernel⟩, List.mem_of_getElem? (i := 11) (by decide +kernel), List.mem_of_getElem? (i := 318) (by decide +kernel), List.mem_of_getElem? (i := 319) (by decide +kernel)⟩
theorem lw_p8 : lw_okq (⟨"PollYard", "pollTurn", "(LPollYard$Task;II)V"⟩, 14) := ⟨⟨by decide +kernel, by decide +kernel⟩, List.mem_of_getElem? (i := 11) (by decide +kernel), List.mem_of_getElem? (i := 327) (by decide +kernel), List.mem_of_getElem? (i := 328) (by decide +kernel)⟩
theorem lw_p9 : lw_okq (⟨"PollYard", "wakeTask", "(LPollYard$Task;)V"⟩, 14) := ⟨⟨by decide +kernel, by decide +kernel⟩, List.mem_of_getElem? (i := 11) (by decide +kernel), List.mem_of_getElem? (i := 332) (by decide +kernel), List.mem_of_getElem? (i := 333) (by decide +kernel)⟩
theorem lw_p10 : lw_okq (⟨"PollYard", "pollSleep", "(LPollYard$Task;II)V"⟩, 14) := ⟨⟨by decide +kernel, by decide +kernel⟩, List.mem_of_getElem? (i := 11) (by decide +kernel), List.mem_of_getElem? (i := 336) (by decide +kernel), List.mem_of_getElem? (i := 337) (by decide +kernel)⟩
theorem lw_p11 : lw_okq (⟨"PollYard", "pollTake", "(LPollYard$Task;II)V"⟩, 14) := ⟨⟨by decide +kernel, by decide +kernel⟩, List.mem_of_getElem? (i := 11) (by decide +kernel), List.mem_of_getElem? (i := 340) (by decide +kernel), List.mem_of_getElem? (i := 341) (by decide +kernel)⟩
theorem lw_p12 : lw_okq (⟨"PollYard", "spendUnit", "(LPollYard$Task;)Z"⟩, 14) := ⟨⟨by decide +kernel, by decide +kernel⟩, List.mem_of_getElem? (i := 11) (by decide +kernel), List.mem_of_getElem? (i := 347) (by decide +kernel), List.mem_of_getElem? (i := 348) (by decide +kernel)⟩
theorem lw_p13 : lw_okq (⟨"PollYard", "addPermits", "(LPollYard$Gate;I)V"⟩, 14) := ⟨⟨by decide +kernel, by decide +kernel⟩, List.mem_of_getElem? (i := 11) (by decide +kernel), List.mem_of_getElem? (i := 355) (by decide +kernel), List.mem_of_getElem? (i := 356) (by decide +kernel)⟩
theorem lw_p14 : lw_okq (⟨"PollYard", "ownerOf", "(I)LPollYard$Task;"⟩, 14) := ⟨⟨by decide +kernel, by decide +kernel⟩, List.mem_of_getElem? (i := 11) (by decide +kernel), List.mem_of_getElem? (i := 359) (by decide +kernel), List.mem_of_getElem? (i := 360) (by decide +kernel)⟩
theorem lw_p15 : lw_okq (⟨"PollYard", "pollWait", "(LPollYard$Task;II)V"⟩, 14) := ⟨⟨by decide +kernel, by decide +kernel⟩, List.mem_of_getElem? (i := 11) (by decide +kernel), List.mem_of_getElem? (i := 366) (by decide +kernel), List.mem_of_getElem? (i := 367) (by decide +kernel)⟩
def lw_privs_1 : List (MethodName × Nat) := [(⟨"PollYard", "makeTask", "(I)I"⟩, 14), (⟨"PollYard", "injectWoken", "()V"⟩, 14), (⟨"PollYard", "takeTurn", "(LPollYard$Worker;)I"⟩, 14), (⟨"PollYard", "nextTask", "(LPollYard$Worker;)I"⟩, 14), (⟨"PollYard$Row", "removeAt", "(I)V"⟩, 2), (⟨"PollYard", "steal", "(LPollYard$Worker;)I"⟩, 14), (⟨"PollYard", "taskAt", "(I)LPollYard$Task;"⟩, 14), (⟨"PollYard", "poll", "(LPollYard$Task;II)I"⟩, 14), (⟨"PollYard", "pollTurn", "(LPollYard$Task;II)V"⟩, 14), (⟨"PollYard", "wakeTask", "(LPollYard$Task;)V"⟩, 14), (⟨"PollYard", "pollSleep", "(LPollYard$Task;II)V"⟩, 14), (⟨"PollYard", "pollTake", "(LPollYard$Task;II)V"⟩, 14), (⟨"PollYard", "spendUnit", "(LPollYard$Task;)Z"⟩, 14), (⟨"PollYard", "addPermits", "(LPollYard$Gate;I)V"⟩, 14), (⟨"PollYard", "ownerOf", "(I)LPollYard$Task;"⟩, 14), (⟨"PollYard", "pollWait", "(LPollYard$Task;II)V"⟩, 14)]
theorem lw_r1 : ∀ q ∈ lw_privs_1, lw_okq q := List.forall_mem_cons.mpr ⟨lw_p0, List.forall_mem_cons.mpr ⟨lw_p1, List.forall_mem_cons.mpr ⟨lw_p2, List.forall_mem_cons.mpr ⟨lw_p3, List.forall_mem_cons.mpr ⟨lw_p4, List.forall_mem_cons.mpr ⟨lw_p5, List.forall_mem_cons.mpr ⟨lw_p6, List.forall_mem_cons.mpr ⟨lw_p7, List.forall_mem_cons.mpr ⟨lw_p8, List.forall_mem_cons.mpr ⟨lw_p9, List.forall_mem_cons.mpr ⟨lw_p10, List.forall_mem_cons.mpr ⟨lw_p11, List.forall_mem_cons.mpr ⟨lw_p12, List.forall_mem_cons.mpr ⟨lw_p13, List.forall_mem_cons.mpr ⟨lw_p14, List.forall_mem_cons.mpr ⟨lw_p15, fun _ h => absurd h List.not_mem_nil⟩⟩⟩⟩⟩⟩⟩⟩⟩⟩⟩⟩⟩⟩⟩⟩
theorem lw_p16 : lw_okq (⟨"PollYard", "giveNotice", "(LPollYard$Notice;)Z"⟩, 14) := ⟨⟨by decide +kernel, by decide +kernel⟩, List.mem_of_getElem? (i := 11) (by decide +kernel), List.mem_of_getElem? (i := 370) (by decide +kernel), List.mem_of_getElem? (i := 371) (by decide +kernel)⟩
theorem lw_p17 : lw_okq (⟨"PollYard", "pollReap", "(LPollYard$Task;II)V"⟩, 14) := ⟨⟨by decide +kernel, by decide +kernel⟩, List.mem_of_getElem? (i := 11) (by decide +kernel), List.mem_of_getElem? (i := 374) (by decide +kernel), List.mem_of_getElem? (i := 375) (by decide +kernel)⟩
theorem lw_p18 : lw_okq (⟨"PollYard", "pollThen", "(LPollYard$Task;II)V"⟩, 14) := ⟨⟨by decide +kernel, by decide +kernel⟩, List.mem_of_getElem? (i := 11) (by decide +kernel), List.mem_of_getElem? (i := 396) (by decide +kernel), List.mem_of_getElem? (i := 397) (by decide +kernel)⟩
theorem lw_p19 : lw_okq (⟨"PollYard", "pollBoth", "(LPollYard$Task;II)V"⟩, 14) := ⟨⟨by decide +kernel, by decide +kernel⟩, List.mem_of_getElem? (i := 11) (by decide +kernel), List.mem_of_getElem? (i := 401) (by decide +kernel), List.mem_of_getElem? (i := 402) (by decide +kernel)⟩
theorem lw_p20 : lw_okq (⟨"PollYard", "drop", "(LPollYard$Task;I)V"⟩, 14) := ⟨⟨by decide +kernel, by decide +kernel⟩, List.mem_of_getElem? (i := 11) (by decide +kernel), List.mem_of_getElem? (i := 405) (by decide +kernel), List.mem_of_getElem? (i := 406) (by decide +kernel)⟩
theorem lw_p21 : lw_okq (⟨"PollYard", "pollFirst", "(LPollYard$Task;II)V"⟩, 14) := ⟨⟨by decide +kernel, by decide +kernel⟩, List.mem_of_getElem? (i := 11) (by decide +kernel), List.mem_of_getElem? (i := 418) (by decide +kernel), List.mem_of_getElem? (i := 419) (by decide +kernel)⟩
theorem lw_p22 : lw_okq (⟨"PollYard", "pollWithin", "(LPollYard$Task;II)V"⟩, 14) := ⟨⟨by decide +kernel, by decide +kernel⟩, List.mem_of_getElem? (i := 11) (by decide +kernel), List.mem_of_getElem? (i := 422) (by decide +kernel), List.mem_of_getElem? (i := 423) (by decide +kernel)⟩
theorem lw_p23 : lw_okq (⟨"PollYard", "pollAdd", "(LPollYard$Task;II)V"⟩, 14) := ⟨⟨by decide +kernel, by decide +kernel⟩, List.mem_of_getElem? (i := 11) (by decide +kernel), List.mem_of_getElem? (i := 426) (by decide +kernel), List.mem_of_getElem? (i := 427) (by decide +kernel)⟩
theorem lw_p24 : lw_okq (⟨"PollYard", "pollCatch", "(LPollYard$Task;II)V"⟩, 14) := ⟨⟨by decide +kernel, by decide +kernel⟩, List.mem_of_getElem? (i := 11) (by decide +kernel), List.mem_of_getElem? (i := 430) (by decide +kernel), List.mem_of_getElem? (i := 431) (by decide +kernel)⟩
theorem lw_p25 : lw_okq (⟨"PollYard", "wakeReapers", "(I)V"⟩, 14) := ⟨⟨by decide +kernel, by decide +kernel⟩, List.mem_of_getElem? (i := 11) (by decide +kernel), List.mem_of_getElem? (i := 438) (by decide +kernel), List.mem_of_getElem? (i := 439) (by decide +kernel)⟩
theorem lw_p26 : lw_okq (⟨"PollYard", "slotWoken", "(LPollYard$Worker;)V"⟩, 14) := ⟨⟨by decide +kernel, by decide +kernel⟩, List.mem_of_getElem? (i := 11) (by decide +kernel), List.mem_of_getElem? (i := 446) (by decide +kernel), List.mem_of_getElem? (i := 447) (by decide +kernel)⟩
theorem lw_p27 : lw_okq (⟨"PollYard", "pushToRing", "(LPollYard$Worker;I)V"⟩, 14) := ⟨⟨by decide +kernel, by decide +kernel⟩, List.mem_of_getElem? (i := 11) (by decide +kernel), List.mem_of_getElem? (i := 450) (by decide +kernel), List.mem_of_getElem? (i := 451) (by decide +kernel)⟩
theorem lw_p28 : lw_okq (⟨"PollYard", "wakeTheDue", "()V"⟩, 14) := ⟨⟨by decide +kernel, by decide +kernel⟩, List.mem_of_getElem? (i := 11) (by decide +kernel), List.mem_of_getElem? (i := 462) (by decide +kernel), List.mem_of_getElem? (i := 463) (by decide +kernel)⟩
theorem lw_p29 : lw_okq (⟨"PollYard", "unqueue", "(I)V"⟩, 14) := ⟨⟨by decide +kernel, by decide +kernel⟩, List.mem_of_getElem? (i := 11) (by decide +kernel), List.mem_of_getElem? (i := 478) (by decide +kernel), List.mem_of_getElem? (i := 479) (by decide +kernel)⟩
theorem lw_p30 : lw_okq (⟨"PollYard", "whereQueued", "(I)I"⟩, 14) := ⟨⟨by decide +kernel, by decide +kernel⟩, List.mem_of_getElem? (i := 11) (by decide +kernel), List.mem_of_getElem? (i := 494) (by decide +kernel), List.mem_of_getElem? (i := 495) (by decide +kernel)⟩
theorem lw_p31 : lw_okq (⟨"PollYard", "gotByFirst", "(LPollYard$Gate;)I"⟩, 14) := ⟨⟨by decide +kernel, by decide +kernel⟩, List.mem_of_getElem? (i := 11) (by decide +kernel), List.mem_of_getElem? (i := 514) (by decide +kernel), List.mem_of_getElem? (i := 515) (by decide +kernel)⟩
def lw_privs_2 : List (MethodName × Nat) := [(⟨"PollYard", "giveNotice", "(LPollYard$Notice;)Z"⟩, 14), (⟨"PollYard", "pollReap", "(LPollYard$Task;II)V"⟩, 14), (⟨"PollYard", "pollThen", "(LPollYard$Task;II)V"⟩, 14), (⟨"PollYard", "pollBoth", "(LPollYard$Task;II)V"⟩, 14), (⟨"PollYard", "drop", "(LPollYard$Task;I)V"⟩, 14), (⟨"PollYard", "pollFirst", "(LPollYard$Task;II)V"⟩, 14), (⟨"PollYard", "pollWithin", "(LPollYard$Task;II)V"⟩, 14), (⟨"PollYard", "pollAdd", "(LPollYard$Task;II)V"⟩, 14), (⟨"PollYard", "pollCatch", "(LPollYard$Task;II)V"⟩, 14), (⟨"PollYard", "wakeReapers", "(I)V"⟩, 14), (⟨"PollYard", "slotWoken", "(LPollYard$Worker;)V"⟩, 14), (⟨"PollYard", "pushToRing", "(LPollYard$Worker;I)V"⟩, 14), (⟨"PollYard", "wakeTheDue", "()V"⟩, 14), (⟨"PollYard", "unqueue", "(I)V"⟩, 14), (⟨"PollYard", "whereQueued", "(I)I"⟩, 14), (⟨"PollYard", "gotByFirst", "(LPollYard$Gate;)I"⟩, 14)]
theorem lw_r2 : ∀ q ∈ lw_privs_2, lw_okq q := List.forall_mem_cons.mpr ⟨lw_p16, List.forall_mem_cons.mpr ⟨lw_p17, List.forall_mem_cons.mpr ⟨lw_p18, List.forall_mem_cons.mpr ⟨lw_p19, List.forall_mem_cons.mpr ⟨lw_p20, List.forall_mem_cons.mpr ⟨lw_p21, List.forall_mem_cons.mpr ⟨lw_p22, List.forall_mem_cons.mpr ⟨lw_p23, List.forall_mem_cons.mpr ⟨lw_p24, List.forall_mem_cons.mpr ⟨lw_p25, List.forall_mem_cons.mpr ⟨lw_p26, List.forall_mem_cons.mpr ⟨lw_p27, List.forall_mem_cons.mpr ⟨lw_p28, List.forall_mem_cons.mpr ⟨lw_p29, List.forall_mem_cons.mpr ⟨lw_p30, List.forall_mem_cons.mpr ⟨lw_p31, fun _ h => absurd h List.not_mem_nil⟩⟩⟩⟩⟩⟩⟩⟩⟩⟩⟩⟩⟩⟩⟩⟩
theorem lw_p32 : lw_okq (⟨"PollYard", "tasksNotEnded", "()I"⟩, 14) := ⟨⟨by decide +kernel, by decide +kernel⟩, List.mem_of_getElem? (i := 11) (by decide +kernel), List.mem_of_getElem? (i := 522) (by decide +kernel), List.mem_of_getElem? (i := 523) (by decide +kernel)⟩
theorem lw_p33 : lw_okq (⟨"PollYardModel", "choose", "(I)I"⟩, 36) := ⟨⟨by decide +kernel, by decide +kernel⟩, List.mem_of_getElem? (i := 526) (by decide +kernel), List.mem_of_getElem? (i := 667) (by decide +kernel), List.mem_of_getElem? (i := 668) (by decide +kernel)⟩
theorem lw_p34 : lw_okq (⟨"PollYardModel", "shiftInjector", "()I"⟩, 36) := ⟨⟨by decide +kernel, by decide +kernel⟩, List.mem_of_getElem? (i := 526) (by decide +kernel), List.mem_of_getElem? (i := 671) (by decide +kernel), List.mem_of_getElem? (i := 672) (by decide +kernel)⟩
theorem lw_p35 : lw_okq (⟨"PollYardModel", "shift", "(I)I"⟩, 36) := ⟨⟨by decide +kernel, by decide +kernel⟩, List.mem_of_getElem? (i := 526) (by decide +kernel), List.mem_of_getElem? (i := 675) (by decide +kernel), List.mem_of_getElem? (i := 676) (by decide +kernel)⟩
theorem lw_p36 : lw_okq (⟨"PollYardModel", "toRing", "(II)V"⟩, 36) := ⟨⟨by decide +kernel, by decide +kernel⟩, List.mem_of_getElem? (i := 526) (by decide +kernel), List.mem_of_getElem? (i := 679) (by decide +kernel), List.mem_of_getElem? (i := 680) (by decide +kernel)⟩
theorem lw_p37 : lw_okq (⟨"PollYardModel", "inject", "(I)V"⟩, 36) := ⟨⟨by decide +kernel, by decide +kernel⟩, List.mem_of_getElem? (i := 526) (by decide +kernel), List.mem_of_getElem? (i := 683) (by decide +kernel), List.mem_of_getElem? (i := 684) (by decide +kernel)⟩
theorem lw_p38 : lw_okq (⟨"PollYardModel", "work", "(II)V"⟩, 36) := ⟨⟨by decide +kernel, by decide +kernel⟩, List.mem_of_getElem? (i := 526) (by decide +kernel), List.mem_of_getElem? (i := 687) (by decide +kernel), List.mem_of_getElem? (i := 688) (by decide +kernel)⟩
theorem lw_p39 : lw_okq (⟨"PollYardModel", "poll", "(I)V"⟩, 36) := ⟨⟨by decide +kernel, by decide +kernel⟩, List.mem_of_getElem? (i := 526) (by decide +kernel), List.mem_of_getElem? (i := 691) (by decide +kernel), List.mem_of_getElem? (i := 692) (by decide +kernel)⟩
theorem lw_p40 : lw_okq (⟨"PollYardModel", "opOf", "(II)I"⟩, 36) := ⟨⟨by decide +kernel, by decide +kernel⟩, List.mem_of_getElem? (i := 526) (by decide +kernel), List.mem_of_getElem? (i := 695) (by decide +kernel), List.mem_of_getElem? (i := 696) (by decide +kernel)⟩
theorem lw_p41 : lw_okq (⟨"PollYardModel", "leaf", "(III)V"⟩, 36) := ⟨⟨by decide +kernel, by decide +kernel⟩, List.mem_of_getElem? (i := 526) (by decide +kernel), List.mem_of_getElem? (i := 699) (by decide +kernel), List.mem_of_getElem? (i := 700) (by decide +kernel)⟩
theorem lw_p42 : lw_okq (⟨"PollYardModel", "argOf", "(II)I"⟩, 36) := ⟨⟨by decide +kernel, by decide +kernel⟩, List.mem_of_getElem? (i := 526) (by decide +kernel), List.mem_of_getElem? (i := 703) (by decide +kernel), List.mem_of_getElem? (i := 704) (by decide +kernel)⟩
theorem lw_p43 : lw_okq (⟨"PollYardModel", "ready", "(II)V"⟩, 36) := ⟨⟨by decide +kernel, by decide +kernel⟩, List.mem_of_getElem? (i := 526) (by decide +kernel), List.mem_of_getElem? (i := 707) (by decide +kernel), List.mem_of_getElem? (i := 708) (by decide +kernel)⟩
theorem lw_p44 : lw_okq (⟨"PollYardModel", "wakeUp", "(I)V"⟩, 36) := ⟨⟨by decide +kernel, by decide +kernel⟩, List.mem_of_getElem? (i := 526) (by decide +kernel), List.mem_of_getElem? (i := 711) (by decide +kernel), List.mem_of_getElem? (i := 712) (by decide +kernel)⟩
theorem lw_p45 : lw_okq (⟨"PollYardModel", "pending", "(I)V"⟩, 36) := ⟨⟨by decide +kernel, by decide +kernel⟩, List.mem_of_getElem? (i := 526) (by decide +kernel), List.mem_of_getElem? (i := 715) (by decide +kernel), List.mem_of_getElem? (i := 716) (by decide +kernel)⟩
theorem lw_p46 : lw_okq (⟨"PollYardModel", "take", "(III)V"⟩, 36) := ⟨⟨by decide +kernel, by decide +kernel⟩, List.mem_of_getElem? (i := 526) (by decide +kernel), List.mem_of_getElem? (i := 719) (by decide +kernel), List.mem_of_getElem? (i := 720) (by decide +kernel)⟩
theorem lw_p47 : lw_okq (⟨"PollYardModel", "firstAt", "(II)I"⟩, 36) := ⟨⟨by decide +kernel, by decide +kernel⟩, List.mem_of_getElem? (i := 526) (by decide +kernel), List.mem_of_getElem? (i := 726) (by decide +kernel), List.mem_of_getElem? (i := 727) (by decide +kernel)⟩
def lw_privs_3 : List (MethodName × Nat) := [(⟨"PollYard", "tasksNotEnded", "()I"⟩, 14), (⟨"PollYardModel", "choose", "(I)I"⟩, 36), (⟨"PollYardModel", "shiftInjector", "()I"⟩, 36), (⟨"PollYardModel", "shift", "(I)I"⟩, 36), (⟨"PollYardModel", "toRing", "(II)V"⟩, 36), (⟨"PollYardModel", "inject", "(I)V"⟩, 36), (⟨"PollYardModel", "work", "(II)V"⟩, 36), (⟨"PollYardModel", "poll", "(I)V"⟩, 36), (⟨"PollYardModel", "opOf", "(II)I"⟩, 36), (⟨"PollYardModel", "leaf", "(III)V"⟩, 36), (⟨"PollYardModel", "argOf", "(II)I"⟩, 36), (⟨"PollYardModel", "ready", "(II)V"⟩, 36), (⟨"PollYardModel", "wakeUp", "(I)V"⟩, 36), (⟨"PollYardModel", "pending", "(I)V"⟩, 36), (⟨"PollYardModel", "take", "(III)V"⟩, 36), (⟨"PollYardModel", "firstAt", "(II)I"⟩, 36)]
theorem lw_r3 : ∀ q ∈ lw_privs_3, lw_okq q := List.forall_mem_cons.mpr ⟨lw_p32, List.forall_mem_cons.mpr ⟨lw_p33, List.forall_mem_cons.mpr ⟨lw_p34, List.forall_mem_cons.mpr ⟨lw_p35, List.forall_mem_cons.mpr ⟨lw_p36, List.forall_mem_cons.mpr ⟨lw_p37, List.forall_mem_cons.mpr ⟨lw_p38, List.forall_mem_cons.mpr ⟨lw_p39, List.forall_mem_cons.mpr ⟨lw_p40, List.forall_mem_cons.mpr ⟨lw_p41, List.forall_mem_cons.mpr ⟨lw_p42, List.forall_mem_cons.mpr ⟨lw_p43, List.forall_mem_cons.mpr ⟨lw_p44, List.forall_mem_cons.mpr ⟨lw_p45, List.forall_mem_cons.mpr ⟨lw_p46, List.forall_mem_cons.mpr ⟨lw_p47, fun _ h => absurd h List.not_mem_nil⟩⟩⟩⟩⟩⟩⟩⟩⟩⟩⟩⟩⟩⟩⟩⟩
theorem lw_p48 : lw_okq (⟨"PollYardModel", "spends", "(I)Z"⟩, 36) := ⟨⟨by decide +kernel, by decide +kernel⟩, List.mem_of_getElem? (i := 526) (by decide +kernel), List.mem_of_getElem? (i := 730) (by decide +kernel), List.mem_of_getElem? (i := 731) (by decide +kernel)⟩
theorem lw_p49 : lw_okq (⟨"PollYardModel", "add", "(II)V"⟩, 36) := ⟨⟨by decide +kernel, by decide +kernel⟩, List.mem_of_getElem? (i := 526) (by decide +kernel), List.mem_of_getElem? (i := 734) (by decide +kernel), List.mem_of_getElem? (i := 735) (by decide +kernel)⟩
theorem lw_p50 : lw_okq (⟨"PollYardModel", "await", "(III)V"⟩, 36) := ⟨⟨by decide +kernel, by decide +kernel⟩, List.mem_of_getElem? (i := 526) (by decide +kernel), List.mem_of_getElem? (i := 738) (by decide +kernel), List.mem_of_getElem? (i := 739) (by decide +kernel)⟩
theorem lw_p51 : lw_okq (⟨"PollYardModel", "give", "(I)Z"⟩, 36) := ⟨⟨by decide +kernel, by decide +kernel⟩, List.mem_of_getElem? (i := 526) (by decide +kernel), List.mem_of_getElem? (i := 742) (by decide +kernel), List.mem_of_getElem? (i := 743) (by decide +kernel)⟩
theorem lw_p52 : lw_okq (⟨"PollYardModel", "make", "(I)I"⟩, 36) := ⟨⟨by decide +kernel, by decide +kernel⟩, List.mem_of_getElem? (i := 526) (by decide +kernel), List.mem_of_getElem? (i := 746) (by decide +kernel), List.mem_of_getElem? (i := 747) (by decide +kernel)⟩
theorem lw_p53 : lw_okq (⟨"PollYardModel", "broken", "(II)V"⟩, 36) := ⟨⟨by decide +kernel, by decide +kernel⟩, List.mem_of_getElem? (i := 526) (by decide +kernel), List.mem_of_getElem? (i := 750) (by decide +kernel), List.mem_of_getElem? (i := 751) (by decide +kernel)⟩
theorem lw_p54 : lw_okq (⟨"PollYardModel", "step", "(IIII)I"⟩, 36) := ⟨⟨by decide +kernel, by decide +kernel⟩, List.mem_of_getElem? (i := 526) (by decide +kernel), List.mem_of_getElem? (i := 754) (by decide +kernel), List.mem_of_getElem? (i := 755) (by decide +kernel)⟩
theorem lw_p55 : lw_okq (⟨"PollYardModel", "end", "(II)I"⟩, 36) := ⟨⟨by decide +kernel, by decide +kernel⟩, List.mem_of_getElem? (i := 526) (by decide +kernel), List.mem_of_getElem? (i := 758) (by decide +kernel), List.mem_of_getElem? (i := 759) (by decide +kernel)⟩
theorem lw_p56 : lw_okq (⟨"PollYardModel", "drop", "(II)V"⟩, 36) := ⟨⟨by decide +kernel, by decide +kernel⟩, List.mem_of_getElem? (i := 526) (by decide +kernel), List.mem_of_getElem? (i := 762) (by decide +kernel), List.mem_of_getElem? (i := 763) (by decide +kernel)⟩
theorem lw_p57 : lw_okq (⟨"PollYardModel", "reap", "(III)V"⟩, 36) := ⟨⟨by decide +kernel, by decide +kernel⟩, List.mem_of_getElem? (i := 526) (by decide +kernel), List.mem_of_getElem? (i := 766) (by decide +kernel), List.mem_of_getElem? (i := 767) (by decide +kernel)⟩
theorem lw_p58 : lw_okq (⟨"PollYardModel", "ends", "(III)V"⟩, 36) := ⟨⟨by decide +kernel, by decide +kernel⟩, List.mem_of_getElem? (i := 526) (by decide +kernel), List.mem_of_getElem? (i := 770) (by decide +kernel), List.mem_of_getElem? (i := 771) (by decide +kernel)⟩
theorem lw_p59 : lw_okq (⟨"PollYardModel", "tellReapers", "(I)V"⟩, 36) := ⟨⟨by decide +kernel, by decide +kernel⟩, List.mem_of_getElem? (i := 526) (by decide +kernel), List.mem_of_getElem? (i := 774) (by decide +kernel), List.mem_of_getElem? (i := 775) (by decide +kernel)⟩
theorem lw_p60 : lw_okq (⟨"PollYardModel", "unqueue", "(I)V"⟩, 36) := ⟨⟨by decide +kernel, by decide +kernel⟩, List.mem_of_getElem? (i := 526) (by decide +kernel), List.mem_of_getElem? (i := 795) (by decide +kernel), List.mem_of_getElem? (i := 796) (by decide +kernel)⟩
theorem lw_p61 : lw_okq (⟨"PollYardModel", "waiting", "(II)I"⟩, 36) := ⟨⟨by decide +kernel, by decide +kernel⟩, List.mem_of_getElem? (i := 526) (by decide +kernel), List.mem_of_getElem? (i := 823) (by decide +kernel), List.mem_of_getElem? (i := 824) (by decide +kernel)⟩
def lw_privs_4 : List (MethodName × Nat) := [(⟨"PollYardModel", "spends", "(I)Z"⟩, 36), (⟨"PollYardModel", "add", "(II)V"⟩, 36), (⟨"PollYardModel", "await", "(III)V"⟩, 36), (⟨"PollYardModel", "give", "(I)Z"⟩, 36), (⟨"PollYardModel", "make", "(I)I"⟩, 36), (⟨"PollYardModel", "broken", "(II)V"⟩, 36), (⟨"PollYardModel", "step", "(IIII)I"⟩, 36), (⟨"PollYardModel", "end", "(II)I"⟩, 36), (⟨"PollYardModel", "drop", "(II)V"⟩, 36), (⟨"PollYardModel", "reap", "(III)V"⟩, 36), (⟨"PollYardModel", "ends", "(III)V"⟩, 36), (⟨"PollYardModel", "tellReapers", "(I)V"⟩, 36), (⟨"PollYardModel", "unqueue", "(I)V"⟩, 36), (⟨"PollYardModel", "waiting", "(II)I"⟩, 36)]
theorem lw_r4 : ∀ q ∈ lw_privs_4, lw_okq q := List.forall_mem_cons.mpr ⟨lw_p48, List.forall_mem_cons.mpr ⟨lw_p49, List.forall_mem_cons.mpr ⟨lw_p50, List.forall_mem_cons.mpr ⟨lw_p51, List.forall_mem_cons.mpr ⟨lw_p52, List.forall_mem_cons.mpr ⟨lw_p53, List.forall_mem_cons.mpr ⟨lw_p54, List.forall_mem_cons.mpr ⟨lw_p55, List.forall_mem_cons.mpr ⟨lw_p56, List.forall_mem_cons.mpr ⟨lw_p57, List.forall_mem_cons.mpr ⟨lw_p58, List.forall_mem_cons.mpr ⟨lw_p59, List.forall_mem_cons.mpr ⟨lw_p60, List.forall_mem_cons.mpr ⟨lw_p61, fun _ h => absurd h List.not_mem_nil⟩⟩⟩⟩⟩⟩⟩⟩⟩⟩⟩⟩⟩⟩
def lw_privs : List (MethodName × Nat) := lw_privs_1 ++ (lw_privs_2 ++ (lw_privs_3 ++ (lw_privs_4)))
def lw_tbl : List Cond := k2_sels lw_privs ++ tables_1
theorem lw_privs_ok : ∀ q ∈ lw_privs, lw_okq q := by
  show ∀ q ∈ lw_privs_1 ++ (lw_privs_2 ++ (lw_privs_3 ++ (lw_privs_4))), lw_okq q
  exact List.forall_mem_append.mpr ⟨lw_r1, List.forall_mem_append.mpr ⟨lw_r2, List.forall_mem_append.mpr ⟨lw_r3, lw_r4⟩⟩⟩
def TS : List Cond := lw_tbl.filter goodWord
theorem ts_in {w : Cond} (h : w ∈ lw_tbl) (g : goodWord w = true) : w ∈ TS := List.mem_filter.mpr ⟨h, g⟩
theorem ts_word {w : Cond} (h : w ∈ TS) : goodWord w = true := (List.mem_filter.mp h).2
theorem ts_tbl {w : Cond} (h : w ∈ TS) : w ∈ lw_tbl := (List.mem_filter.mp h).1
theorem tm_1 {w : Cond} (h : w ∈ tables_1_1) : w ∈ lw_tbl := List.mem_append_right _ (show w ∈ tables_1 from (List.mem_append_left _ h))
theorem tn_1 {w : Cond} (i : Nat) (h : tables_1_1[i]? = some w) (g : goodWord w = true) : w ∈ TS := ts_in (tm_1 (List.mem_of_getElem? h)) g
theorem tm_2 {w : Cond} (h : w ∈ tables_1_2) : w ∈ lw_tbl := List.mem_append_right _ (show w ∈ tables_1 from (List.mem_append_right _ (List.mem_append_left _ h)))
theorem tn_2 {w : Cond} (i : Nat) (h : tables_1_2[i]? = some w) (g : goodWord w = true) : w ∈ TS := ts_in (tm_2 (List.mem_of_getElem? h)) g
theorem tm_3 {w : Cond} (h : w ∈ tables_1_3) : w ∈ lw_tbl := List.mem_append_right _ (show w ∈ tables_1 from (List.mem_append_right _ (List.mem_append_right _ (List.mem_append_left _ h))))
theorem tn_3 {w : Cond} (i : Nat) (h : tables_1_3[i]? = some w) (g : goodWord w = true) : w ∈ TS := ts_in (tm_3 (List.mem_of_getElem? h)) g
theorem tm_4 {w : Cond} (h : w ∈ tables_1_4) : w ∈ lw_tbl := List.mem_append_right _ (show w ∈ tables_1 from (List.mem_append_right _ (List.mem_append_right _ (List.mem_append_right _ h))))
theorem tn_4 {w : Cond} (i : Nat) (h : tables_1_4[i]? = some w) (g : goodWord w = true) : w ∈ TS := ts_in (tm_4 (List.mem_of_getElem? h)) g
theorem tn_p {w : Cond} (i : Nat) (h : (k2_sels lw_privs)[i]? = some w) (g : goodWord w = true) : w ∈ TS := ts_in (List.mem_append_left _ (List.mem_of_getElem? h)) g
end
section
def tx_Y : u_T := fun k => match k with
  | 0 => ("PollYard", "draft", "LPollYard$Program;", false)
  | 1 => ("PollYard", "programs", "[LPollYard$Program;", true)
  | 2 => ("PollYard", "programCount", "I", false)
  | 3 => ("PollYard", "tasks", "[LPollYard$Task;", true)
  | 4 => ("PollYard", "taskCount", "I", false)
  | 5 => ("PollYard", "workers", "[LPollYard$Worker;", true)
  | 6 => ("PollYard", "injector", "LPollYard$Row;", true)
  | 7 => ("PollYard", "woken", "LPollYard$Row;", true)
  | 8 => ("PollYard", "gates", "[LPollYard$Gate;", true)
  | 9 => ("PollYard", "notices", "[LPollYard$Notice;", true)
  | 10 => ("PollYard", "clock", "I", false)
  | 11 => ("PollYard", "pollings", "I", false)
  | 12 => ("PollYard", "thefts", "I", false)
  | _ => ("PollYard", "nextOfRun", "I", false)
def ty_Y : Nat → FieldType := fun k => match k with
  | 0 => .object "PollYard$Program"
  | 1 => .array (.object "PollYard$Program")
  | 2 => .int
  | 3 => .array (.object "PollYard$Task")
  | 4 => .int
  | 5 => .array (.object "PollYard$Worker")
  | 6 => .object "PollYard$Row"
  | 7 => .object "PollYard$Row"
  | 8 => .array (.object "PollYard$Gate")
  | 9 => .array (.object "PollYard$Notice")
  | 10 => .int
  | 11 => .int
  | 12 => .int
  | _ => .int
def tx_P : u_T := fun k => match k with
  | 0 => ("PollYard$Program", "ops", "[I", true)
  | 1 => ("PollYard$Program", "args", "[I", true)
  | 2 => ("PollYard$Program", "ends", "[I", true)
  | _ => ("PollYard$Program", "size", "I", false)
def ty_P : Nat → FieldType := fun k => match k with
  | 0 => .array .int
  | 1 => .array .int
  | 2 => .array .int
  | _ => .int
def tx_T : u_T := fun k => match k with
  | 0 => ("PollYard$Task", "number", "I", true)
  | 1 => ("PollYard$Task", "programNumber", "I", true)
  | 2 => ("PollYard$Task", "program", "LPollYard$Program;", true)
  | 3 => ("PollYard$Task", "standing", "I", false)
  | 4 => ("PollYard$Task", "outcome", "I", false)
  | 5 => ("PollYard$Task", "polls", "I", false)
  | 6 => ("PollYard$Task", "units", "I", false)
  | 7 => ("PollYard$Task", "noted", "Z", false)
  | 8 => ("PollYard$Task", "phase", "[I", true)
  | 9 => ("PollYard$Task", "result", "[I", true)
  | _ => ("PollYard$Task", "mark", "[I", true)
def ty_T : Nat → FieldType := fun k => match k with
  | 0 => .int
  | 1 => .int
  | 2 => .object "PollYard$Program"
  | 3 => .int
  | 4 => .int
  | 5 => .int
  | 6 => .int
  | 7 => .boolean
  | 8 => .array .int
  | 9 => .array .int
  | _ => .array .int
def tx_K : u_T := fun k => match k with
  | 0 => ("PollYard$Worker", "number", "I", true)
  | 1 => ("PollYard$Worker", "ring", "LPollYard$Row;", true)
  | 2 => ("PollYard$Worker", "slot", "I", false)
  | 3 => ("PollYard$Worker", "turns", "I", false)
  | _ => ("PollYard$Worker", "slotTurns", "I", false)
def ty_K : Nat → FieldType := fun k => match k with
  | 0 => .int
  | 1 => .object "PollYard$Row"
  | 2 => .int
  | 3 => .int
  | _ => .int
def tx_R : u_T := fun k => match k with
  | 0 => ("PollYard$Row", "items", "[I", true)
  | _ => ("PollYard$Row", "size", "I", false)
def ty_R : Nat → FieldType := fun k => match k with
  | 0 => .array .int
  | _ => .int
def tx_G : u_T := fun k => match k with
  | 0 => ("PollYard$Gate", "waiting", "LPollYard$Row;", true)
  | _ => ("PollYard$Gate", "permits", "I", false)
def ty_G : Nat → FieldType := fun k => match k with
  | 0 => .object "PollYard$Row"
  | _ => .int
def tx_N : u_T := fun k => match k with
  | 0 => ("PollYard$Notice", "waiting", "LPollYard$Row;", true)
  | _ => ("PollYard$Notice", "kept", "Z", false)
def ty_N : Nat → FieldType := fun k => match k with
  | 0 => .object "PollYard$Row"
  | _ => .boolean
def tx_M : u_T := fun k => match k with
  | 0 => ("PollYardModel", "op", "[I", true)
  | 1 => ("PollYardModel", "arg", "[I", true)
  | 2 => ("PollYardModel", "length", "[I", true)
  | 3 => ("PollYardModel", "programs", "I", false)
  | 4 => ("PollYardModel", "state", "[I", true)
  | 5 => ("PollYardModel", "value", "[I", true)
  | 6 => ("PollYardModel", "polls", "[I", true)
  | 7 => ("PollYardModel", "program", "[I", true)
  | 8 => ("PollYardModel", "units", "[I", true)
  | 9 => ("PollYardModel", "where", "[I", true)
  | 10 => ("PollYardModel", "noted", "[Z", true)
  | 11 => ("PollYardModel", "stands", "[I", true)
  | 12 => ("PollYardModel", "result", "[I", true)
  | 13 => ("PollYardModel", "own", "[I", true)
  | 14 => ("PollYardModel", "came", "[I", true)
  | 15 => ("PollYardModel", "waits", "[Z", true)
  | 16 => ("PollYardModel", "has", "[Z", true)
  | 17 => ("PollYardModel", "at", "[I", true)
  | 18 => ("PollYardModel", "stage", "[I", true)
  | 19 => ("PollYardModel", "slot", "[I", true)
  | 20 => ("PollYardModel", "turns", "[I", true)
  | 21 => ("PollYardModel", "slotRow", "[I", true)
  | 22 => ("PollYardModel", "ring", "[I", true)
  | 23 => ("PollYardModel", "rings", "[I", true)
  | 24 => ("PollYardModel", "injector", "[I", true)
  | 25 => ("PollYardModel", "permits", "[I", true)
  | 26 => ("PollYardModel", "kept", "[Z", true)
  | 27 => ("PollYardModel", "tasks", "I", false)
  | 28 => ("PollYardModel", "injected", "I", false)
  | 29 => ("PollYardModel", "clock", "I", false)
  | 30 => ("PollYardModel", "pollings", "I", false)
  | 31 => ("PollYardModel", "steals", "I", false)
  | 32 => ("PollYardModel", "next", "I", false)
  | 33 => ("PollYardModel", "orders", "I", false)
  | 34 => ("PollYardModel", "last", "I", false)
  | _ => ("PollYardModel", "worker", "I", false)
def ty_M : Nat → FieldType := fun k => match k with
  | 0 => .array .int
  | 1 => .array .int
  | 2 => .array .int
  | 3 => .int
  | 4 => .array .int
  | 5 => .array .int
  | 6 => .array .int
  | 7 => .array .int
  | 8 => .array .int
  | 9 => .array .int
  | 10 => .array .boolean
  | 11 => .array .int
  | 12 => .array .int
  | 13 => .array .int
  | 14 => .array .int
  | 15 => .array .boolean
  | 16 => .array .boolean
  | 17 => .array .int
  | 18 => .array .int
  | 19 => .array .int
  | 20 => .array .int
  | 21 => .array .int
  | 22 => .array .int
  | 23 => .array .int
  | 24 => .array .int
  | 25 => .array .int
  | 26 => .array .boolean
  | 27 => .int
  | 28 => .int
  | 29 => .int
  | 30 => .int
  | 31 => .int
  | 32 => .int
  | 33 => .int
  | 34 => .int
  | _ => .int
abbrev vwCl : List vw_C := [("PollYard", tx_Y, 14), ("PollYard$Program", tx_P, 4), ("PollYard$Task", tx_T, 11), ("PollYard$Worker", tx_K, 5), ("PollYard$Row", tx_R, 2), ("PollYard$Gate", tx_G, 2), ("PollYard$Notice", tx_N, 2), ("PollYardModel", tx_M, 36)]
def nf (ci : Nat) : Nat := match ci with
  | 0 => 14
  | 1 => 4
  | 2 => 11
  | 3 => 5
  | 4 => 2
  | 5 => 2
  | 6 => 2
  | 7 => 36
  | _ => 0
def ty_of (ci : Nat) : Nat → FieldType := match ci with
  | 0 => ty_Y
  | 1 => ty_P
  | 2 => ty_T
  | 3 => ty_K
  | 4 => ty_R
  | 5 => ty_G
  | 6 => ty_N
  | 7 => ty_M
  | _ => fun _ => .int
def fk (ci k : Nat) : Bool := match ty_of ci k with
  | .object _ => true
  | .array _ => true
  | _ => false
def sk (s : Nat) : Nat ⊕ FieldType := match s with
  | 0 => .inl 0
  | 1 => .inl 1
  | 2 => .inl 2
  | 3 => .inl 3
  | 4 => .inl 4
  | 5 => .inl 5
  | 6 => .inl 6
  | 7 => .inl 7
  | 10 => .inr (.int)
  | 11 => .inr (.int)
  | 12 => .inr (.int)
  | 13 => .inr (.int)
  | 14 => .inr (.int)
  | 15 => .inr (.int)
  | 16 => .inr (.int)
  | 17 => .inr (.object "PollYard$Program")
  | 18 => .inr (.object "PollYard$Task")
  | 19 => .inr (.object "PollYard$Worker")
  | 20 => .inr (.object "PollYard$Gate")
  | 21 => .inr (.object "PollYard$Notice")
  | 22 => .inr (.int)
  | 23 => .inr (.int)
  | 24 => .inr (.int)
  | 30 => .inr (.int)
  | 31 => .inr (.int)
  | 32 => .inr (.int)
  | 33 => .inr (.int)
  | 34 => .inr (.int)
  | 35 => .inr (.int)
  | 36 => .inr (.int)
  | 37 => .inr (.int)
  | 38 => .inr (.int)
  | 39 => .inr (.boolean)
  | 40 => .inr (.int)
  | 41 => .inr (.int)
  | 42 => .inr (.int)
  | 43 => .inr (.int)
  | 44 => .inr (.boolean)
  | 45 => .inr (.boolean)
  | 46 => .inr (.int)
  | 47 => .inr (.int)
  | 48 => .inr (.int)
  | 49 => .inr (.int)
  | 50 => .inr (.int)
  | 51 => .inr (.int)
  | 52 => .inr (.int)
  | 53 => .inr (.int)
  | 54 => .inr (.int)
  | 55 => .inr (.boolean)
  | _ => .inl 100
def st_is (s : Nat) : Bool := match s with
  | 22 => true
  | 23 => true
  | 24 => true
  | _ => false
def ar_ty (s : Nat) : Option FieldType := match sk s with
  | .inl _ => none
  | .inr t => some t
def sv_PARTS : List Int32 := [0, 0, 0, 0, 0, 0, 0, 0, 1, 0, 2, 2, 2, 1, 1, 1]
def sv_LOWEST : List Int32 := [-2147483648, 0, 1, 0, 0, 0, 0, 0, -2147483648, 1, -2147483648, -2147483648, -2147483648, 1, -2147483648, -2147483648]
def sv_HIGHEST : List Int32 := [2147483647, 3, 40, 5, 5, 1, 1, 5, 2147483647, 97, 2147483647, 2147483647, 2147483647, 40, 2147483647, 2147483647]
def st_l : List (Nat × String × List Int32) := [(22, "PARTS", sv_PARTS), (23, "LOWEST", sv_LOWEST), (24, "HIGHEST", sv_HIGHEST)]
def nest_w : List Cond := [(Jvm.Cond.methodLinkNest "PollYard" (9 : Nat) ({ cls := "PollYard$Program", name := "<init>", desc := "()V" } : Jvm.MethodName) "PollYard"), (Jvm.Cond.methodLinkNest "PollYard" (54 : Nat) ({ cls := "PollYard$Gate", name := "<init>", desc := "()V" } : Jvm.MethodName) "PollYard"), (Jvm.Cond.methodLinkNest "PollYard" (61 : Nat) ({ cls := "PollYard$Notice", name := "<init>", desc := "()V" } : Jvm.MethodName) "PollYard"), (Jvm.Cond.fieldLinkNest "PollYard$Program" (29 : Nat) "PollYard" "PARTS" "[I" "PollYard")]
def over_c : List String := ["PollYard$Program", "PollYard$Task", "PollYard$Worker", "PollYard$Gate", "PollYard$Notice"]
end
section
abbrev AV : Type := Int32 ⊕ Option (Nat × Nat)
abbrev Me : Type := (Nat → Nat → Nat → Int32) × (Nat → Nat → Nat → Option (Nat × Nat)) × (Nat → Nat → Nat) × (Nat → Nat) × Nat × Nat
abbrev Rh : Type := Nat → Nat → Nat
def me_I (M : Me) : Nat → Nat → Nat → Int32 := M.1
def me_P (M : Me) : Nat → Nat → Nat → Option (Nat × Nat) := M.2.1
def me_L (M : Me) : Nat → Nat → Nat := M.2.2.1
def me_N (M : Me) : Nat → Nat := M.2.2.2.1
def me_C (M : Me) : Nat := M.2.2.2.2.1
def me_S (M : Me) : Nat := M.2.2.2.2.2
def me_sI (M : Me) (s i k : Nat) (v : Int32) : Me := (fun a b c => if a = s ∧ b = i ∧ c = k then v else M.1 a b c, M.2)
def me_sP (M : Me) (s i k : Nat) (v : Option (Nat × Nat)) : Me := (M.1, fun a b c => if a = s ∧ b = i ∧ c = k then v else M.2.1 a b c, M.2.2)
def me_nw (M : Me) (s n sl : Nat) : Me := (fun a b c => if a = s ∧ b = me_N M s then 0 else M.1 a b c, fun a b c => if a = s ∧ b = me_N M s then none else M.2.1 a b c, fun a b => if a = s ∧ b = me_N M s then n else M.2.2.1 a b, fun a => if a = s then me_N M s + 1 else M.2.2.2.1 a, me_C M + 1, me_S M + sl)
def av_r (ρ : Rh) (o : Option (Nat × Nat)) : Option Nat := o.map (fun a => ρ a.1 a.2)
def av_tv (ρ : Rh) (v : AV) : Value := match v with
  | .inl x => .int x
  | .inr o => va_rf (av_r ρ o)
def av_okr (M : Me) (o : Option (Nat × Nat)) : Prop := ∀ a, o = some a → a.2 < me_N M a.1
def av_ok (M : Me) (v : AV) : Prop := ∀ a, v = .inr (some a) → a.2 < me_N M a.1
theorem av_ok_i {M : Me} {x : Int32} : av_ok M (.inl x) := fun _ h => by cases h
theorem av_ok_n {M : Me} : av_ok M (.inr none) := fun _ h => by cases h
theorem av_ok_r {M : Me} {o : Option (Nat × Nat)} (h : av_okr M o) : av_ok M (.inr o) := fun a e => h a (Sum.inr.inj e)
theorem av_cat (ρ : Rh) (v : AV) : (av_tv ρ v).category = 1 := by
  cases v with
  | inl x => rfl
  | inr o => cases o <;> rfl
theorem av_r_eq {ρ ρ' : Rh} {M : Me} {o : Option (Nat × Nat)} (h : av_okr M o) (he : ∀ a b, b < me_N M a → ρ' a b = ρ a b) : av_r ρ' o = av_r ρ o := by
  cases o with
  | none => rfl
  | some a => exact congrArg some (he _ _ (h a rfl))
theorem av_tv_eq {ρ ρ' : Rh} {M : Me} {v : AV} (h : av_ok M v) (he : ∀ a b, b < me_N M a → ρ' a b = ρ a b) : av_tv ρ' v = av_tv ρ v := by
  cases v with
  | inl x => rfl
  | inr o => exact congrArg va_rf (av_r_eq (M := M) (fun a e => h a (congrArg _ e)) he)
theorem av_map_eq {ρ ρ' : Rh} {M : Me} {st : List AV} (h : ∀ v ∈ st, av_ok M v) (he : ∀ a b, b < me_N M a → ρ' a b = ρ a b) : st.map (av_tv ρ') = st.map (av_tv ρ) :=
  List.map_congr_left fun v hv => av_tv_eq (h v hv) he
theorem av_ok_mono {M M' : Me} (hn : ∀ a, me_N M a ≤ me_N M' a) {v : AV} (h : av_ok M v) : av_ok M' v := fun a e => Nat.lt_of_lt_of_le (h a e) (hn _)
theorem av_okr_mono {M M' : Me} (hn : ∀ a, me_N M a ≤ me_N M' a) {o : Option (Nat × Nat)} (h : av_okr M o) : av_okr M' o := fun a e => Nat.lt_of_lt_of_le (h a e) (hn _)
theorem me_N_sI (M : Me) (s i k : Nat) (v : Int32) : me_N (me_sI M s i k v) = me_N M := rfl
theorem me_N_sP (M : Me) (s i k : Nat) (v : Option (Nat × Nat)) : me_N (me_sP M s i k v) = me_N M := rfl
theorem me_L_sI (M : Me) (s i k : Nat) (v : Int32) : me_L (me_sI M s i k v) = me_L M := rfl
theorem me_L_sP (M : Me) (s i k : Nat) (v : Option (Nat × Nat)) : me_L (me_sP M s i k v) = me_L M := rfl
theorem me_I_sP (M : Me) (s i k : Nat) (v : Option (Nat × Nat)) : me_I (me_sP M s i k v) = me_I M := rfl
theorem me_P_sI (M : Me) (s i k : Nat) (v : Int32) : me_P (me_sI M s i k v) = me_P M := rfl
theorem me_C_sI (M : Me) (s i k : Nat) (v : Int32) : me_C (me_sI M s i k v) = me_C M := rfl
theorem me_C_sP (M : Me) (s i k : Nat) (v : Option (Nat × Nat)) : me_C (me_sP M s i k v) = me_C M := rfl
theorem me_S_sI (M : Me) (s i k : Nat) (v : Int32) : me_S (me_sI M s i k v) = me_S M := rfl
theorem me_S_sP (M : Me) (s i k : Nat) (v : Option (Nat × Nat)) : me_S (me_sP M s i k v) = me_S M := rfl
theorem me_I_sI (M : Me) (s i k : Nat) (v : Int32) (a b c : Nat) : me_I (me_sI M s i k v) a b c = if a = s ∧ b = i ∧ c = k then v else me_I M a b c := rfl
theorem me_P_sP (M : Me) (s i k : Nat) (v : Option (Nat × Nat)) (a b c : Nat) : me_P (me_sP M s i k v) a b c = if a = s ∧ b = i ∧ c = k then v else me_P M a b c := rfl
theorem me_I_nw (M : Me) (s n sl a b c : Nat) : me_I (me_nw M s n sl) a b c = if a = s ∧ b = me_N M s then 0 else me_I M a b c := rfl
theorem me_P_nw (M : Me) (s n sl a b c : Nat) : me_P (me_nw M s n sl) a b c = if a = s ∧ b = me_N M s then none else me_P M a b c := rfl
theorem me_L_nw (M : Me) (s n sl a b : Nat) : me_L (me_nw M s n sl) a b = if a = s ∧ b = me_N M s then n else me_L M a b := rfl
theorem me_N_nw (M : Me) (s n sl a : Nat) : me_N (me_nw M s n sl) a = if a = s then me_N M s + 1 else me_N M a := rfl
theorem me_C_nw (M : Me) (s n sl : Nat) : me_C (me_nw M s n sl) = me_C M + 1 := rfl
theorem me_S_nw (M : Me) (s n sl : Nat) : me_S (me_nw M s n sl) = me_S M + sl := rfl
theorem me_N_le_nw (M : Me) (s n sl a : Nat) : me_N M a ≤ me_N (me_nw M s n sl) a := by
  rw [me_N_nw]; split
  · rename_i h; subst h; omega
  · exact Nat.le_refl _
def me_fl (ρ : Rh) (M : Me) (ci s i : Nat) : List Value := (List.range (nf ci)).map (fun k => if fk ci k = true then va_rf (av_r ρ (me_P M s i k)) else .int (me_I M s i k))
def me_ce (cA : Nat → ClassId) (ρ : Rh) (M : Me) (q : Nat × Nat) : va_E := match sk q.1 with
  | .inl ci => .inr (ci, me_fl ρ M ci q.1 q.2)
  | .inr (.object _) => .inl (cA q.1, me_L M q.1 q.2, .inr (.inr (.inr (.inr (fun k => av_r ρ (me_P M q.1 q.2 k))))))
  | .inr _ => .inl (cA q.1, me_L M q.1 q.2, .inl (me_I M q.1 q.2))
def me_wl (cA : Nat → ClassId) (ρ : Rh) (M : Me) (ord : List (Nat × Nat)) : va_W := ord.map (fun q => (ρ q.1 q.2, me_ce cA ρ M q))
abbrev Gt : Type := Nat × va_G × (Nat → ClassId) × List (ClassId × FieldType) × (Nat → Nat)
def me_rl (G : Gt) (ρ : Rh) (M : Me) (H : Heap) : Prop := ∃ ord : List (Nat × Nat), ord.Nodup ∧ (∀ q, q ∈ ord ↔ (q.2 < me_N M q.1 ∧ st_is q.1 = false)) ∧ va_P G.2.1 vwCl (me_wl G.2.2.1 ρ M ord) H ∧ va_D (fun q => G.1 ≤ q) (me_wl G.2.2.1 ρ M ord) ∧ (∀ s i k, i < me_N M s → av_okr M (me_P M s i k)) ∧ (∀ s, st_is s = true → me_N M s = 1 ∧ ρ s 0 = G.2.2.2.2 s)
theorem me_at {cA : Nat → ClassId} {ρ : Rh} {M : Me} {ord : List (Nat × Nat)} {q : Nat × Nat} (hq : q ∈ ord) : ∃ n : Nat, ord[n]? = some q ∧ (me_wl cA ρ M ord)[n]? = some (ρ q.1 q.2, me_ce cA ρ M q) := by
  obtain ⟨n, hn⟩ := List.getElem?_of_mem hq
  exact ⟨n, hn, by rw [me_wl, List.getElem?_map, hn]; rfl⟩
theorem me_inj {ord : List (Nat × Nat)} (hnd : ord.Nodup) {i j : Nat} {q : Nat × Nat} (hi : ord[i]? = some q) (hj : ord[j]? = some q) : i = j := by
  have h1 := (List.getElem?_eq_some_iff.mp hi).1
  exact (List.getElem?_inj h1 hnd).mp (hi.trans hj.symm)
theorem me_wl_set {cA : Nat → ClassId} {ρ : Rh} {M M' : Me} {ord : List (Nat × Nat)} {n : Nat} {q : Nat × Nat} (hnd : ord.Nodup) (hq : ord[n]? = some q) (ho : ∀ q', q' ∈ ord → q' ≠ q → me_ce cA ρ M' q' = me_ce cA ρ M q') :
    (me_wl cA ρ M ord).set n (ρ q.1 q.2, me_ce cA ρ M' q) = me_wl cA ρ M' ord := by
  apply List.ext_getElem?
  intro j
  rw [List.getElem?_set]
  by_cases hj : n = j
  · subst hj
    have hl : n < (me_wl cA ρ M ord).length := by rw [me_wl, List.length_map]; exact (List.getElem?_eq_some_iff.mp hq).1
    rw [if_pos rfl, if_pos hl]
    rw [me_wl, List.getElem?_map, hq]; rfl
  · rw [if_neg hj]
    simp only [me_wl, List.getElem?_map]
    cases h : ord[j]? with
    | none => rfl
    | some q' =>
      have hne : q' ≠ q := fun e => hj (me_inj hnd hq (e ▸ h))
      simp only [Option.map_some, ho q' (List.mem_of_getElem? h) hne]
theorem me_fl_get {ρ : Rh} {M : Me} {ci s i k : Nat} (hk : k < nf ci) : (me_fl ρ M ci s i)[k]? = some (if fk ci k = true then va_rf (av_r ρ (me_P M s i k)) else .int (me_I M s i k)) := by
  simp [me_fl, hk]
theorem me_fl_len {ρ : Rh} {M : Me} {ci s i : Nat} : (me_fl ρ M ci s i).length = nf ci := by simp [me_fl]
theorem me_fl_setI {ρ : Rh} {M : Me} {ci s i k : Nat} (hf : fk ci k = false) (v : Int32) : (me_fl ρ M ci s i).set k (.int v) = me_fl ρ (me_sI M s i k v) ci s i := by
  apply List.ext_getElem?
  intro j
  rw [List.getElem?_set]
  by_cases hj : j < nf ci
  · by_cases hkj : k = j
    · subst hkj
      rw [if_pos rfl, me_fl_len, if_pos hj, me_fl_get hj, hf]
      simp [me_I_sI]
    · rw [if_neg hkj, me_fl_get hj, me_fl_get hj, me_P_sI, me_I_sI, if_neg (c := s = s ∧ i = i ∧ j = k) (fun h => hkj h.2.2.symm)]
  · have h1 : (me_fl ρ M ci s i)[j]? = none := List.getElem?_eq_none (by rw [me_fl_len]; omega)
    have h2 : (me_fl ρ (me_sI M s i k v) ci s i)[j]? = none := List.getElem?_eq_none (by rw [me_fl_len]; omega)
    rw [h1, h2, me_fl_len]
    split
    · rw [if_neg (by omega)]
    · rfl
theorem me_fl_setP {ρ : Rh} {M : Me} {ci s i k : Nat} (hf : fk ci k = true) (v : Option (Nat × Nat)) : (me_fl ρ M ci s i).set k (va_rf (av_r ρ v)) = me_fl ρ (me_sP M s i k v) ci s i := by
  apply List.ext_getElem?
  intro j
  rw [List.getElem?_set]
  by_cases hj : j < nf ci
  · by_cases hkj : k = j
    · subst hkj
      rw [if_pos rfl, me_fl_len, if_pos hj, me_fl_get hj, hf]
      simp [me_P_sP]
    · rw [if_neg hkj, me_fl_get hj, me_fl_get hj, me_I_sP, me_P_sP, if_neg (c := s = s ∧ i = i ∧ j = k) (fun h => hkj h.2.2.symm)]
  · have h1 : (me_fl ρ M ci s i)[j]? = none := List.getElem?_eq_none (by rw [me_fl_len]; omega)
    have h2 : (me_fl ρ (me_sP M s i k v) ci s i)[j]? = none := List.getElem?_eq_none (by rw [me_fl_len]; omega)
    rw [h1, h2, me_fl_len]
    split
    · rw [if_neg (by omega)]
    · rfl
theorem me_fl_off {ρ : Rh} {M M' : Me} {ci s i : Nat} (hI : ∀ k, me_I M' s i k = me_I M s i k) (hP : ∀ k, me_P M' s i k = me_P M s i k) : me_fl ρ M' ci s i = me_fl ρ M ci s i := by
  unfold me_fl
  apply List.map_congr_left
  intro k _
  rw [hI, hP]
theorem me_ce_off {cA : Nat → ClassId} {ρ : Rh} {M M' : Me} {q : Nat × Nat} (hI : ∀ k, me_I M' q.1 q.2 k = me_I M q.1 q.2 k) (hP : ∀ k, me_P M' q.1 q.2 k = me_P M q.1 q.2 k) (hL : me_L M' q.1 q.2 = me_L M q.1 q.2) : me_ce cA ρ M' q = me_ce cA ρ M q := by
  have hI' : me_I M' q.1 q.2 = me_I M q.1 q.2 := funext hI
  unfold me_ce
  cases sk q.1 with
  | inl ci => simp only [me_fl_off hI hP]
  | inr o => cases o <;> simp only [hI', hL, hP]
theorem me_ne {s i : Nat} {q : Nat × Nat} (h : q ≠ (s, i)) : ¬ (q.1 = s ∧ q.2 = i) := fun e => h (Prod.ext e.1 e.2)
/-- a new world behind a write of an int -/
theorem me_putI {G : Gt} {ρ : Rh} {M : Me} {H1 : Heap} {ord : List (Nat × Nat)} {n s i k : Nat} {v : Int32} (hnd : ord.Nodup) (hmem : ∀ q, q ∈ ord ↔ (q.2 < me_N M q.1 ∧ st_is q.1 = false)) (hok : ∀ s i k, i < me_N M s → av_okr M (me_P M s i k)) (hst : ∀ s, st_is s = true → me_N M s = 1 ∧ ρ s 0 = G.2.2.2.2 s) (hn : ord[n]? = some (s, i))
    {e' : va_E} (he : me_ce G.2.2.1 ρ (me_sI M s i k v) (s, i) = e') (hP : va_P G.2.1 vwCl ((me_wl G.2.2.1 ρ M ord).set n (ρ s i, e')) H1) (hD : va_D (fun q => G.1 ≤ q) ((me_wl G.2.2.1 ρ M ord).set n (ρ s i, e'))) : me_rl G ρ (me_sI M s i k v) H1 := by
  subst he
  have hw := me_wl_set (cA := G.2.2.1) (ρ := ρ) (M := M) (M' := me_sI M s i k v) hnd hn (fun q' _ hne => me_ce_off (fun k' => by rw [me_I_sI, if_neg (fun h => me_ne hne ⟨h.1, h.2.1⟩)]) (fun _ => rfl) rfl)
  rw [hw] at hP hD
  exact ⟨ord, hnd, hmem, hP, hD, hok, hst⟩
theorem me_putP {G : Gt} {ρ : Rh} {M : Me} {H1 : Heap} {ord : List (Nat × Nat)} {n s i k : Nat} {v : Option (Nat × Nat)} (hv : av_okr M v) (hnd : ord.Nodup) (hmem : ∀ q, q ∈ ord ↔ (q.2 < me_N M q.1 ∧ st_is q.1 = false)) (hok : ∀ s i k, i < me_N M s → av_okr M (me_P M s i k)) (hst : ∀ s, st_is s = true → me_N M s = 1 ∧ ρ s 0 = G.2.2.2.2 s) (hn : ord[n]? = some (s, i))
    {e' : va_E} (he : me_ce G.2.2.1 ρ (me_sP M s i k v) (s, i) = e') (hP : va_P G.2.1 vwCl ((me_wl G.2.2.1 ρ M ord).set n (ρ s i, e')) H1) (hD : va_D (fun q => G.1 ≤ q) ((me_wl G.2.2.1 ρ M ord).set n (ρ s i, e'))) : me_rl G ρ (me_sP M s i k v) H1 := by
  subst he
  have hw := me_wl_set (cA := G.2.2.1) (ρ := ρ) (M := M) (M' := me_sP M s i k v) hnd hn (fun q' _ hne => me_ce_off (fun _ => rfl) (fun k' => by rw [me_P_sP, if_neg (fun h => me_ne hne ⟨h.1, h.2.1⟩)]) rfl)
  rw [hw] at hP hD
  refine ⟨ord, hnd, hmem, hP, hD, ?_, hst⟩
  intro a b c hb
  show av_okr M (me_P (me_sP M s i k v) a b c)
  rw [me_P_sP]
  split
  · exact hv
  · exact hok a b c hb
def rh_up (ρ : Rh) (s i a : Nat) : Rh := fun s' i' => if s' = s ∧ i' = i then a else ρ s' i'
theorem rh_up_eq {ρ : Rh} {M : Me} {s a : Nat} : ∀ a' b, b < me_N M a' → rh_up ρ s (me_N M s) a a' b = ρ a' b := by
  intro a' b hb
  unfold rh_up
  rw [if_neg]
  rintro ⟨rfl, rfl⟩
  exact Nat.lt_irrefl _ hb
/-- a new world behind a making -/
theorem me_new {G : Gt} {ρ : Rh} {M : Me} {H1 : Heap} {ord : List (Nat × Nat)} {s len sl a : Nat} (hs : st_is s = false) (hnd : ord.Nodup) (hmem : ∀ q, q ∈ ord ↔ (q.2 < me_N M q.1 ∧ st_is q.1 = false)) (hok : ∀ s i k, i < me_N M s → av_okr M (me_P M s i k)) (hst : ∀ s, st_is s = true → me_N M s = 1 ∧ ρ s 0 = G.2.2.2.2 s)
    {e' : va_E} (he : me_ce G.2.2.1 (rh_up ρ s (me_N M s) a) (me_nw M s len sl) (s, me_N M s) = e') (hP : va_P G.2.1 vwCl (me_wl G.2.2.1 ρ M ord ++ [(a, e')]) H1) (hD : va_D (fun q => G.1 ≤ q) (me_wl G.2.2.1 ρ M ord ++ [(a, e')])) : me_rl G (rh_up ρ s (me_N M s) a) (me_nw M s len sl) H1 := by
  subst he
  have hnot : (s, me_N M s) ∉ ord := fun h => Nat.lt_irrefl _ ((hmem _).mp h).1
  have hw : me_wl G.2.2.1 ρ M ord ++ [(a, me_ce G.2.2.1 (rh_up ρ s (me_N M s) a) (me_nw M s len sl) (s, me_N M s))] = me_wl G.2.2.1 (rh_up ρ s (me_N M s) a) (me_nw M s len sl) (ord ++ [(s, me_N M s)]) := by
    unfold me_wl
    rw [List.map_append]
    congr 1
    · apply List.map_congr_left
      intro q hq
      have hlt := ((hmem q).mp hq).1
      have hne : ¬ (q.1 = s ∧ q.2 = me_N M s) := fun h => by rw [h.1, h.2] at hlt; exact Nat.lt_irrefl _ hlt
      have h1 : rh_up ρ s (me_N M s) a q.1 q.2 = ρ q.1 q.2 := rh_up_eq _ _ hlt
      have h2 : me_ce G.2.2.1 (rh_up ρ s (me_N M s) a) (me_nw M s len sl) q = me_ce G.2.2.1 ρ M q := by
        rw [me_ce_off (M := M) (fun k => by rw [me_I_nw, if_neg hne]) (fun k => by rw [me_P_nw, if_neg hne]) (by rw [me_L_nw, if_neg hne])]
        have hr : ∀ k, av_r (rh_up ρ s (me_N M s) a) (me_P M q.1 q.2 k) = av_r ρ (me_P M q.1 q.2 k) := fun k => av_r_eq (hok _ _ k hlt) rh_up_eq
        unfold me_ce
        cases sk q.1 with
        | inl ci => simp only [me_fl, hr]
        | inr o => cases o <;> simp only [hr]
      rw [h1, h2]
    · simp [rh_up]
  rw [hw] at hP hD
  refine ⟨_, ?_, ?_, hP, hD, ?_, ?_⟩
  · rw [List.nodup_append]
    refine ⟨hnd, by simp, ?_⟩
    intro x hx y hy e
    rw [List.mem_singleton] at hy
    subst hy; subst e
    exact hnot hx
  · intro q
    rw [List.mem_append, List.mem_singleton, hmem, me_N_nw]
    constructor
    · rintro (⟨h1, h2⟩ | rfl)
      · refine ⟨?_, h2⟩
        split
        · rename_i h; rw [h] at h1; omega
        · exact h1
      · exact ⟨by simp, hs⟩
    · rintro ⟨h1, h2⟩
      by_cases h : q.1 = s
      · rw [if_pos h] at h1
        by_cases h3 : q.2 = me_N M s
        · exact Or.inr (Prod.ext h h3)
        · exact Or.inl ⟨by rw [h]; omega, h2⟩
      · rw [if_neg h] at h1
        exact Or.inl ⟨h1, h2⟩
  · intro s' i' k' hi
    rw [me_P_nw]
    split
    · intro x hx; cases hx
    · rename_i hne
      refine av_okr_mono (me_N_le_nw M s len sl) (hok s' i' k' ?_)
      rw [me_N_nw] at hi
      split at hi
      · rename_i h; subst h
        have : i' ≠ me_N M s' := fun e => hne ⟨rfl, e⟩
        omega
      · exact hi
  · intro s' h'
    have hne : s' ≠ s := fun e => by rw [e, hs] at h'; cases h'
    obtain ⟨h1, h2⟩ := hst s' h'
    refine ⟨by rw [me_N_nw, if_neg hne]; exact h1, ?_⟩
    unfold rh_up
    rw [if_neg (fun e => hne e.1)]
    exact h2
end
section
def gk_ok (G : Gt) (U : State) (H : Heap) : Prop := va_K G.2.1 vwCl G.2.2.2.1 U ∧ (∀ s ty, ar_ty s = some ty → ∃ t0 : Nat, G.2.2.2.1[t0]? = some (G.2.2.1 s, ty)) ∧ (∀ w ∈ nest_w, va_Nw w U) ∧ (∀ C ∈ over_c, va_AO C U) ∧ (∀ q ∈ st_l, va_Z "PollYard" q.2.1 "[I" (.ref (G.2.2.2.2 q.1)) (fun a => G.1 ≤ a) U H ∧ va_T .int (G.2.2.2.2 q.1) 16 (fun j => .int (q.2.2.getD j 0)) (fun a => G.1 ≤ a) U H)
theorem gk_K {G : Gt} {U : State} {H : Heap} (h : gk_ok G U H) : va_K G.2.1 vwCl G.2.2.2.1 U := h.1
theorem gk_ar {G : Gt} {U : State} {H : Heap} (h : gk_ok G U H) : ∀ s ty, ar_ty s = some ty → ∃ t0 : Nat, G.2.2.2.1[t0]? = some (G.2.2.1 s, ty) := h.2.1
theorem nest_warm {s U : State} (hW : s.WarmedH U.vm) : ∀ w ∈ nest_w, va_Nw w s → va_Nw w U := by
  intro w hw h
  simp only [nest_w, List.mem_cons, List.not_mem_nil, or_false] at hw
  rcases hw with rfl | rfl | rfl | rfl <;> first | exact va_Nw.warmM hW h | exact va_Nw.warmF hW h
theorem nest_tab : ∀ w ∈ nest_w, w.onTables = true := by
  intro w hw
  simp only [nest_w, List.mem_cons, List.not_mem_nil, or_false] at hw
  rcases hw with rfl | rfl | rfl | rfl <;> rfl
theorem gk_warm {G : Gt} {s U : State} (h : gk_ok G s s.heap) (hW : s.WarmedH U.vm) (hh : ∀ q, q < G.1 → U.heap[q]? = s.heap[q]?) : gk_ok G U U.heap :=
  ⟨va_K.moved hW.alike h.1, h.2.1, fun w hw => nest_warm hW w hw (h.2.2.1 w hw), fun C hC => va_AO.moved hW.alike (h.2.2.2.1 C hC), fun q hq => ⟨((h.2.2.2.2 q hq).1.moved hW.alike).kept (fun a _ ha => hh a (Nat.not_le.mp ha)), ((h.2.2.2.2 q hq).2.moved hW.alike).kept (fun a _ ha => hh a (Nat.not_le.mp ha))⟩⟩
theorem gk_same {G : Gt} {u U : State} (hv : u.vm = U.vm) (h : gk_ok G u u.heap) : gk_ok G U u.heap := by
  have ha : u.vm.Alike U.vm := by rw [hv]; exact Vm.Alike.refl _
  exact ⟨va_K.moved ha h.1, h.2.1, fun w hw => va_Nw.same (nest_tab w hw) hv (h.2.2.1 w hw), fun C hC => va_AO.moved ha (h.2.2.2.1 C hC), fun q hq => ⟨(h.2.2.2.2 q hq).1.moved ha, (h.2.2.2.2 q hq).2.moved ha⟩⟩
end
section
abbrev Yt : Type := ByteArray × Nat × String × String × Option FieldType
def fr_ok (G : Gt) (Y : Yt) (p : Program) (s : State) (m : MethodId) (args : Array Value) (meth : Method) (c : Code) : Prop :=
  p.tables.exec = Jvm.exec ∧ c.code = Y.1 ∧ c.maxLocals = Y.2.1 ∧ s.vm.findClass Y.2.2.1 = some m.cls ∧ meth.name = Y.2.2.2.1 ∧ meth.sig.returnType = Y.2.2.2.2 ∧ (∀ w ∈ TS, w.before args s = true) ∧ meth.locks = false ∧ gk_ok G s s.heap ∧ G.1 ≤ s.heap.size
def rm_of (d c s : Nat) : Room := { frames := d, cells := c, slots := s, locals := 64 * d }
def q_of (G : Gt) (ρe : Rh) (ne : Nat → Nat) (r : Option AV) (M' : Me) : Array Value → State → Outcome → State → Prop := fun _ st o t => ∃ ρ' : Rh, o = .returned (r.map (av_tv ρ')) ∧ me_rl G ρ' M' t.heap ∧ (∀ a b, b < ne a → ρ' a b = ρe a b) ∧ (∀ a, ne a ≤ me_N M' a) ∧ (∀ v, r = some v → av_ok M' v) ∧ va_F (fun q => G.1 ≤ q) st t
def lc_ok (nL : Nat) (ρ : Rh) (M : Me) (lc : List (Option AV)) (ls : Array Slot) : Prop := ls.size = nL ∧ lv_wf ls ∧ ∀ (i : Nat) (v : AV), lc[i]? = some (some v) → ls[i]? = some (Slot.val (av_tv ρ v)) ∧ av_ok M v
def jw (G : Gt) (Y : Yt) (d c0 s0 : Nat) (M : Me) (pc : Nat) (lc : List (Option AV)) (st : List AV) (r : Option AV) (M' : Me) : Prop :=
  (me_C M ≤ me_C M' ∧ me_S M ≤ me_S M') ∧
  ∀ (p : Program) (l : Launch) (e : Env) (s : State) (m : MethodId) (args : Array Value) (below : List Frame) (meth : Method) (c : Code) (ρe : Rh) (ne : Nat → Nat) (ρ : Rh) (H : Heap) (locs : List Loc) (cells slots : Nat) (ls : Array Slot),
    fr_ok G Y p s m args meth c → me_rl G ρ M H → va_S (fun q => G.1 ≤ q) s.heap H locs → (∀ a b, b < ne a → ρ a b = ρe a b) → (∀ a, ne a ≤ me_N M a) → cells + c0 = me_C M → slots + s0 = me_S M → lc_ok Y.2.1 ρ M lc ls → (∀ v ∈ st, av_ok M v) →
    W p l e (rm_of d (me_C M' - c0) (me_S M' - s0)) s m args below meth c H locs cells slots (MQ below (q_of G ρe ne r M') args s (me_C M' - c0) (me_S M' - s0) (fun q => G.1 ≤ q)) (F0 m pc ls (st.map (av_tv ρ)))
theorem lc_mono {nL : Nat} {ρ ρ' : Rh} {M M' : Me} {lc : List (Option AV)} {ls : Array Slot} (h : lc_ok nL ρ M lc ls) (hn : ∀ a, me_N M a ≤ me_N M' a) (he : ∀ a b, b < me_N M a → ρ' a b = ρ a b) : lc_ok nL ρ' M' lc ls :=
  ⟨h.1, h.2.1, fun i v hv => ⟨by rw [av_tv_eq (h.2.2 i v hv).2 he]; exact (h.2.2 i v hv).1, av_ok_mono hn (h.2.2 i v hv).2⟩⟩
def lc_li (ρ : Rh) (lc : List (Option AV)) : List (Nat × Value) := lc.zipIdx.filterMap (fun q => q.1.map (fun v => (q.2, av_tv ρ v)))
theorem lc_li_mem {ρ : Rh} {lc : List (Option AV)} {i : Nat} {v : AV} (h : lc[i]? = some (some v)) : (i, av_tv ρ v) ∈ lc_li ρ lc := by
  unfold lc_li
  rw [List.mem_filterMap]
  refine ⟨(some v, i), ?_, rfl⟩
  rw [List.mem_zipIdx_iff_getElem?]
  exact h
theorem lc_li_of {ρ : Rh} {lc : List (Option AV)} {q : Nat × Value} (h : q ∈ lc_li ρ lc) : ∃ v, lc[q.1]? = some (some v) ∧ q.2 = av_tv ρ v := by
  unfold lc_li at h
  rw [List.mem_filterMap] at h
  obtain ⟨⟨o, i⟩, h1, h2⟩ := h
  rw [List.mem_zipIdx_iff_getElem?] at h1
  cases o with
  | none => cases h2
  | some v =>
    cases h2
    exact ⟨v, h1, rfl⟩
theorem lc_has {nL : Nat} {ρ : Rh} {M : Me} {lc : List (Option AV)} {ls : Array Slot} (h : lc_ok nL ρ M lc ls) : lv_has ls nL (lc_li ρ lc) :=
  ⟨h.1, h.2.1, fun q hq => by
    obtain ⟨v, h1, h2⟩ := lc_li_of hq
    rw [h2]; exact (h.2.2 q.1 v h1).1⟩
theorem lc_back {nL i : Nat} {ρ : Rh} {M : Me} {lc : List (Option AV)} {ls ls' : Array Slot} {v : AV} (h : lc_ok nL ρ M lc ls) (hv : av_ok M v) (h' : lv_has ls' nL ((i, av_tv ρ v) :: (lc_li ρ lc).filter (fun q => !(q.1 == i) && !(q.1 + 1 == i && q.2.category == 2)))) : lc_ok nL ρ M (lc.set i (some v)) ls' := by
  refine ⟨h'.1, h'.2.1, fun j w hw => ?_⟩
  rw [List.getElem?_set] at hw
  split at hw
  · rename_i hij; subst hij
    split at hw
    · cases hw
      exact ⟨h'.2.2 _ List.mem_cons_self, hv⟩
    · cases hw
  · rename_i hij
    refine ⟨?_, (h.2.2 j w hw).2⟩
    refine h'.2.2 (j, av_tv ρ w) (List.mem_cons_of_mem _ (List.mem_filter.mpr ⟨lc_li_mem hw, ?_⟩))
    simp [av_cat, Ne.symm hij]
theorem jw_go {G : Gt} {Y : Yt} {d c0 s0 : Nat} {M M' : Me} {pc pc' : Nat} {lc : List (Option AV)} {st st' : List AV} {r : Option AV}
    (h : ∀ {p : Program} {l : Launch} {e : Env} {R : Room} {s : State} {m : MethodId} {args : Array Value} {below : List Frame} {meth : Method} {c : Code} {H : Heap} {locs : List Loc} {cells slots : Nat} {Q : State → Prop} {ls : Array Slot} {ρ : Rh}, p.tables.exec = Jvm.exec → c.code = Y.1 → s.vm.findClass Y.2.2.1 = some m.cls → (∀ w ∈ TS, w.before args s = true) → lc_ok Y.2.1 ρ M lc ls → W p l e R s m args below meth c H locs cells slots Q (F0 m pc' ls (st'.map (av_tv ρ))) → W p l e R s m args below meth c H locs cells slots Q (F0 m pc ls (st.map (av_tv ρ))))
    (ho : (∀ (i : Nat) (v : AV), lc[i]? = some (some v) → av_ok M v) → (∀ v ∈ st, av_ok M v) → ∀ v ∈ st', av_ok M v) (k : jw G Y d c0 s0 M pc' lc st' r M') : jw G Y d c0 s0 M pc lc st r M' :=
  ⟨k.1, fun p l e s m args below meth c ρe ne ρ H locs cells slots ls hF hR hS ha hn hc hs hl hst => h hF.1 hF.2.1 hF.2.2.2.1 hF.2.2.2.2.2.2.1 hl (k.2 p l e s m args below meth c ρe ne ρ H locs cells slots ls hF hR hS ha hn hc hs hl (ho (fun i v hv => (hl.2.2 i v hv).2) hst))⟩
theorem jw_sto {G : Gt} {Y : Yt} {d c0 s0 : Nat} {M M' : Me} {pc pc' i : Nat} {lc : List (Option AV)} {st st' : List AV} {v : AV} {r : Option AV}
    (h : ∀ {p : Program} {l : Launch} {e : Env} {R : Room} {s : State} {m : MethodId} {args : Array Value} {below : List Frame} {meth : Method} {c : Code} {H : Heap} {locs : List Loc} {cells slots : Nat} {Q : State → Prop} {ls : Array Slot} {ρ : Rh}, p.tables.exec = Jvm.exec → c.code = Y.1 → lc_ok Y.2.1 ρ M lc ls → (∀ ls' : Array Slot, lv_has ls' Y.2.1 ((i, av_tv ρ v) :: (lc_li ρ lc).filter (fun q => !(q.1 == i) && !(q.1 + 1 == i && q.2.category == 2))) → W p l e R s m args below meth c H locs cells slots Q (F0 m pc' ls' (st'.map (av_tv ρ)))) → W p l e R s m args below meth c H locs cells slots Q (F0 m pc ls (st.map (av_tv ρ))))
    (ho : (∀ v ∈ st, av_ok M v) → (∀ v ∈ st', av_ok M v) ∧ av_ok M v) (k : jw G Y d c0 s0 M pc' (lc.set i (some v)) st' r M') : jw G Y d c0 s0 M pc lc st r M' :=
  ⟨k.1, fun p l e s m args below meth c ρe ne ρ H locs cells slots ls hF hR hS ha hn hc hs hl hst => h hF.1 hF.2.1 hl (fun ls' hl' => k.2 p l e s m args below meth c ρe ne ρ H locs cells slots ls' hF hR hS ha hn hc hs (lc_back hl (ho hst).2 hl') (ho hst).1)⟩
section RowsA
variable {G : Gt} {Y : Yt} {d c0 s0 : Nat} {M M' : Me} {pc : Nat} {lc : List (Option AV)} {st : List AV} {r : Option AV}
theorem jw_iconst {n : Int} (v : Int32) (hd : decode Y.1 pc = .ok (.iconst n, 1)) (hv : Int32.ofInt n = v) (k : jw G Y d c0 s0 M (pc + 1) lc (.inl v :: st) r M') : jw G Y d c0 s0 M pc lc st r M' :=
  jw_go (fun hx hb _ _ _ k => lv_iconst hx hb hd hv k) (fun _ h v hv => by rcases List.mem_cons.mp hv with rfl | hv; exact av_ok_i; exact h v hv) k
theorem jw_bipush {n : Int} (v : Int32) (hd : decode Y.1 pc = .ok (.bipush n, 2)) (hv : (Int8.ofInt n).toInt32 = v) (k : jw G Y d c0 s0 M (pc + 2) lc (.inl v :: st) r M') : jw G Y d c0 s0 M pc lc st r M' :=
  jw_go (fun hx hb _ _ _ k => lv_bipush hx hb hd hv k) (fun _ h v hv => by rcases List.mem_cons.mp hv with rfl | hv; exact av_ok_i; exact h v hv) k
theorem jw_sipush {n : Int} (v : Int32) (hd : decode Y.1 pc = .ok (.sipush n, 3)) (hv : (Int16.ofInt n).toInt32 = v) (k : jw G Y d c0 s0 M (pc + 3) lc (.inl v :: st) r M') : jw G Y d c0 s0 M pc lc st r M' :=
  jw_go (fun hx hb _ _ _ k => lv_sipush hx hb hd hv k) (fun _ h v hv => by rcases List.mem_cons.mp hv with rfl | hv; exact av_ok_i; exact h v hv) k
theorem jw_null (hd : decode Y.1 pc = .ok (.aconst_null, 1)) (k : jw G Y d c0 s0 M (pc + 1) lc (.inr none :: st) r M') : jw G Y d c0 s0 M pc lc st r M' :=
  jw_go (fun hx hb _ _ _ k => lv_null hx hb hd k) (fun _ h v hv => by rcases List.mem_cons.mp hv with rfl | hv; exact av_ok_n; exact h v hv) k
theorem jw_iload_n {n : Fin 4} (i : Nat) {x : Int32} (hd : decode Y.1 pc = .ok (.iload_n n, 1)) (hi : (n : Nat) = i) (hl : lc[i]? = some (some (.inl x))) (k : jw G Y d c0 s0 M (pc + 1) lc (.inl x :: st) r M') : jw G Y d c0 s0 M pc lc st r M' :=
  jw_go (fun hx hb _ _ hlc k => lv_iload_n hx hb hd hi (hlc.2.2 i _ hl).1 k) (fun _ h v hv => by rcases List.mem_cons.mp hv with rfl | hv; exact av_ok_i; exact h v hv) k
theorem jw_iload {i : Nat} {x : Int32} (hd : decode Y.1 pc = .ok (.iload i, 2)) (hl : lc[i]? = some (some (.inl x))) (k : jw G Y d c0 s0 M (pc + 2) lc (.inl x :: st) r M') : jw G Y d c0 s0 M pc lc st r M' :=
  jw_go (fun hx hb _ _ hlc k => lv_iload hx hb hd (hlc.2.2 i _ hl).1 k) (fun _ h v hv => by rcases List.mem_cons.mp hv with rfl | hv; exact av_ok_i; exact h v hv) k
theorem jw_aload_n {n : Fin 4} (i : Nat) {o : Option (Nat × Nat)} (hd : decode Y.1 pc = .ok (.aload_n n, 1)) (hi : (n : Nat) = i) (hl : lc[i]? = some (some (.inr o))) (k : jw G Y d c0 s0 M (pc + 1) lc (.inr o :: st) r M') : jw G Y d c0 s0 M pc lc st r M' :=
  jw_go (fun hx hb _ _ hlc k => by
    have h1 := (hlc.2.2 i _ hl).1
    cases o with
    | none => exact lv_aload_nN hx hb hd hi h1 k
    | some a => exact lv_aload_n hx hb hd hi h1 k) (fun hl' h v hv => by rcases List.mem_cons.mp hv with rfl | hv; exact hl' i _ hl; exact h v hv) k
theorem jw_aload {i : Nat} {o : Option (Nat × Nat)} (hd : decode Y.1 pc = .ok (.aload i, 2)) (hl : lc[i]? = some (some (.inr o))) (k : jw G Y d c0 s0 M (pc + 2) lc (.inr o :: st) r M') : jw G Y d c0 s0 M pc lc st r M' :=
  jw_go (fun hx hb _ _ hlc k => by
    have h1 := (hlc.2.2 i _ hl).1
    cases o with
    | none => exact lv_aloadN hx hb hd h1 k
    | some a => exact lv_aload hx hb hd h1 k) (fun hl' h v hv => by rcases List.mem_cons.mp hv with rfl | hv; exact hl' i _ hl; exact h v hv) k
theorem jw_istore_n {n : Fin 4} (i : Nat) {x : Int32} (hd : decode Y.1 pc = .ok (.istore_n n, 1)) (hi : (n : Nat) = i) (hn : i < Y.2.1) (k : jw G Y d c0 s0 M (pc + 1) (lc.set i (some (.inl x))) st r M') : jw G Y d c0 s0 M pc lc (.inl x :: st) r M' :=
  jw_sto (fun hx hb hlc k => lv_istore_n hx hb hd hi (lc_has hlc) hn rfl k) (fun h => ⟨fun v hv => h v (List.mem_cons_of_mem _ hv), av_ok_i⟩) k
theorem jw_istore {i : Nat} {x : Int32} (hd : decode Y.1 pc = .ok (.istore i, 2)) (hn : i < Y.2.1) (k : jw G Y d c0 s0 M (pc + 2) (lc.set i (some (.inl x))) st r M') : jw G Y d c0 s0 M pc lc (.inl x :: st) r M' :=
  jw_sto (fun hx hb hlc k => lv_istore hx hb hd (lc_has hlc) hn rfl k) (fun h => ⟨fun v hv => h v (List.mem_cons_of_mem _ hv), av_ok_i⟩) k
theorem jw_astore_n {n : Fin 4} (i : Nat) {o : Option (Nat × Nat)} (hd : decode Y.1 pc = .ok (.astore_n n, 1)) (hi : (n : Nat) = i) (hn : i < Y.2.1) (k : jw G Y d c0 s0 M (pc + 1) (lc.set i (some (.inr o))) st r M') : jw G Y d c0 s0 M pc lc (.inr o :: st) r M' :=
  jw_sto (v := .inr o) (fun hx hb hlc k => by
    cases o with
    | none => exact lv_astore_nN hx hb hd hi (lc_has hlc) hn rfl k
    | some a => exact lv_astore_n hx hb hd hi (lc_has hlc) hn rfl k) (fun h => ⟨fun v hv => h v (List.mem_cons_of_mem _ hv), h _ List.mem_cons_self⟩) k
theorem jw_astore {i : Nat} {o : Option (Nat × Nat)} (hd : decode Y.1 pc = .ok (.astore i, 2)) (hn : i < Y.2.1) (k : jw G Y d c0 s0 M (pc + 2) (lc.set i (some (.inr o))) st r M') : jw G Y d c0 s0 M pc lc (.inr o :: st) r M' :=
  jw_sto (v := .inr o) (fun hx hb hlc k => by
    cases o with
    | none => exact lv_astoreN hx hb hd (lc_has hlc) hn rfl k
    | some a => exact lv_astore hx hb hd (lc_has hlc) hn rfl k) (fun h => ⟨fun v hv => h v (List.mem_cons_of_mem _ hv), h _ List.mem_cons_self⟩) k
theorem jw_iinc {i : Nat} {n : Int} {x : Int32} (v : Int32) (hd : decode Y.1 pc = .ok (.iinc i n, 3)) (hl : lc[i]? = some (some (.inl x))) (hv : x + Int32.ofInt n = v) (hn : i < Y.2.1) (k : jw G Y d c0 s0 M (pc + 3) (lc.set i (some (.inl v))) st r M') : jw G Y d c0 s0 M pc lc st r M' :=
  jw_sto (v := .inl v) (fun {p l e R s m args below meth c H locs cells slots Q ls ρ} hx hb hlc k => by
    obtain ⟨j, hj⟩ := List.getElem?_of_mem (lc_li_mem (ρ := ρ) hl)
    exact lv_iinc hx hb hd (lc_has hlc) hj hv hn rfl k) (fun h => ⟨h, av_ok_i⟩) k
theorem jw_iadd {x y : Int32} (hd : decode Y.1 pc = .ok (.iadd, 1)) (k : jw G Y d c0 s0 M (pc + 1) lc (.inl (x + y) :: st) r M') : jw G Y d c0 s0 M pc lc (.inl y :: .inl x :: st) r M' :=
  jw_go (fun hx hb _ _ _ k => lv_iadd hx hb hd k) (fun _ h v hv => by rcases List.mem_cons.mp hv with rfl | hv; exact av_ok_i; exact h v (List.mem_cons_of_mem _ (List.mem_cons_of_mem _ hv))) k
theorem jw_isub {x y : Int32} (hd : decode Y.1 pc = .ok (.isub, 1)) (k : jw G Y d c0 s0 M (pc + 1) lc (.inl (x - y) :: st) r M') : jw G Y d c0 s0 M pc lc (.inl y :: .inl x :: st) r M' :=
  jw_go (fun hx hb _ _ _ k => lv_isub hx hb hd k) (fun _ h v hv => by rcases List.mem_cons.mp hv with rfl | hv; exact av_ok_i; exact h v (List.mem_cons_of_mem _ (List.mem_cons_of_mem _ hv))) k
theorem jw_imul {x y : Int32} (hd : decode Y.1 pc = .ok (.imul, 1)) (k : jw G Y d c0 s0 M (pc + 1) lc (.inl (x * y) :: st) r M') : jw G Y d c0 s0 M pc lc (.inl y :: .inl x :: st) r M' :=
  jw_go (fun hx hb _ _ _ k => lv_imul hx hb hd k) (fun _ h v hv => by rcases List.mem_cons.mp hv with rfl | hv; exact av_ok_i; exact h v (List.mem_cons_of_mem _ (List.mem_cons_of_mem _ hv))) k
theorem jw_iand {x y : Int32} (hd : decode Y.1 pc = .ok (.iand, 1)) (k : jw G Y d c0 s0 M (pc + 1) lc (.inl (x &&& y) :: st) r M') : jw G Y d c0 s0 M pc lc (.inl y :: .inl x :: st) r M' :=
  jw_go (fun hx hb _ _ _ k => lv_iand hx hb hd k) (fun _ h v hv => by rcases List.mem_cons.mp hv with rfl | hv; exact av_ok_i; exact h v (List.mem_cons_of_mem _ (List.mem_cons_of_mem _ hv))) k
theorem jw_ior {x y : Int32} (hd : decode Y.1 pc = .ok (.ior, 1)) (k : jw G Y d c0 s0 M (pc + 1) lc (.inl (x ||| y) :: st) r M') : jw G Y d c0 s0 M pc lc (.inl y :: .inl x :: st) r M' :=
  jw_go (fun hx hb _ _ _ k => lv_ior hx hb hd k) (fun _ h v hv => by rcases List.mem_cons.mp hv with rfl | hv; exact av_ok_i; exact h v (List.mem_cons_of_mem _ (List.mem_cons_of_mem _ hv))) k
theorem jw_ixor {x y : Int32} (hd : decode Y.1 pc = .ok (.ixor, 1)) (k : jw G Y d c0 s0 M (pc + 1) lc (.inl (x ^^^ y) :: st) r M') : jw G Y d c0 s0 M pc lc (.inl y :: .inl x :: st) r M' :=
  jw_go (fun hx hb _ _ _ k => lv_ixor hx hb hd k) (fun _ h v hv => by rcases List.mem_cons.mp hv with rfl | hv; exact av_ok_i; exact h v (List.mem_cons_of_mem _ (List.mem_cons_of_mem _ hv))) k
theorem jw_idiv {x y : Int32} (hd : decode Y.1 pc = .ok (.idiv, 1)) (hne : ¬ y = 0) (k : jw G Y d c0 s0 M (pc + 1) lc (.inl (x / y) :: st) r M') : jw G Y d c0 s0 M pc lc (.inl y :: .inl x :: st) r M' :=
  jw_go (fun hx hb _ _ _ k => lv_idiv hx hb hd hne k) (fun _ h v hv => by rcases List.mem_cons.mp hv with rfl | hv; exact av_ok_i; exact h v (List.mem_cons_of_mem _ (List.mem_cons_of_mem _ hv))) k
theorem jw_irem {x y : Int32} (hd : decode Y.1 pc = .ok (.irem, 1)) (hne : ¬ y = 0) (k : jw G Y d c0 s0 M (pc + 1) lc (.inl (x - x / y * y) :: st) r M') : jw G Y d c0 s0 M pc lc (.inl y :: .inl x :: st) r M' :=
  jw_go (fun hx hb _ _ _ k => lv_irem hx hb hd hne k) (fun _ h v hv => by rcases List.mem_cons.mp hv with rfl | hv; exact av_ok_i; exact h v (List.mem_cons_of_mem _ (List.mem_cons_of_mem _ hv))) k
theorem jw_ineg {x : Int32} (hd : decode Y.1 pc = .ok (.ineg, 1)) (k : jw G Y d c0 s0 M (pc + 1) lc (.inl (-x) :: st) r M') : jw G Y d c0 s0 M pc lc (.inl x :: st) r M' :=
  jw_go (fun hx hb _ _ _ k => lv_ineg hx hb hd k) (fun _ h v hv => by rcases List.mem_cons.mp hv with rfl | hv; exact av_ok_i; exact h v (List.mem_cons_of_mem _ hv)) k
theorem jw_dup {a : AV} (hd : decode Y.1 pc = .ok (.dup, 1)) (k : jw G Y d c0 s0 M (pc + 1) lc (a :: a :: st) r M') : jw G Y d c0 s0 M pc lc (a :: st) r M' :=
  jw_go (fun hx hb _ _ _ k => lv_dup hx hb hd (av_cat _ _) k) (fun _ h v hv => h v (by simp only [List.mem_cons] at hv ⊢; rcases hv with h1 | h1 | h1 <;> simp [h1])) k
theorem jw_pop {a : AV} (hd : decode Y.1 pc = .ok (.pop, 1)) (k : jw G Y d c0 s0 M (pc + 1) lc st r M') : jw G Y d c0 s0 M pc lc (a :: st) r M' :=
  jw_go (fun hx hb _ _ _ k => lv_pop hx hb hd (av_cat _ _) k) (fun _ h v hv => h v (List.mem_cons_of_mem _ hv)) k
theorem jw_dup_x1 {a b : AV} (hd : decode Y.1 pc = .ok (.dup_x1, 1)) (k : jw G Y d c0 s0 M (pc + 1) lc (a :: b :: a :: st) r M') : jw G Y d c0 s0 M pc lc (a :: b :: st) r M' :=
  jw_go (fun hx hb _ _ _ k => lv_dup_x1 hx hb hd (av_cat _ _) (av_cat _ _) k) (fun _ h v hv => h v (by simp only [List.mem_cons] at hv ⊢; rcases hv with h1 | h1 | h1 | h1 <;> simp [h1])) k
theorem jw_dup_x2 {a b a2 : AV} (hd : decode Y.1 pc = .ok (.dup_x2, 1)) (k : jw G Y d c0 s0 M (pc + 1) lc (a :: b :: a2 :: a :: st) r M') : jw G Y d c0 s0 M pc lc (a :: b :: a2 :: st) r M' :=
  jw_go (fun hx hb _ _ _ k => lv_dup_x2 hx hb hd (av_cat _ _) (av_cat _ _) (av_cat _ _) k) (fun _ h v hv => h v (by simp only [List.mem_cons] at hv ⊢; rcases hv with h1 | h1 | h1 | h1 | h1 <;> simp [h1])) k
theorem jw_dup2 {a b : AV} (hd : decode Y.1 pc = .ok (.dup2, 1)) (k : jw G Y d c0 s0 M (pc + 1) lc (a :: b :: a :: b :: st) r M') : jw G Y d c0 s0 M pc lc (a :: b :: st) r M' :=
  jw_go (fun hx hb _ _ _ k => lv_dup2_11 hx hb hd (av_cat _ _) (av_cat _ _) k) (fun _ h v hv => h v (by simp only [List.mem_cons] at hv ⊢; rcases hv with h1 | h1 | h1 | h1 | h1 <;> simp [h1])) k
theorem jw_goto {off : Int} (tgt : Nat) (hd : decode Y.1 pc = .ok (.goto off, 3)) (ht : (pc : Int) + off = (tgt : Int)) (k : jw G Y d c0 s0 M tgt lc st r M') : jw G Y d c0 s0 M pc lc st r M' :=
  jw_go (fun hx hb _ _ _ k => lv_goto hx hb hd ht k) (fun _ h => h) k
theorem jw_if_eq {x : Int32} {off : Int} (tgt : Nat) (hd : decode Y.1 pc = .ok (.ifCond .eq off, 3)) (ht : (pc : Int) + off = (tgt : Int)) (kt : x = 0 → jw G Y d c0 s0 M tgt lc st r M') (kf : ¬ x = 0 → jw G Y d c0 s0 M (pc + 3) lc st r M') : jw G Y d c0 s0 M pc lc (.inl x :: st) r M' := by
  rcases Classical.em (x = 0) with h | h
  · exact jw_go (fun hx hb _ _ _ k => lv_if_eq hx hb hd ht (fun _ => k) (fun q => absurd h q)) (fun _ h v hv => h v (List.mem_cons_of_mem _ hv)) (kt h)
  · exact jw_go (fun hx hb _ _ _ k => lv_if_eq hx hb hd ht (fun q => absurd q h) (fun _ => k)) (fun _ h v hv => h v (List.mem_cons_of_mem _ hv)) (kf h)
theorem jw_if_ne {x : Int32} {off : Int} (tgt : Nat) (hd : decode Y.1 pc = .ok (.ifCond .ne off, 3)) (ht : (pc : Int) + off = (tgt : Int)) (kt : ¬ x = 0 → jw G Y d c0 s0 M tgt lc st r M') (kf : x = 0 → jw G Y d c0 s0 M (pc + 3) lc st r M') : jw G Y d c0 s0 M pc lc (.inl x :: st) r M' := by
  rcases Classical.em (x = 0) with h | h
  · exact jw_go (fun hx hb _ _ _ k => lv_if_ne hx hb hd ht (fun q => absurd h q) (fun _ => k)) (fun _ h v hv => h v (List.mem_cons_of_mem _ hv)) (kf h)
  · exact jw_go (fun hx hb _ _ _ k => lv_if_ne hx hb hd ht (fun _ => k) (fun q => absurd q h)) (fun _ h v hv => h v (List.mem_cons_of_mem _ hv)) (kt h)
theorem jw_if_lt {x : Int32} {off : Int} (tgt : Nat) (hd : decode Y.1 pc = .ok (.ifCond .lt off, 3)) (ht : (pc : Int) + off = (tgt : Int)) (kt : x < 0 → jw G Y d c0 s0 M tgt lc st r M') (kf : ¬ x < 0 → jw G Y d c0 s0 M (pc + 3) lc st r M') : jw G Y d c0 s0 M pc lc (.inl x :: st) r M' := by
  rcases Classical.em (x < 0) with h | h
  · exact jw_go (fun hx hb _ _ _ k => lv_if_lt hx hb hd ht (fun _ => k) (fun q => absurd h q)) (fun _ h v hv => h v (List.mem_cons_of_mem _ hv)) (kt h)
  · exact jw_go (fun hx hb _ _ _ k => lv_if_lt hx hb hd ht (fun q => absurd q h) (fun _ => k)) (fun _ h v hv => h v (List.mem_cons_of_mem _ hv)) (kf h)
theorem jw_if_ge {x : Int32} {off : Int} (tgt : Nat) (hd : decode Y.1 pc = .ok (.ifCond .ge off, 3)) (ht : (pc : Int) + off = (tgt : Int)) (kt : 0 ≤ x → jw G Y d c0 s0 M tgt lc st r M') (kf : ¬ 0 ≤ x → jw G Y d c0 s0 M (pc + 3) lc st r M') : jw G Y d c0 s0 M pc lc (.inl x :: st) r M' := by
  rcases Classical.em (0 ≤ x) with h | h
  · exact jw_go (fun hx hb _ _ _ k => lv_if_ge hx hb hd ht (fun _ => k) (fun q => absurd h q)) (fun _ h v hv => h v (List.mem_cons_of_mem _ hv)) (kt h)
  · exact jw_go (fun hx hb _ _ _ k => lv_if_ge hx hb hd ht (fun q => absurd q h) (fun _ => k)) (fun _ h v hv => h v (List.mem_cons_of_mem _ hv)) (kf h)
theorem jw_if_gt {x : Int32} {off : Int} (tgt : Nat) (hd : decode Y.1 pc = .ok (.ifCond .gt off, 3)) (ht : (pc : Int) + off = (tgt : Int)) (kt : 0 < x → jw G Y d c0 s0 M tgt lc st r M') (kf : ¬ 0 < x → jw G Y d c0 s0 M (pc + 3) lc st r M') : jw G Y d c0 s0 M pc lc (.inl x :: st) r M' := by
  rcases Classical.em (0 < x) with h | h
  · exact jw_go (fun hx hb _ _ _ k => lv_if_gt hx hb hd ht (fun _ => k) (fun q => absurd h q)) (fun _ h v hv => h v (List.mem_cons_of_mem _ hv)) (kt h)
  · exact jw_go (fun hx hb _ _ _ k => lv_if_gt hx hb hd ht (fun q => absurd q h) (fun _ => k)) (fun _ h v hv => h v (List.mem_cons_of_mem _ hv)) (kf h)
theorem jw_if_le {x : Int32} {off : Int} (tgt : Nat) (hd : decode Y.1 pc = .ok (.ifCond .le off, 3)) (ht : (pc : Int) + off = (tgt : Int)) (kt : x ≤ 0 → jw G Y d c0 s0 M tgt lc st r M') (kf : ¬ x ≤ 0 → jw G Y d c0 s0 M (pc + 3) lc st r M') : jw G Y d c0 s0 M pc lc (.inl x :: st) r M' := by
  rcases Classical.em (x ≤ 0) with h | h
  · exact jw_go (fun hx hb _ _ _ k => lv_if_le hx hb hd ht (fun _ => k) (fun q => absurd h q)) (fun _ h v hv => h v (List.mem_cons_of_mem _ hv)) (kt h)
  · exact jw_go (fun hx hb _ _ _ k => lv_if_le hx hb hd ht (fun q => absurd q h) (fun _ => k)) (fun _ h v hv => h v (List.mem_cons_of_mem _ hv)) (kf h)
theorem jw_icmp_eq {x y : Int32} {off : Int} (tgt : Nat) (hd : decode Y.1 pc = .ok (.if_icmp .eq off, 3)) (ht : (pc : Int) + off = (tgt : Int)) (kt : x = y → jw G Y d c0 s0 M tgt lc st r M') (kf : ¬ x = y → jw G Y d c0 s0 M (pc + 3) lc st r M') : jw G Y d c0 s0 M pc lc (.inl y :: .inl x :: st) r M' := by
  rcases Classical.em (x = y) with h | h
  · exact jw_go (fun hx hb _ _ _ k => lv_icmp_eq hx hb hd ht (fun _ => k) (fun q => absurd h q)) (fun _ h v hv => h v (List.mem_cons_of_mem _ (List.mem_cons_of_mem _ hv))) (kt h)
  · exact jw_go (fun hx hb _ _ _ k => lv_icmp_eq hx hb hd ht (fun q => absurd q h) (fun _ => k)) (fun _ h v hv => h v (List.mem_cons_of_mem _ (List.mem_cons_of_mem _ hv))) (kf h)
theorem jw_icmp_ne {x y : Int32} {off : Int} (tgt : Nat) (hd : decode Y.1 pc = .ok (.if_icmp .ne off, 3)) (ht : (pc : Int) + off = (tgt : Int)) (kt : ¬ x = y → jw G Y d c0 s0 M tgt lc st r M') (kf : x = y → jw G Y d c0 s0 M (pc + 3) lc st r M') : jw G Y d c0 s0 M pc lc (.inl y :: .inl x :: st) r M' := by
  rcases Classical.em (x = y) with h | h
  · exact jw_go (fun hx hb _ _ _ k => lv_icmp_ne hx hb hd ht (fun q => absurd h q) (fun _ => k)) (fun _ h v hv => h v (List.mem_cons_of_mem _ (List.mem_cons_of_mem _ hv))) (kf h)
  · exact jw_go (fun hx hb _ _ _ k => lv_icmp_ne hx hb hd ht (fun _ => k) (fun q => absurd q h)) (fun _ h v hv => h v (List.mem_cons_of_mem _ (List.mem_cons_of_mem _ hv))) (kt h)
theorem jw_icmp_lt {x y : Int32} {off : Int} (tgt : Nat) (hd : decode Y.1 pc = .ok (.if_icmp .lt off, 3)) (ht : (pc : Int) + off = (tgt : Int)) (kt : x < y → jw G Y d c0 s0 M tgt lc st r M') (kf : ¬ x < y → jw G Y d c0 s0 M (pc + 3) lc st r M') : jw G Y d c0 s0 M pc lc (.inl y :: .inl x :: st) r M' := by
  rcases Classical.em (x < y) with h | h
  · exact jw_go (fun hx hb _ _ _ k => lv_icmp_lt hx hb hd ht (fun _ => k) (fun q => absurd h q)) (fun _ h v hv => h v (List.mem_cons_of_mem _ (List.mem_cons_of_mem _ hv))) (kt h)
  · exact jw_go (fun hx hb _ _ _ k => lv_icmp_lt hx hb hd ht (fun q => absurd q h) (fun _ => k)) (fun _ h v hv => h v (List.mem_cons_of_mem _ (List.mem_cons_of_mem _ hv))) (kf h)
theorem jw_icmp_ge {x y : Int32} {off : Int} (tgt : Nat) (hd : decode Y.1 pc = .ok (.if_icmp .ge off, 3)) (ht : (pc : Int) + off = (tgt : Int)) (kt : y ≤ x → jw G Y d c0 s0 M tgt lc st r M') (kf : ¬ y ≤ x → jw G Y d c0 s0 M (pc + 3) lc st r M') : jw G Y d c0 s0 M pc lc (.inl y :: .inl x :: st) r M' := by
  rcases Classical.em (y ≤ x) with h | h
  · exact jw_go (fun hx hb _ _ _ k => lv_icmp_ge hx hb hd ht (fun _ => k) (fun q => absurd h q)) (fun _ h v hv => h v (List.mem_cons_of_mem _ (List.mem_cons_of_mem _ hv))) (kt h)
  · exact jw_go (fun hx hb _ _ _ k => lv_icmp_ge hx hb hd ht (fun q => absurd q h) (fun _ => k)) (fun _ h v hv => h v (List.mem_cons_of_mem _ (List.mem_cons_of_mem _ hv))) (kf h)
theorem jw_icmp_gt {x y : Int32} {off : Int} (tgt : Nat) (hd : decode Y.1 pc = .ok (.if_icmp .gt off, 3)) (ht : (pc : Int) + off = (tgt : Int)) (kt : y < x → jw G Y d c0 s0 M tgt lc st r M') (kf : ¬ y < x → jw G Y d c0 s0 M (pc + 3) lc st r M') : jw G Y d c0 s0 M pc lc (.inl y :: .inl x :: st) r M' := by
  rcases Classical.em (y < x) with h | h
  · exact jw_go (fun hx hb _ _ _ k => lv_icmp_gt hx hb hd ht (fun _ => k) (fun q => absurd h q)) (fun _ h v hv => h v (List.mem_cons_of_mem _ (List.mem_cons_of_mem _ hv))) (kt h)
  · exact jw_go (fun hx hb _ _ _ k => lv_icmp_gt hx hb hd ht (fun q => absurd q h) (fun _ => k)) (fun _ h v hv => h v (List.mem_cons_of_mem _ (List.mem_cons_of_mem _ hv))) (kf h)
theorem jw_icmp_le {x y : Int32} {off : Int} (tgt : Nat) (hd : decode Y.1 pc = .ok (.if_icmp .le off, 3)) (ht : (pc : Int) + off = (tgt : Int)) (kt : x ≤ y → jw G Y d c0 s0 M tgt lc st r M') (kf : ¬ x ≤ y → jw G Y d c0 s0 M (pc + 3) lc st r M') : jw G Y d c0 s0 M pc lc (.inl y :: .inl x :: st) r M' := by
  rcases Classical.em (x ≤ y) with h | h
  · exact jw_go (fun hx hb _ _ _ k => lv_icmp_le hx hb hd ht (fun _ => k) (fun q => absurd h q)) (fun _ h v hv => h v (List.mem_cons_of_mem _ (List.mem_cons_of_mem _ hv))) (kt h)
  · exact jw_go (fun hx hb _ _ _ k => lv_icmp_le hx hb hd ht (fun q => absurd q h) (fun _ => k)) (fun _ h v hv => h v (List.mem_cons_of_mem _ (List.mem_cons_of_mem _ hv))) (kf h)
theorem jw_ifnull {o : Option (Nat × Nat)} {off : Int} (tgt : Nat) (hd : decode Y.1 pc = .ok (.ifnull off, 3)) (ht : (pc : Int) + off = (tgt : Int)) (kt : o = none → jw G Y d c0 s0 M tgt lc st r M') (kf : ∀ a, o = some a → jw G Y d c0 s0 M (pc + 3) lc st r M') : jw G Y d c0 s0 M pc lc (.inr o :: st) r M' := by
  cases o with
  | none => exact jw_go (fun hx hb _ _ _ k => lv_ifnullN hx hb hd ht k) (fun _ h v hv => h v (List.mem_cons_of_mem _ hv)) (kt rfl)
  | some a => exact jw_go (fun hx hb _ _ _ k => lv_ifnull hx hb hd k) (fun _ h v hv => h v (List.mem_cons_of_mem _ hv)) (kf a rfl)
theorem jw_ifnonnull {o : Option (Nat × Nat)} {off : Int} (tgt : Nat) (hd : decode Y.1 pc = .ok (.ifnonnull off, 3)) (ht : (pc : Int) + off = (tgt : Int)) (kt : ∀ a, o = some a → jw G Y d c0 s0 M tgt lc st r M') (kf : o = none → jw G Y d c0 s0 M (pc + 3) lc st r M') : jw G Y d c0 s0 M pc lc (.inr o :: st) r M' := by
  cases o with
  | none => exact jw_go (fun hx hb _ _ _ k => lv_ifnonnullN hx hb hd k) (fun _ h v hv => h v (List.mem_cons_of_mem _ hv)) (kf rfl)
  | some a => exact jw_go (fun hx hb _ _ _ k => lv_ifnonnull hx hb hd ht k) (fun _ h v hv => h v (List.mem_cons_of_mem _ hv)) (kt a rfl)
theorem jw_tabOut {dflt lo hi : Int} {offs : Array Int} {len : Nat} {x : Int32} (tgt : Nat) (hd : decode Y.1 pc = .ok (.tableswitch dflt lo hi offs, len)) (h : x.toInt < lo ∨ hi < x.toInt) (ht : (pc : Int) + dflt = (tgt : Int)) (k : jw G Y d c0 s0 M tgt lc st r M') : jw G Y d c0 s0 M pc lc (.inl x :: st) r M' :=
  jw_go (fun hx hb _ _ _ k => lv_tableOut hx hb hd h ht k) (fun _ h v hv => h v (List.mem_cons_of_mem _ hv)) k
theorem jw_tabIn {dflt lo hi off : Int} {offs : Array Int} {len : Nat} {x : Int32} (tgt : Nat) (hd : decode Y.1 pc = .ok (.tableswitch dflt lo hi offs, len)) (h1 : ¬ x.toInt < lo) (h2 : ¬ hi < x.toInt) (ho : offs[(x.toInt - lo).toNat]? = some off) (ht : (pc : Int) + off = (tgt : Int)) (k : jw G Y d c0 s0 M tgt lc st r M') : jw G Y d c0 s0 M pc lc (.inl x :: st) r M' :=
  jw_go (fun hx hb _ _ _ k => lv_tableIn hx hb hd h1 h2 ho ht k) (fun _ h v hv => h v (List.mem_cons_of_mem _ hv)) k
end RowsA
end
section
def cf_ok (ci : Nat) (C : String) (T : u_T) (N : Nat) (ty : Nat → FieldType) : Prop := vwCl[ci]? = some (C, T, N) ∧ (∀ w ∈ u_ws C T N, w ∈ TS) ∧ nf ci = N ∧ (∀ k, k < N → parseFieldDescriptor (T k).2.2.1 = some (ty k)) ∧ (∀ a, a < N → ∀ b, b < N → a ≠ b → (T a).2.1 ≠ (T b).2.1)
def fl_ok (own : String) (index : Nat) (ci k : Nat) (C : String) (T : u_T) (N : Nat) (ty : Nat → FieldType) (rf : Bool) : Prop := cf_ok ci C T N ty ∧ k < N ∧ fk ci k = rf ∧ Cond.fieldLink own index (T k).1 (T k).2.1 (T k).2.2.1 ∈ TS
theorem me_ce_o {cA : Nat → ClassId} {ρ : Rh} {M : Me} {s i ci : Nat} (hs : sk s = .inl ci) : me_ce cA ρ M (s, i) = .inr (ci, me_fl ρ M ci s i) := by simp only [me_ce, hs]
theorem me_ce_i {cA : Nat → ClassId} {ρ : Rh} {M : Me} {s i : Nat} (hs : sk s = .inr .int) : me_ce cA ρ M (s, i) = .inl (cA s, me_L M s i, .inl (me_I M s i)) := by simp only [me_ce, hs]
theorem me_ce_q {cA : Nat → ClassId} {ρ : Rh} {M : Me} {s i : Nat} {C : String} (hs : sk s = .inr (.object C)) : me_ce cA ρ M (s, i) = .inl (cA s, me_L M s i, .inr (.inr (.inr (.inr (fun k => av_r ρ (me_P M s i k)))))) := by simp only [me_ce, hs]
theorem jw_mem {G : Gt} {Y : Yt} {d c0 s0 : Nat} {M M' : Me} {pc pc' : Nat} {lc : List (Option AV)} {st st' : List AV} {r : Option AV}
    (h : ∀ {p : Program} {l : Launch} {e : Env} {R : Room} {s : State} {m : MethodId} {args : Array Value} {below : List Frame} {meth : Method} {c : Code} {H : Heap} {locs : List Loc} {cells slots : Nat} {Q : State → Prop} {ls : Array Slot} {ρ : Rh}, fr_ok G Y p s m args meth c → me_rl G ρ M H → va_S (fun q => G.1 ≤ q) s.heap H locs → (∀ v ∈ st, av_ok M v) → W p l e R s m args below meth c H locs cells slots Q (F0 m pc' ls (st'.map (av_tv ρ))) → W p l e R s m args below meth c H locs cells slots Q (F0 m pc ls (st.map (av_tv ρ))))
    (ho : (∀ s i k, i < me_N M s → av_okr M (me_P M s i k)) → (∀ s, st_is s = true → me_N M s = 1) → (∀ v ∈ st, av_ok M v) → ∀ v ∈ st', av_ok M v) (k : jw G Y d c0 s0 M pc' lc st' r M') : jw G Y d c0 s0 M pc lc st r M' :=
  ⟨k.1, fun p l e s m args below meth c ρe ne ρ H locs cells slots ls hF hR hS ha hn hc hs hl hst => h hF hR hS hst (k.2 p l e s m args below meth c ρe ne ρ H locs cells slots ls hF hR hS ha hn hc hs hl (ho hR.choose_spec.2.2.2.2.1 (fun s h => (hR.choose_spec.2.2.2.2.2 s h).1) hst))⟩
theorem jw_wr {G : Gt} {Y : Yt} {d c0 s0 : Nat} {M M2 M' : Me} {pc pc' : Nat} {lc : List (Option AV)} {st st' : List AV} {r : Option AV}
    (hN : me_N M2 = me_N M) (hC : me_C M2 = me_C M) (hSl : me_S M2 = me_S M)
    (h : ∀ {p : Program} {l : Launch} {e : Env} {R : Room} {s : State} {m : MethodId} {args : Array Value} {below : List Frame} {meth : Method} {c : Code} {H : Heap} {locs : List Loc} {cells slots : Nat} {Q : State → Prop} {ls : Array Slot} {ρ : Rh}, fr_ok G Y p s m args meth c → me_rl G ρ M H → va_S (fun q => G.1 ≤ q) s.heap H locs → (∀ v ∈ st, av_ok M v) → (∀ (H1 : Heap) (locs1 : List Loc), me_rl G ρ M2 H1 → va_S (fun q => G.1 ≤ q) s.heap H1 locs1 → W p l e R s m args below meth c H1 locs1 cells slots Q (F0 m pc' ls (st'.map (av_tv ρ)))) → W p l e R s m args below meth c H locs cells slots Q (F0 m pc ls (st.map (av_tv ρ))))
    (ho : ∀ v ∈ st', v ∈ st) (k : jw G Y d c0 s0 M2 pc' lc st' r M') : jw G Y d c0 s0 M pc lc st r M' := by
  have hle : ∀ a, me_N M a ≤ me_N M2 a := fun a => by rw [hN]; exact Nat.le_refl _
  refine ⟨by rw [← hC, ← hSl]; exact k.1, fun p l e s m args below meth c ρe ne ρ H locs cells slots ls hF hR hS ha hn hc hs hl hst => h hF hR hS hst (fun H1 locs1 hR1 hS1 => k.2 p l e s m args below meth c ρe ne ρ H1 locs1 cells slots ls hF hR1 hS1 ha (fun a => Nat.le_trans (hn a) (hle a)) (by rw [hC]; exact hc) (by rw [hSl]; exact hs) (lc_mono hl hle (fun _ _ _ => rfl)) (fun v hv => av_ok_mono hle (hst v (ho v hv))))⟩
section RowsB
variable {G : Gt} {Y : Yt} {d c0 s0 : Nat} {M M' : Me} {pc : Nat} {lc : List (Option AV)} {st : List AV} {r : Option AV}
theorem jw_getI {s i index ci k : Nat} {C : String} {T : u_T} {N : Nat} {ty : Nat → FieldType} (hf : fl_ok Y.2.2.1 index ci k C T N ty false) (hd : decode Y.1 pc = .ok (.getfield index, 3)) (hs : sk s = .inl ci) (ht : st_is s = false) (kk : jw G Y d c0 s0 M (pc + 3) lc (.inl (me_I M s i k) :: st) r M') : jw G Y d c0 s0 M pc lc (.inr (some (s, i)) :: st) r M' := by
  obtain ⟨⟨h1, h2, h3, h4, h5⟩, hk, hfk, hl⟩ := hf
  refine jw_mem ?_ (fun _ _ h v hv => by rcases List.mem_cons.mp hv with rfl | hv; exact av_ok_i; exact h v (List.mem_cons_of_mem _ hv)) kk
  intro p l e R s' m args below meth c H locs cells slots Q ls ρ hF hR hS hst kW
  obtain ⟨ord, hnd, hmem, hP, hD, hok, hsx⟩ := hR
  have hi : i < me_N M s := hst _ List.mem_cons_self (s, i) rfl
  obtain ⟨n, hn, he⟩ := me_at (cA := G.2.2.1) (ρ := ρ) (M := M) ((hmem (s, i)).mpr ⟨hi, ht⟩)
  rw [me_ce_o hs] at he
  refine va_get hF.1 hF.2.1 hF.2.2.2.2.2.2.1 h2 hF.2.2.2.1 (gk_K hF.2.2.2.2.2.2.2.2.1) hP n he h1 k hk (hF.2.2.2.2.2.2.1 _ hl) (fun _ h9 => h9) (v := .int (me_I M s i k)) ?_ hd kW
  rw [me_fl_get (by rw [h3]; exact hk), hfk]; rfl
theorem jw_getP {s i index ci k : Nat} {C : String} {T : u_T} {N : Nat} {ty : Nat → FieldType} (hf : fl_ok Y.2.2.1 index ci k C T N ty true) (hd : decode Y.1 pc = .ok (.getfield index, 3)) (hs : sk s = .inl ci) (ht : st_is s = false) (kk : jw G Y d c0 s0 M (pc + 3) lc (.inr (me_P M s i k) :: st) r M') : jw G Y d c0 s0 M pc lc (.inr (some (s, i)) :: st) r M' := by
  obtain ⟨⟨h1, h2, h3, h4, h5⟩, hk, hfk, hl⟩ := hf
  refine jw_mem ?_ (fun hq _ h v hv => by rcases List.mem_cons.mp hv with rfl | hv; exact av_ok_r (hq s i k (h _ List.mem_cons_self (s, i) rfl)); exact h v (List.mem_cons_of_mem _ hv)) kk
  intro p l e R s' m args below meth c H locs cells slots Q ls ρ hF hR hS hst kW
  obtain ⟨ord, hnd, hmem, hP, hD, hok, hsx⟩ := hR
  have hi : i < me_N M s := hst _ List.mem_cons_self (s, i) rfl
  obtain ⟨n, hn, he⟩ := me_at (cA := G.2.2.1) (ρ := ρ) (M := M) ((hmem (s, i)).mpr ⟨hi, ht⟩)
  rw [me_ce_o hs] at he
  refine va_get hF.1 hF.2.1 hF.2.2.2.2.2.2.1 h2 hF.2.2.2.1 (gk_K hF.2.2.2.2.2.2.2.2.1) hP n he h1 k hk (hF.2.2.2.2.2.2.1 _ hl) (fun _ h9 => h9) (v := va_rf (av_r ρ (me_P M s i k))) ?_ hd kW
  rw [me_fl_get (by rw [h3]; exact hk), hfk]; rfl
theorem jw_putI {s i index ci k : Nat} {C : String} {T : u_T} {N : Nat} {ty : Nat → FieldType} {x : Int32} (hf : fl_ok Y.2.2.1 index ci k C T N ty false) (hfin : (T k).2.2.2 = false ∨ (Y.2.2.2.1 = "<init>" ∧ (T k).1 = Y.2.2.1)) (hn : narrow (ty k) (.int x) = .int x) (hfit : fits (ty k) (.int x) = true) (hd : decode Y.1 pc = .ok (.putfield index, 3)) (hs : sk s = .inl ci) (ht : st_is s = false) (kk : jw G Y d c0 s0 (me_sI M s i k x) (pc + 3) lc st r M') : jw G Y d c0 s0 M pc lc (.inl x :: .inr (some (s, i)) :: st) r M' := by
  obtain ⟨⟨h1, h2, h3, h4, h5⟩, hk, hfk, hl⟩ := hf
  refine jw_wr (M2 := me_sI M s i k x) rfl rfl rfl ?_ (fun v hv => List.mem_cons_of_mem _ (List.mem_cons_of_mem _ hv)) kk
  intro p l e R s' m args below meth c H locs cells slots Q ls ρ hF hR hS hst kW
  obtain ⟨ord, hnd, hmem, hP, hD, hok, hsx⟩ := hR
  have hi : i < me_N M s := hst _ (List.mem_cons_of_mem _ List.mem_cons_self) (s, i) rfl
  obtain ⟨n, hn', he⟩ := me_at (cA := G.2.2.1) (ρ := ρ) (M := M) ((hmem (s, i)).mpr ⟨hi, ht⟩)
  rw [me_ce_o hs] at he
  have hce : me_ce G.2.2.1 ρ (me_sI M s i k x) (s, i) = .inr (ci, (me_fl ρ M ci s i).set k (.int x)) := by rw [me_ce_o hs, me_fl_setI hfk]
  rcases hfin with hfin | hfin
  · exact va_put hF.1 hF.2.1 hF.2.2.2.2.2.2.1 h2 ty h4 h5 hF.2.2.2.1 (gk_K hF.2.2.2.2.2.2.2.2.1) hP hD hS n he h1 k hk (hF.2.2.2.2.2.2.1 _ hl) (fun _ h9 => h9) hfin (h4 k hk) hn hfit (by rw [me_fl_len, h3]; exact hk) hd (fun H1 locs1 hP1 hD1 hS1 => kW H1 locs1 (me_putI hnd hmem hok hsx hn' hce hP1 hD1) hS1)
  · cases hf2 : (T k).2.2.2 with
    | false => exact va_put hF.1 hF.2.1 hF.2.2.2.2.2.2.1 h2 ty h4 h5 hF.2.2.2.1 (gk_K hF.2.2.2.2.2.2.2.2.1) hP hD hS n he h1 k hk (hF.2.2.2.2.2.2.1 _ hl) (fun _ h9 => h9) hf2 (h4 k hk) hn hfit (by rw [me_fl_len, h3]; exact hk) hd (fun H1 locs1 hP1 hD1 hS1 => kW H1 locs1 (me_putI hnd hmem hok hsx hn' hce hP1 hD1) hS1)
    | true => exact va_putF hF.1 hF.2.1 hF.2.2.2.2.2.2.1 h2 ty h4 h5 hF.2.2.2.1 (gk_K hF.2.2.2.2.2.2.2.2.1) hP hD hS n he h1 k hk (hF.2.2.2.2.2.2.1 _ hl) (fun _ h9 => h9) hf2 (hF.2.2.2.2.1.trans hfin.1) hfin.2 (h4 k hk) hn hfit (by rw [me_fl_len, h3]; exact hk) hd (fun H1 locs1 hP1 hD1 hS1 => kW H1 locs1 (me_putI hnd hmem hok hsx hn' hce hP1 hD1) hS1)
theorem jw_putP {s i index ci k : Nat} {C : String} {T : u_T} {N : Nat} {ty : Nat → FieldType} {x : Option (Nat × Nat)} (hf : fl_ok Y.2.2.1 index ci k C T N ty true) (hfin : (T k).2.2.2 = false ∨ (Y.2.2.2.1 = "<init>" ∧ (T k).1 = Y.2.2.1)) (hn : ∀ z : Option Nat, narrow (ty k) (va_rf z) = va_rf z) (hfit : ∀ z : Option Nat, fits (ty k) (va_rf z) = true) (hd : decode Y.1 pc = .ok (.putfield index, 3)) (hs : sk s = .inl ci) (ht : st_is s = false) (kk : jw G Y d c0 s0 (me_sP M s i k x) (pc + 3) lc st r M') : jw G Y d c0 s0 M pc lc (.inr x :: .inr (some (s, i)) :: st) r M' := by
  obtain ⟨⟨h1, h2, h3, h4, h5⟩, hk, hfk, hl⟩ := hf
  refine jw_wr (M2 := me_sP M s i k x) rfl rfl rfl ?_ (fun v hv => List.mem_cons_of_mem _ (List.mem_cons_of_mem _ hv)) kk
  intro p l e R s' m args below meth c H locs cells slots Q ls ρ hF hR hS hst kW
  obtain ⟨ord, hnd, hmem, hP, hD, hok, hsx⟩ := hR
  have hi : i < me_N M s := hst _ (List.mem_cons_of_mem _ List.mem_cons_self) (s, i) rfl
  have hxo : av_okr M x := fun a e => hst _ List.mem_cons_self a (congrArg _ e)
  obtain ⟨n, hn', he⟩ := me_at (cA := G.2.2.1) (ρ := ρ) (M := M) ((hmem (s, i)).mpr ⟨hi, ht⟩)
  rw [me_ce_o hs] at he
  have hce : me_ce G.2.2.1 ρ (me_sP M s i k x) (s, i) = .inr (ci, (me_fl ρ M ci s i).set k (va_rf (av_r ρ x))) := by rw [me_ce_o hs, me_fl_setP hfk]
  have hput : (T k).2.2.2 = false → W p l e R s' m args below meth c H locs cells slots Q (F0 m pc ls (va_rf (av_r ρ x) :: .ref (ρ s i) :: st.map (av_tv ρ))) := fun hf2 => va_put hF.1 hF.2.1 hF.2.2.2.2.2.2.1 h2 ty h4 h5 hF.2.2.2.1 (gk_K hF.2.2.2.2.2.2.2.2.1) hP hD hS n he h1 k hk (hF.2.2.2.2.2.2.1 _ hl) (fun _ h9 => h9) hf2 (h4 k hk) (hn _) (hfit _) (by rw [me_fl_len, h3]; exact hk) hd (fun H1 locs1 hP1 hD1 hS1 => kW H1 locs1 (me_putP hxo hnd hmem hok hsx hn' hce hP1 hD1) hS1)
  rcases hfin with hfin | hfin
  · exact hput hfin
  · cases hf2 : (T k).2.2.2 with
    | false => exact hput hf2
    | true => exact va_putF hF.1 hF.2.1 hF.2.2.2.2.2.2.1 h2 ty h4 h5 hF.2.2.2.1 (gk_K hF.2.2.2.2.2.2.2.2.1) hP hD hS n he h1 k hk (hF.2.2.2.2.2.2.1 _ hl) (fun _ h9 => h9) hf2 (hF.2.2.2.2.1.trans hfin.1) hfin.2 (h4 k hk) (hn _) (hfit _) (by rw [me_fl_len, h3]; exact hk) hd (fun H1 locs1 hP1 hD1 hS1 => kW H1 locs1 (me_putP hxo hnd hmem hok hsx hn' hce hP1 hD1) hS1)
theorem jw_iald {s i : Nat} {x : Int32} (hd : decode Y.1 pc = .ok (.iaload, 1)) (hs : sk s = .inr .int) (ht : st_is s = false) (hin : vp_in x (me_L M s i)) (kk : jw G Y d c0 s0 M (pc + 1) lc (.inl (me_I M s i x.toNatClampNeg) :: st) r M') : jw G Y d c0 s0 M pc lc (.inl x :: .inr (some (s, i)) :: st) r M' := by
  refine jw_mem ?_ (fun _ _ h v hv => by rcases List.mem_cons.mp hv with rfl | hv; exact av_ok_i; exact h v (List.mem_cons_of_mem _ (List.mem_cons_of_mem _ hv))) kk
  intro p l e R s' m args below meth c H locs cells slots Q ls ρ hF hR hS hst kW
  obtain ⟨ord, hnd, hmem, hP, hD, hok, hsx⟩ := hR
  have hi : i < me_N M s := hst _ (List.mem_cons_of_mem _ List.mem_cons_self) (s, i) rfl
  obtain ⟨n, hn', he⟩ := me_at (cA := G.2.2.1) (ρ := ρ) (M := M) ((hmem (s, i)).mpr ⟨hi, ht⟩)
  rw [me_ce_i hs] at he
  obtain ⟨t0, ht0⟩ := gk_ar hF.2.2.2.2.2.2.2.2.1 s .int (by rw [ar_ty, hs])
  exact va_iald hF.1 hF.2.1 (gk_K hF.2.2.2.2.2.2.2.2.1) hP n t0 he ht0 hin hd kW
theorem jw_iast {s i : Nat} {x y : Int32} (hd : decode Y.1 pc = .ok (.iastore, 1)) (hs : sk s = .inr .int) (ht : st_is s = false) (hin : vp_in x (me_L M s i)) (kk : jw G Y d c0 s0 (me_sI M s i x.toNatClampNeg y) (pc + 1) lc st r M') : jw G Y d c0 s0 M pc lc (.inl y :: .inl x :: .inr (some (s, i)) :: st) r M' := by
  refine jw_wr (M2 := me_sI M s i x.toNatClampNeg y) rfl rfl rfl ?_ (fun v hv => List.mem_cons_of_mem _ (List.mem_cons_of_mem _ (List.mem_cons_of_mem _ hv))) kk
  intro p l e R s' m args below meth c H locs cells slots Q ls ρ hF hR hS hst kW
  obtain ⟨ord, hnd, hmem, hP, hD, hok, hsx⟩ := hR
  have hi : i < me_N M s := hst _ (List.mem_cons_of_mem _ (List.mem_cons_of_mem _ List.mem_cons_self)) (s, i) rfl
  obtain ⟨n, hn', he⟩ := me_at (cA := G.2.2.1) (ρ := ρ) (M := M) ((hmem (s, i)).mpr ⟨hi, ht⟩)
  rw [me_ce_i hs] at he
  obtain ⟨t0, ht0⟩ := gk_ar hF.2.2.2.2.2.2.2.2.1 s .int (by rw [ar_ty, hs])
  have hce : me_ce G.2.2.1 ρ (me_sI M s i x.toNatClampNeg y) (s, i) = .inl (G.2.2.1 s, me_L M s i, .inl (upd (me_I M s i) x.toNatClampNeg y)) := by
    rw [me_ce_i hs]
    have : me_I (me_sI M s i x.toNatClampNeg y) s i = upd (me_I M s i) x.toNatClampNeg y := funext fun j => by
      rw [me_I_sI]; unfold upd; simp
    rw [this]; rfl
  exact va_iast hF.1 hF.2.1 (gk_K hF.2.2.2.2.2.2.2.2.1) hP hD hS n t0 he ht0 hin hd (fun H1 locs1 hP1 hD1 hS1 => kW H1 locs1 (me_putI hnd hmem hok hsx hn' hce hP1 hD1) hS1)
theorem jw_aald {s i : Nat} {x : Int32} {C : String} (hd : decode Y.1 pc = .ok (.aaload, 1)) (hs : sk s = .inr (.object C)) (ht : st_is s = false) (hin : vp_in x (me_L M s i)) (kk : jw G Y d c0 s0 M (pc + 1) lc (.inr (me_P M s i x.toNatClampNeg) :: st) r M') : jw G Y d c0 s0 M pc lc (.inl x :: .inr (some (s, i)) :: st) r M' := by
  refine jw_mem ?_ (fun hq _ h v hv => by rcases List.mem_cons.mp hv with rfl | hv; exact av_ok_r (hq s i _ (h _ (List.mem_cons_of_mem _ List.mem_cons_self) (s, i) rfl)); exact h v (List.mem_cons_of_mem _ (List.mem_cons_of_mem _ hv))) kk
  intro p l e R s' m args below meth c H locs cells slots Q ls ρ hF hR hS hst kW
  obtain ⟨ord, hnd, hmem, hP, hD, hok, hsx⟩ := hR
  have hi : i < me_N M s := hst _ (List.mem_cons_of_mem _ List.mem_cons_self) (s, i) rfl
  obtain ⟨n, hn', he⟩ := me_at (cA := G.2.2.1) (ρ := ρ) (M := M) ((hmem (s, i)).mpr ⟨hi, ht⟩)
  rw [me_ce_q hs] at he
  obtain ⟨t0, ht0⟩ := gk_ar hF.2.2.2.2.2.2.2.2.1 s (.object C) (by rw [ar_ty, hs])
  exact va_aldq hF.1 hF.2.1 (gk_K hF.2.2.2.2.2.2.2.2.1) hP n t0 he ht0 hin hd kW
theorem jw_aast {s i s2 i2 ci : Nat} {x : Int32} {C : String} {T : u_T} {N : Nat} {ty : Nat → FieldType} (hcf : cf_ok ci C T N ty) (hd : decode Y.1 pc = .ok (.aastore, 1)) (hs : sk s = .inr (.object C)) (ht : st_is s = false) (hs2 : sk s2 = .inl ci) (ht2 : st_is s2 = false) (hin : vp_in x (me_L M s i)) (kk : jw G Y d c0 s0 (me_sP M s i x.toNatClampNeg (some (s2, i2))) (pc + 1) lc st r M') : jw G Y d c0 s0 M pc lc (.inr (some (s2, i2)) :: .inl x :: .inr (some (s, i)) :: st) r M' := by
  obtain ⟨h1, h2, h3, h4, h5⟩ := hcf
  refine jw_wr (M2 := me_sP M s i x.toNatClampNeg (some (s2, i2))) rfl rfl rfl ?_ (fun v hv => List.mem_cons_of_mem _ (List.mem_cons_of_mem _ (List.mem_cons_of_mem _ hv))) kk
  intro p l e R s' m args below meth c H locs cells slots Q ls ρ hF hR hS hst kW
  obtain ⟨ord, hnd, hmem, hP, hD, hok, hsx⟩ := hR
  have hi : i < me_N M s := hst _ (List.mem_cons_of_mem _ (List.mem_cons_of_mem _ List.mem_cons_self)) (s, i) rfl
  have hi2 : i2 < me_N M s2 := hst _ List.mem_cons_self (s2, i2) rfl
  have hxo : av_okr M (some (s2, i2)) := fun a e => by cases e; exact hi2
  obtain ⟨n, hn', he⟩ := me_at (cA := G.2.2.1) (ρ := ρ) (M := M) ((hmem (s, i)).mpr ⟨hi, ht⟩)
  obtain ⟨n2, hn2, he2⟩ := me_at (cA := G.2.2.1) (ρ := ρ) (M := M) ((hmem (s2, i2)).mpr ⟨hi2, ht2⟩)
  rw [me_ce_q hs] at he
  rw [me_ce_o hs2] at he2
  obtain ⟨t0, ht0⟩ := gk_ar hF.2.2.2.2.2.2.2.2.1 s (.object C) (by rw [ar_ty, hs])
  have hce : me_ce G.2.2.1 ρ (me_sP M s i x.toNatClampNeg (some (s2, i2))) (s, i) = .inl (G.2.2.1 s, me_L M s i, .inr (.inr (.inr (.inr (va_up (fun k => av_r ρ (me_P M s i k)) x.toNatClampNeg (some (ρ s2 i2))))))) := by
    rw [me_ce_q hs]
    have : (fun k => av_r ρ (me_P (me_sP M s i x.toNatClampNeg (some (s2, i2))) s i k)) = va_up (fun k => av_r ρ (me_P M s i k)) x.toNatClampNeg (some (ρ s2 i2)) := funext fun j => by
      rw [me_P_sP]; unfold va_up; by_cases hj : j = x.toNatClampNeg <;> simp [hj, av_r]
    rw [this]; rfl
  exact va_astq hF.1 hF.2.1 (gk_K hF.2.2.2.2.2.2.2.2.1) hP hD hS n t0 n2 ci (r := (C, T, N)) he ht0 he2 h1 hin hd (fun H1 locs1 hP1 hD1 hS1 => kW H1 locs1 (me_putP hxo hnd hmem hok hsx hn' hce hP1 hD1) hS1)
theorem jw_alen {s i : Nat} {ty : FieldType} (v : Int32) (hd : decode Y.1 pc = .ok (.arraylength, 1)) (hs : ar_ty s = some ty) (ht : st_is s = false) (hv : Int32.ofNat (me_L M s i) = v) (kk : jw G Y d c0 s0 M (pc + 1) lc (.inl v :: st) r M') : jw G Y d c0 s0 M pc lc (.inr (some (s, i)) :: st) r M' := by
  refine jw_mem ?_ (fun _ _ h v hv => by rcases List.mem_cons.mp hv with rfl | hv; exact av_ok_i; exact h v (List.mem_cons_of_mem _ hv)) kk
  intro p l e R s' m args below meth c H locs cells slots Q ls ρ hF hR hS hst kW
  obtain ⟨ord, hnd, hmem, hP, hD, hok, hsx⟩ := hR
  have hi : i < me_N M s := hst _ List.mem_cons_self (s, i) rfl
  obtain ⟨n, hn', he⟩ := me_at (cA := G.2.2.1) (ρ := ρ) (M := M) ((hmem (s, i)).mpr ⟨hi, ht⟩)
  obtain ⟨t0, ht0⟩ := gk_ar hF.2.2.2.2.2.2.2.2.1 s ty hs
  have h1 : ∃ x : vp_A, me_ce G.2.2.1 ρ M (s, i) = .inl (G.2.2.1 s, x) ∧ x.1 = me_L M s i := by
    cases hsk : sk s with
    | inl ci => rw [ar_ty, hsk] at hs; cases hs
    | inr o => cases o <;> (simp only [me_ce, hsk]; exact ⟨_, rfl, rfl⟩)
  obtain ⟨x, hx1, hx2⟩ := h1
  rw [hx1] at he
  exact va_alen hF.1 hF.2.1 (gk_K hF.2.2.2.2.2.2.2.2.1) hP n t0 he ht0 (by rw [hx2]; exact hv) hd kW
theorem me_ce_z {cA : Nat → ClassId} {ρ : Rh} {M : Me} {s i : Nat} (hs : sk s = .inr .boolean) : me_ce cA ρ M (s, i) = .inl (cA s, me_L M s i, .inl (me_I M s i)) := by simp only [me_ce, hs]
theorem jw_zald {s i : Nat} {x : Int32} (hd : decode Y.1 pc = .ok (.baload, 1)) (hs : sk s = .inr .boolean) (ht : st_is s = false) (hin : vp_in x (me_L M s i)) (kk : jw G Y d c0 s0 M (pc + 1) lc (.inl (me_I M s i x.toNatClampNeg) :: st) r M') : jw G Y d c0 s0 M pc lc (.inl x :: .inr (some (s, i)) :: st) r M' := by
  refine jw_mem ?_ (fun _ _ h v hv => by rcases List.mem_cons.mp hv with rfl | hv; exact av_ok_i; exact h v (List.mem_cons_of_mem _ (List.mem_cons_of_mem _ hv))) kk
  intro p l e R s' m args below meth c H locs cells slots Q ls ρ hF hR hS hst kW
  obtain ⟨ord, hnd, hmem, hP, hD, hok, hsx⟩ := hR
  have hi : i < me_N M s := hst _ (List.mem_cons_of_mem _ List.mem_cons_self) (s, i) rfl
  obtain ⟨n, hn', he⟩ := me_at (cA := G.2.2.1) (ρ := ρ) (M := M) ((hmem (s, i)).mpr ⟨hi, ht⟩)
  rw [me_ce_z hs] at he
  obtain ⟨t0, ht0⟩ := gk_ar hF.2.2.2.2.2.2.2.2.1 s .boolean (by rw [ar_ty, hs])
  exact va_zald hF.1 hF.2.1 (gk_K hF.2.2.2.2.2.2.2.2.1) hP n t0 he ht0 hin hd kW
theorem jw_zast {s i : Nat} {x y : Int32} (hd : decode Y.1 pc = .ok (.bastore, 1)) (hs : sk s = .inr .boolean) (ht : st_is s = false) (hin : vp_in x (me_L M s i)) (hy : y = 0 ∨ y = 1) (kk : jw G Y d c0 s0 (me_sI M s i x.toNatClampNeg y) (pc + 1) lc st r M') : jw G Y d c0 s0 M pc lc (.inl y :: .inl x :: .inr (some (s, i)) :: st) r M' := by
  refine jw_wr (M2 := me_sI M s i x.toNatClampNeg y) rfl rfl rfl ?_ (fun v hv => List.mem_cons_of_mem _ (List.mem_cons_of_mem _ (List.mem_cons_of_mem _ hv))) kk
  intro p l e R s' m args below meth c H locs cells slots Q ls ρ hF hR hS hst kW
  obtain ⟨ord, hnd, hmem, hP, hD, hok, hsx⟩ := hR
  have hi : i < me_N M s := hst _ (List.mem_cons_of_mem _ (List.mem_cons_of_mem _ List.mem_cons_self)) (s, i) rfl
  obtain ⟨n, hn', he⟩ := me_at (cA := G.2.2.1) (ρ := ρ) (M := M) ((hmem (s, i)).mpr ⟨hi, ht⟩)
  rw [me_ce_z hs] at he
  obtain ⟨t0, ht0⟩ := gk_ar hF.2.2.2.2.2.2.2.2.1 s .boolean (by rw [ar_ty, hs])
  have hyn : vp_nar .boolean y = y := by rcases hy with rfl | rfl <;> rfl
  have hce : me_ce G.2.2.1 ρ (me_sI M s i x.toNatClampNeg y) (s, i) = .inl (G.2.2.1 s, me_L M s i, .inl (upd (me_I M s i) x.toNatClampNeg (vp_nar .boolean y))) := by
    rw [me_ce_z hs, hyn]
    have : me_I (me_sI M s i x.toNatClampNeg y) s i = upd (me_I M s i) x.toNatClampNeg y := funext fun j => by
      rw [me_I_sI]; unfold upd; simp
    rw [this]; rfl
  exact va_zast hF.1 hF.2.1 (gk_K hF.2.2.2.2.2.2.2.2.1) hP hD hS n t0 he ht0 hin hd (fun H1 locs1 hP1 hD1 hS1 => kW H1 locs1 (me_putI hnd hmem hok hsx hn' hce hP1 hD1) hS1)
theorem st_all : ∀ q ∈ st_l, st_is q.1 = true := by decide
theorem jw_gets {index : Nat} {q : Nat × String × List Int32} (hq : q ∈ st_l) (hl : Cond.fieldLink Y.2.2.1 index "PollYard" q.2.1 "[I" ∈ TS) (hd : decode Y.1 pc = .ok (.getstatic index, 3)) (kk : jw G Y d c0 s0 M (pc + 3) lc (.inr (some (q.1, 0)) :: st) r M') : jw G Y d c0 s0 M pc lc st r M' := by
  refine jw_mem ?_ (fun _ h1 h v hv => by
    rcases List.mem_cons.mp hv with rfl | hv
    · intro a e; cases e; rw [h1 _ (st_all q hq)]; exact Nat.zero_lt_one
    · exact h v hv) kk
  intro p l e R s' m args below meth c H locs cells slots Q ls ρ hF hR hS hst kW
  have h2 := (hR.choose_spec.2.2.2.2.2 q.1 (st_all q hq)).2
  refine va_gets (v := .ref (ρ q.1 0)) hF.1 hF.2.1 (A := fun a => G.1 ≤ a) ?_ hS hF.2.2.2.1 (hF.2.2.2.2.2.2.1 _ hl) (fun _ h9 => h9) hd kW
  rw [h2]; exact (hF.2.2.2.2.2.2.2.2.1.2.2.2.2 q hq).1
theorem jw_getsN {index : Nat} {q : Nat × String × List Int32} {host : String} (hq : q ∈ st_l) (hl : Cond.fieldLinkNest Y.2.2.1 index "PollYard" q.2.1 "[I" host ∈ nest_w) (hd : decode Y.1 pc = .ok (.getstatic index, 3)) (kk : jw G Y d c0 s0 M (pc + 3) lc (.inr (some (q.1, 0)) :: st) r M') : jw G Y d c0 s0 M pc lc st r M' := by
  refine jw_mem ?_ (fun _ h1 h v hv => by
    rcases List.mem_cons.mp hv with rfl | hv
    · intro a e; cases e; rw [h1 _ (st_all q hq)]; exact Nat.zero_lt_one
    · exact h v hv) kk
  intro p l e R s' m args below meth c H locs cells slots Q ls ρ hF hR hS hst kW
  have h2 := (hR.choose_spec.2.2.2.2.2 q.1 (st_all q hq)).2
  refine va_getsN (v := .ref (ρ q.1 0)) hF.1 hF.2.1 (A := fun a => G.1 ≤ a) ?_ hS hF.2.2.2.1 (va_Nw.use rfl (hF.2.2.2.2.2.2.2.2.1.2.2.1 _ hl)) (fun _ h9 => h9) hd kW
  rw [h2]; exact (hF.2.2.2.2.2.2.2.2.1.2.2.2.2 q hq).1
theorem jw_ialdS {q : Nat × String × List Int32} {x : Int32} (hq : q ∈ st_l) (hd : decode Y.1 pc = .ok (.iaload, 1)) (hin : vp_in x 16) (kk : jw G Y d c0 s0 M (pc + 1) lc (.inl (q.2.2.getD x.toNatClampNeg 0) :: st) r M') : jw G Y d c0 s0 M pc lc (.inl x :: .inr (some (q.1, 0)) :: st) r M' := by
  refine jw_mem ?_ (fun _ _ h v hv => by rcases List.mem_cons.mp hv with rfl | hv; exact av_ok_i; exact h v (List.mem_cons_of_mem _ (List.mem_cons_of_mem _ hv))) kk
  intro p l e R s' m args below meth c H locs cells slots Q ls ρ hF hR hS hst kW
  have h2 := (hR.choose_spec.2.2.2.2.2 q.1 (st_all q hq)).2
  have hT := (hF.2.2.2.2.2.2.2.2.1.2.2.2.2 q hq).2
  rw [← h2] at hT
  exact va_ti hF.1 hF.2.1 hT hS hin rfl hd kW
end RowsB
end
section
theorem gk_cA {G : Gt} {U : State} {H : Heap} (h : gk_ok G U H) {s : Nat} {ty : FieldType} (hs : ar_ty s = some ty) {cA : ClassId} (hR : va_RA U cA ty) : cA = G.2.2.1 s := by
  obtain ⟨t0, ht0⟩ := gk_ar h s ty hs
  have h2 := ((gk_K h).2 t0 _ ht0).2
  cases ty with
  | object C =>
    obtain ⟨_, _, _, _, _, e1⟩ := hR
    obtain ⟨_, _, _, _, _, e2⟩ := h2
    exact Option.some.inj (e1.symm.trans e2)
  | _ => exact Option.some.inj (Eq.trans (Eq.symm hR) h2)
section RowsC
variable {G : Gt} {Y : Yt} {d c0 s0 : Nat} {M M' : Me} {pc : Nat} {lc : List (Option AV)} {st : List AV} {r : Option AV}
theorem jw_mk {pc' s len sl : Nat} {st0 : List AV} (hst0 : ∀ v ∈ st, v ∈ st0)
    (h : ∀ {p : Program} {l : Launch} {e : Env} {R : Room} {s' : State} {m : MethodId} {args : Array Value} {below : List Frame} {meth : Method} {c : Code} {H : Heap} {locs : List Loc} {cells slots : Nat} {Q : State → Prop} {ls : Array Slot} {ρ : Rh}, fr_ok G Y p s' m args meth c → me_rl G ρ M H → va_S (fun q => G.1 ≤ q) s'.heap H locs → cells + 1 ≤ R.cells → slots + sl ≤ R.slots → (∀ (q : Nat) (H1 : Heap), me_rl G (rh_up ρ s (me_N M s) q) (me_nw M s len sl) H1 → va_S (fun q => G.1 ≤ q) s'.heap H1 locs → W p l e R s' m args below meth c H1 locs (cells + 1) (slots + sl) Q (F0 m pc' ls (.ref q :: st.map (av_tv ρ)))) → W p l e R s' m args below meth c H locs cells slots Q (F0 m pc ls (st0.map (av_tv ρ))))
    (kk : jw G Y d c0 s0 (me_nw M s len sl) pc' lc (.inr (some (s, me_N M s)) :: st) r M') : jw G Y d c0 s0 M pc lc st0 r M' := by
  have k1 := kk.1
  rw [me_C_nw, me_S_nw] at k1
  refine ⟨⟨by omega, by omega⟩, fun p l e s' m args below meth c ρe ne ρ H locs cells slots ls hF hR hS ha hn hc hs hl hst => ?_⟩
  refine h hF hR hS (show cells + 1 ≤ me_C M' - c0 by omega) (show slots + sl ≤ me_S M' - s0 by omega) (fun q H1 hR1 hS1 => ?_)
  have he : Value.ref q :: st.map (av_tv ρ) = ((.inr (some (s, me_N M s)) : AV) :: st).map (av_tv (rh_up ρ s (me_N M s) q)) := by
    rw [List.map_cons, av_map_eq (M := M) (ρ := ρ) (fun v hv => hst v (hst0 v hv)) rh_up_eq]
    congr 1
    show Value.ref q = Value.ref (rh_up ρ s (me_N M s) q s (me_N M s))
    simp [rh_up]
  rw [he]
  refine kk.2 p l e s' m args below meth c ρe ne _ H1 locs (cells + 1) (slots + sl) ls hF hR1 hS1 (fun a b hb => (rh_up_eq (M := M) a b (Nat.lt_of_lt_of_le hb (hn a))).trans (ha a b hb)) (fun a => Nat.le_trans (hn a) (me_N_le_nw M s len sl a)) (by rw [me_C_nw]; omega) (by rw [me_S_nw]; omega) (lc_mono hl (me_N_le_nw M s len sl) rh_up_eq) ?_
  intro v hv
  rcases List.mem_cons.mp hv with rfl | hv
  · intro a e
    cases e
    rw [me_N_nw, if_pos rfl]
    exact Nat.lt_succ_self _
  · exact av_ok_mono (me_N_le_nw M s len sl) (hst v (hst0 v hv))
theorem jw_new {s index ci : Nat} {C : String} {T : u_T} {N : Nat} {ty : Nat → FieldType} (hcf : cf_ok ci C T N ty) (hdf : ∀ j, j < N → defaultValue (ty j) = if fk ci j = true then .null else .int 0) (hcl : Cond.classLink Y.2.2.1 index C ∈ TS) (hinst : Cond.instantiable C N ∈ TS) (hini : Cond.initialized C ∈ TS) (hd : decode Y.1 pc = .ok (.new index, 3)) (hs : sk s = .inl ci) (ht : st_is s = false)
    (kk : jw G Y d c0 s0 (me_nw M s 0 N) (pc + 3) lc (.inr (some (s, me_N M s)) :: st) r M') : jw G Y d c0 s0 M pc lc st r M' := by
  obtain ⟨h1, h2, h3, h4, h5⟩ := hcf
  refine jw_mk (fun v hv => hv) ?_ kk
  intro p l e R s' m args below meth c H locs cells slots Q ls ρ hF hR hS hc1 hs1 kW
  obtain ⟨ord, hnd, hmem, hP, hD, hok, hsx⟩ := hR
  have hts := hF.2.2.2.2.2.2.1
  refine va_new (fs := (List.range (nf ci)).map (fun k => if fk ci k = true then Value.null else .int 0)) hF.1 hF.2.1 hts h2 ty h4 hF.2.2.2.1 (hts _ hcl) (hts _ hinst) (hts _ hini) (gk_K hF.2.2.2.2.2.2.2.2.1) hP hD hS (fun q hq => Nat.le_trans hF.2.2.2.2.2.2.2.2.2 hq) h1 ?_ hc1 hs1 hd (fun q H1 hP1 hD1 hS1 => kW q H1 (me_new ht hnd hmem hok hsx ?_ hP1 hD1) hS1)
  · intro j hj
    rw [hdf j hj]
    simp [vp_V, h3, hj]
  · rw [me_ce_o hs]
    unfold me_fl
    congr 2
    apply List.map_congr_left
    intro k _
    rw [me_P_nw, me_I_nw]
    simp [av_r, va_rf]
theorem jw_newI {s n : Nat} {x : Int32} (hcl : Cond.arrayClass .int ∈ TS) (hd : decode Y.1 pc = .ok (.newarray .int, 2)) (hs : sk s = .inr .int) (ht : st_is s = false) (hx : ¬ x < 0) (hn : x.toNatClampNeg = n) (hb : n ≤ 1000000)
    (kk : jw G Y d c0 s0 (me_nw M s n n) (pc + 2) lc (.inr (some (s, me_N M s)) :: st) r M') : jw G Y d c0 s0 M pc lc (.inl x :: st) r M' := by
  refine jw_mk (fun v hv => List.mem_cons_of_mem _ hv) ?_ kk
  intro p l e R s' m args below meth c H locs cells slots Q ls ρ hF hR hS hc1 hs1 kW
  obtain ⟨ord, hnd, hmem, hP, hD, hok, hsx⟩ := hR
  have hts := hF.2.2.2.2.2.2.1
  have hgk := hF.2.2.2.2.2.2.2.2.1
  refine va_newa (atype := .int) (ty := .int) (a0 := (n, .inl (fun _ => 0))) hF.1 hF.2.1 (hts _ hcl) rfl (gk_K hgk) hP hD hS (fun q hq => Nat.le_trans hF.2.2.2.2.2.2.2.2.2 hq) (fun cA => rfl) hx hn (by show n * 4 ≤ 536870912; omega) hc1 hs1 hd (fun q cA H1 hK1 hP1 hD1 hS1 => ?_)
  have hcA : cA = G.2.2.1 s := gk_cA hgk (ty := .int) (by rw [ar_ty, hs]) ((hK1.2 G.2.2.2.1.length (cA, .int) (by simp)).2)
  subst hcA
  refine kW q H1 (me_new ht hnd hmem hok hsx ?_ hP1 hD1) hS1
  rw [me_ce_i hs]
  have h1 : me_L (me_nw M s n n) s (me_N M s) = n := by rw [me_L_nw, if_pos ⟨rfl, rfl⟩]
  have h2 : me_I (me_nw M s n n) s (me_N M s) = fun _ => 0 := funext fun j => by rw [me_I_nw, if_pos ⟨rfl, rfl⟩]
  rw [h1, h2]
theorem jw_newZ {s n : Nat} {x : Int32} (hcl : Cond.arrayClass .boolean ∈ TS) (hd : decode Y.1 pc = .ok (.newarray .boolean, 2)) (hs : sk s = .inr .boolean) (ht : st_is s = false) (hx : ¬ x < 0) (hn : x.toNatClampNeg = n) (hb : n ≤ 1000000)
    (kk : jw G Y d c0 s0 (me_nw M s n n) (pc + 2) lc (.inr (some (s, me_N M s)) :: st) r M') : jw G Y d c0 s0 M pc lc (.inl x :: st) r M' := by
  refine jw_mk (fun v hv => List.mem_cons_of_mem _ hv) ?_ kk
  intro p l e R s' m args below meth c H locs cells slots Q ls ρ hF hR hS hc1 hs1 kW
  obtain ⟨ord, hnd, hmem, hP, hD, hok, hsx⟩ := hR
  have hts := hF.2.2.2.2.2.2.1
  have hgk := hF.2.2.2.2.2.2.2.2.1
  refine va_newa (atype := .boolean) (ty := .boolean) (a0 := (n, .inl (fun _ => 0))) hF.1 hF.2.1 (hts _ hcl) rfl (gk_K hgk) hP hD hS (fun q hq => Nat.le_trans hF.2.2.2.2.2.2.2.2.2 hq) (fun cA => rfl) hx hn (by show n * 1 ≤ 536870912; omega) hc1 hs1 hd (fun q cA H1 hK1 hP1 hD1 hS1 => ?_)
  have hcA : cA = G.2.2.1 s := gk_cA hgk (ty := .boolean) (by rw [ar_ty, hs]) ((hK1.2 G.2.2.2.1.length (cA, .boolean) (by simp)).2)
  subst hcA
  refine kW q H1 (me_new ht hnd hmem hok hsx ?_ hP1 hD1) hS1
  rw [me_ce_z hs]
  have h1 : me_L (me_nw M s n n) s (me_N M s) = n := by rw [me_L_nw, if_pos ⟨rfl, rfl⟩]
  have h2 : me_I (me_nw M s n n) s (me_N M s) = fun _ => 0 := funext fun j => by rw [me_I_nw, if_pos ⟨rfl, rfl⟩]
  rw [h1, h2]
theorem jw_newQ {s n index : Nat} {x : Int32} {C : String} (hcl : Cond.classLink Y.2.2.1 index C ∈ TS) (hao : ∀ U H, gk_ok G U H → va_AO C U) (hd : decode Y.1 pc = .ok (.anewarray index, 3)) (hs : sk s = .inr (.object C)) (ht : st_is s = false) (hx : ¬ x < 0) (hn : x.toNatClampNeg = n) (hb : n ≤ 1000000)
    (kk : jw G Y d c0 s0 (me_nw M s n n) (pc + 3) lc (.inr (some (s, me_N M s)) :: st) r M') : jw G Y d c0 s0 M pc lc (.inl x :: st) r M' := by
  refine jw_mk (fun v hv => List.mem_cons_of_mem _ hv) ?_ kk
  intro p l e R s' m args below meth c H locs cells slots Q ls ρ hF hR hS hc1 hs1 kW
  obtain ⟨ord, hnd, hmem, hP, hD, hok, hsx⟩ := hR
  have hts := hF.2.2.2.2.2.2.1
  have hgk := hF.2.2.2.2.2.2.2.2.1
  refine va_newq (C := C) hF.1 hF.2.1 hF.2.2.2.1 (hts _ hcl) (hao _ _ hgk) (gk_K hgk) hP hD hS (fun q hq => Nat.le_trans hF.2.2.2.2.2.2.2.2.2 hq) hx hn (by omega) hc1 hs1 hd (fun q cA H1 hK1 hP1 hD1 hS1 => ?_)
  have hcA : cA = G.2.2.1 s := gk_cA hgk (ty := .object C) (by rw [ar_ty, hs]) ((hK1.2 G.2.2.2.1.length (cA, .object C) (by simp)).2)
  subst hcA
  refine kW q H1 (me_new ht hnd hmem hok hsx ?_ hP1 hD1) hS1
  rw [me_ce_q hs]
  have h1 : me_L (me_nw M s n n) s (me_N M s) = n := by rw [me_L_nw, if_pos ⟨rfl, rfl⟩]
  have h2 : (fun k => av_r (rh_up ρ s (me_N M s) q) (me_P (me_nw M s n n) s (me_N M s) k)) = fun _ => none := funext fun j => by rw [me_P_nw, if_pos ⟨rfl, rfl⟩]; rfl
  rw [h1, h2]
end RowsC
def sp (G : Gt) (Y : Yt) (y : MethodName) (d : Nat) (as : List AV) (M : Me) (r : Option AV) (M' : Me) : Prop :=
  (me_C M ≤ me_C M' ∧ me_S M ≤ me_S M') ∧ ∀ (l : Launch) (ρ : Rh), (∀ v ∈ as, av_ok M v) →
    Met l y (Cond.code y Y.1 Y.2.1 Y.2.2.2.2 :: TS) (rm_of d (me_C M' - me_C M) (me_S M' - me_S M)) (va_Pc (as.map (av_tv ρ)) (fun U => gk_ok G U U.heap ∧ G.1 ≤ U.heap.size ∧ me_rl G ρ M U.heap)) (q_of G ρ (me_N M) r M') (me_C M' - me_C M) (me_S M' - me_S M) (fun q => G.1 ≤ q)
def mt_ok (Y : Yt) (y : MethodName) (n : Nat) : Prop := (Cond.code y Y.1 Y.2.1 Y.2.2.2.2 ∈ TS ∧ Cond.initialized y.cls ∈ TS) ∧ (y.cls ≠ "java/lang/invoke/MethodHandle" ∧ y.cls ≠ "java/lang/invoke/VarHandle" ∧ (parseMethodDescriptor y.desc).map (fun d => d.parameters.length) = some n) ∧ Y.2.1 ≤ 45 ∧ plainName y.cls = true ∧ Y.2.2.1 = y.cls ∧ Y.2.2.2.1 = y.name
theorem ts_good {w : Cond} (h : w ∈ TS) : w ∈ TS ∧ ((w.onTables && w.keeps) = true ∨ ∃ ty, w = .arrayClass ty) := ⟨h, good_of_word (ts_word h)⟩
theorem ts_goodIn {w : Cond} (h : w ∈ TS) : GoodIn TS (w :: TS) := fun x hx => by
  rcases List.mem_cons.mp hx with rfl | hx
  · exact ts_good h
  · exact ts_good hx
theorem lc_args {vs : List Value} (hc : ∀ v ∈ vs, v.category = 1) : ∀ (i j : Nat) (v : Value), vs[i]? = some v → (j + i, v) ∈ lv_args j vs := by
  induction vs with
  | nil => intro i j v h; simp at h
  | cons a vs ih =>
    intro i j v h
    unfold lv_args
    have ha : ¬ a.category = 2 := by rw [hc a List.mem_cons_self]; decide
    rw [if_neg ha]
    cases i with
    | zero =>
      simp at h; subst h
      exact List.mem_cons_self
    | succ i =>
      refine List.mem_cons_of_mem _ ?_
      have := ih (fun w hw => hc w (List.mem_cons_of_mem _ hw)) i (j + 1) v (by simpa using h)
      rwa [show j + 1 + i = j + (i + 1) by omega] at this
theorem lc_sl {vs : List Value} (hc : ∀ v ∈ vs, v.category = 1) : (lg_sl vs).length = vs.length := by
  induction vs with
  | nil => rfl
  | cons a vs ih =>
    have ha : ¬ a.category = 2 := by rw [hc a List.mem_cons_self]; decide
    have h1 := ih (fun w hw => hc w (List.mem_cons_of_mem _ hw))
    unfold lg_sl at h1 ⊢
    rw [List.flatMap_cons, if_neg ha, List.length_append, h1]
    simp; omega
theorem sp_of {G : Gt} {Y : Yt} {y : MethodName} {d n : Nat} {as : List AV} {M M' : Me} {r : Option AV} (lc : List (Option AV)) (hm : mt_ok Y y n) (hlen : as.length ≤ Y.2.1) (hlc : ∀ (i : Nat) (v : AV), lc[i]? = some (some v) → as[i]? = some v) (h : jw G Y d (me_C M) (me_S M) M 0 lc [] r M') : sp G Y y d as M r M' := by
  refine ⟨h.1, fun l ρ hok => ?_⟩
  refine Met.ofW (cc := Y.1) (maxL := Y.2.1) (ret := Y.2.2.2.2) hm.2.2.2.1 rfl ?_
  intro p e s m args below meth c s₁ B hml hv
  obtain ⟨rfl, hgk, hbs, hR⟩ := hv
  have hts := atoms_spec (ws := Cond.code y Y.1 Y.2.1 Y.2.2.2.2 :: TS) B.pre
  have hown : s.vm.findClass Y.2.2.1 = some m.cls := by rw [hm.2.2.2.2.1]; exact findClass_of_methodNamed B.named
  have hnm : meth.name = Y.2.2.2.1 := by rw [hm.2.2.2.2.2]; exact (name_of_methodNamed B.named B.method).1
  have hcat : ∀ v ∈ as.map (av_tv ρ), v.category = 1 := fun v hv => by
    obtain ⟨a, _, rfl⟩ := List.mem_map.mp hv
    exact av_cat ρ a
  have hl := lv_entry (as.map (av_tv ρ)) (n := Y.2.1) (by rw [lc_sl hcat, List.length_map]; exact hlen)
  rw [lg_entry_eq]
  generalize (lg_sl (as.map (av_tv ρ)) ++ List.replicate (Y.2.1 - (lg_sl (as.map (av_tv ρ))).length) Slot.unset).toArray = ls at hl ⊢
  refine h.2 p l e s m _ below meth c ρ (me_N M) ρ s.heap [] 0 0 ls ⟨B.exec, B.bytes, hml, hown, hnm, B.returns, fun w hw => hts w (List.mem_cons_of_mem _ hw), B.notSynchronized, hgk, hbs⟩ hR va_S.rf (fun _ _ _ => rfl) (fun _ => Nat.le_refl _) (Nat.zero_add _) (Nat.zero_add _) ⟨hl.1, hl.2.1, fun i v hv => ?_⟩ (fun v hv => by cases hv)
  have h1 := hlc i v hv
  refine ⟨?_, hok v (List.mem_of_getElem? h1)⟩
  have h2 := lc_args hcat i 0 (av_tv ρ v) (by rw [List.getElem?_map, h1]; rfl)
  rw [Nat.zero_add] at h2
  exact hl.2.2 _ h2
section RowsD
variable {G : Gt} {Y : Yt} {d c0 s0 : Nat} {M M1 M' : Me} {pc : Nat} {lc : List (Option AV)} {st stk : List AV} {r r1 : Option AV} {Yz : Yt} {z : MethodName} {as : List AV}
theorem av_rev (ρ : Rh) (as st : List AV) : (as.reverse ++ st).map (av_tv ρ) = (as.map (av_tv ρ)).reverse ++ st.map (av_tv ρ) := by
  rw [List.map_append, List.map_reverse]
theorem gk_blind {ρ : Rh} {vs : List Value} : FrameBlind (va_Pc vs (fun U => gk_ok G U U.heap ∧ G.1 ≤ U.heap.size ∧ me_rl G ρ M U.heap)) := by
  intro a U g mk q
  obtain ⟨q0, q1, q2, q3⟩ := q
  exact ⟨q0, gk_same (u := U) (U := U.calling g mk a) rfl q1, q2, q3⟩
theorem jw_ret_to {p : Program} {l : Launch} {e : Env} {s : State} {m : MethodId} {args : Array Value} {below : List Frame} {meth : Method} {c : Code} {ρe : Rh} {ne : Nat → Nat} {ρ : Rh} {H : Heap} {locs : List Loc} {cells slots : Nat} {ls : Array Slot}
    (hsp : sp G Yz z d as M r1 M1) (kk : jw G Y (d + 1) c0 s0 M1 (pc + 3) lc (r1.toList ++ st) r M')
    (hF : fr_ok G Y p s m args meth c) (hR : me_rl G ρ M H) (hS : va_S (fun q => G.1 ≤ q) s.heap H locs) (ha : ∀ a b, b < ne a → ρ a b = ρe a b) (hn : ∀ a, ne a ≤ me_N M a) (hc : cells + c0 = me_C M) (hs : slots + s0 = me_S M) (hl : lc_ok Y.2.1 ρ M lc ls) (hst : ∀ v ∈ st, av_ok M v) {a : Array Value}
    (hrun : va_Run p l e (rm_of (d + 1) (me_C M' - c0) (me_S M' - s0)) s m args below meth c H locs cells slots (me_C M1 - me_C M) (me_S M1 - me_S M) (F0 m pc ls (stk.map (av_tv ρ))) (st.map (av_tv ρ)) (q_of G ρ (me_N M) r1 M1 a) (fun q => G.1 ≤ q)) :
    W p l e (rm_of (d + 1) (me_C M' - c0) (me_S M' - s0)) s m args below meth c H locs cells slots (MQ below (q_of G ρe ne r M') args s (me_C M' - c0) (me_S M' - s0) (fun q => G.1 ≤ q)) (F0 m pc ls (stk.map (av_tv ρ))) := by
  intro T hT X
  obtain ⟨v, st₀, t, T', L, h0, X', hL, e1, e2, ⟨ρ', ho, hR', hag, hne, hok, hFf⟩, hgo⟩ := hrun T hT X
  have hv : v = r1.map (av_tv ρ') := Outcome.returned.inj ho
  subst hv
  have hsz := hsp.1
  have hS' : va_S (fun q => G.1 ≤ q) s.heap T'.heap (locs ++ L) := by
    refine ⟨?_, ?_, ?_⟩
    · rw [e1]; exact Nat.le_trans hS.1 (by rw [← h0]; exact hFf.1)
    · intro q hq hA
      rw [e1, hFf.2 q (by rw [h0]; exact Nat.lt_of_lt_of_le hq hS.1) hA, h0]
      exact hS.2.1 q hq hA
    · intro q hq
      rcases List.mem_append.mp hq with hq | hq
      · exact hS.2.2 q hq
      · exact hL q hq
  have hle : ∀ a, me_N M a ≤ me_N M1 a := hne
  have K := kk.2 p l e s m args below meth c ρe ne ρ' T'.heap (locs ++ L) (cells + (me_C M1 - me_C M)) (slots + (me_S M1 - me_S M)) ls hF (by rw [e1]; exact hR') hS' (fun a b hb => (hag a b (Nat.lt_of_lt_of_le hb (hn a))).trans (ha a b hb)) (fun a => Nat.le_trans (hn a) (hle a)) (by omega) (by omega) (lc_mono hl hle hag) (by
    intro v hv
    rcases List.mem_append.mp hv with hv | hv
    · exact hok v (by cases r1 with
        | none => cases hv
        | some w => rw [Option.toList_some, List.mem_singleton] at hv; rw [hv])
    · exact av_ok_mono hle (hst v hv))
  have hstk : (r1.toList ++ st).map (av_tv ρ') = (r1.map (av_tv ρ')).toList ++ st.map (av_tv ρ) := by
    rw [List.map_append, av_map_eq hst hag]
    cases r1 <;> rfl
  rw [hstk] at K
  obtain ⟨t2, a1, b1⟩ := K T' rfl X'
  exact ⟨t2, hgo t2 a1, b1⟩
theorem jw_calls (hsp : sp G Yz z d as M r1 M1) (kk : jw G Y (d + 1) c0 s0 M1 (pc + 3) lc (r1.toList ++ st) r M') : me_C M ≤ me_C M' ∧ me_S M ≤ me_S M' := ⟨Nat.le_trans hsp.1.1 kk.1.1, Nat.le_trans hsp.1.2 kk.1.2⟩
theorem jw_callB {R : Room} {s : State} {args : Array Value} {index n mc ms d' : Nat} {own : String} (hts : ∀ w ∈ TS, w.before args s = true) (hm : mt_ok Yz z n) (hl : Cond.methodLink own index z ∈ TS) (hR : R.frames = d' + 1 ∧ R.locals = 64 * (d' + 1)) : CallB R s args own index z Yz.1 Yz.2.1 Yz.2.2.2.2 (Cond.code z Yz.1 Yz.2.1 Yz.2.2.2.2 :: TS) (rm_of d' mc ms) mc ms n :=
  callB_of n hts (ts_goodIn hm.1.1) rfl rfl rfl (hts _ hm.1.2) (hts _ hl) hm.2.1 ⟨by rw [hR.1]; exact Nat.le_refl _, by rw [hR.2]; have := hm.2.2.1; show 8 + (Yz.2.1 + 11) + 64 * d' ≤ 64 * (d' + 1); omega⟩
theorem jw_callS {index n : Nat} (hsp : sp G Yz z d as M r1 M1) (hm : mt_ok Yz z n) (hl : Cond.methodLink Y.2.2.1 index z ∈ TS) (hst2 : Cond.static z ∈ TS) (hd : decode Y.1 pc = .ok (.invokestatic index, 3)) (hn : as.length = n) (hstk : stk = as.reverse ++ st) (hw : st.length ≤ 8)
    (kk : jw G Y (d + 1) c0 s0 M1 (pc + 3) lc (r1.toList ++ st) r M') : jw G Y (d + 1) c0 s0 M pc lc stk r M' := by
  refine ⟨jw_calls hsp kk, fun p l e s m args below meth c ρe ne ρ H locs cells slots ls hF hR hS ha hn' hc hs hlc hst => ?_⟩
  subst hstk
  have hts := hF.2.2.2.2.2.2.1
  have hst' : ∀ v ∈ st, av_ok M v := fun v hv => hst v (List.mem_append_right _ hv)
  have has : ∀ v ∈ as, av_ok M v := fun v hv => hst v (List.mem_append_left _ (List.mem_reverse.mpr hv))
  have k1 := kk.1
  have k2 := hsp.1
  refine jw_ret_to hsp kk hF hR hS ha hn' hc hs hlc hst' (a := (as.map (av_tv ρ)).toArray) ?_
  refine va_runS (As := as.map (av_tv ρ)) (rest := st.map (av_tv ρ)) ⟨hF.1, hF.2.1, hF.2.2.1, hF.2.2.2.1, hts⟩ (hsp.2 l ρ has) ⟨jw_callB hts hm hl ⟨rfl, rfl⟩, hts _ hst2⟩ ⟨gk_blind, fun U hU hW => ⟨rfl, ?_, ?_, ?_⟩⟩ rfl (by rw [List.length_map]; exact hn) hlc.1 (av_rev ρ as st) (lv_room ?_) hd ⟨?_, ?_⟩
  · exact gk_warm hF.2.2.2.2.2.2.2.2.1 hW (fun q hq => by rw [hU]; exact hS.2.1 q (Nat.lt_of_lt_of_le hq hF.2.2.2.2.2.2.2.2.2) (Nat.not_le.mpr hq)) 
  · rw [hU]; exact Nat.le_trans hF.2.2.2.2.2.2.2.2.2 hS.1
  · rw [hU]; exact hR
  · rw [List.map_map]
    have : (st.map ((fun v => v.category) ∘ av_tv ρ)) = st.map (fun _ => 1) := List.map_congr_left fun v _ => av_cat ρ v
    rw [this, List.map_const', List.sum_replicate_nat]; omega
  · show cells + (me_C M1 - me_C M) ≤ me_C M' - c0; omega
  · show slots + (me_S M1 - me_S M) ≤ me_S M' - s0; omega
theorem jw_callI {index n s1 i1 : Nat} {As : List AV} (hsp : sp G Yz z d (.inr (some (s1, i1)) :: As) M none M1) (hm : mt_ok Yz z n) (hrt : Yz.2.2.2.2 = none) (hnm : z.name = "<init>") (hl : Cond.methodLink Y.2.2.1 index z ∈ TS) (hin : Cond.instanceMethod z ∈ TS) (hd : decode Y.1 pc = .ok (.invokespecial index, 3)) (hn : As.length = n) (hstk : stk = As.reverse ++ .inr (some (s1, i1)) :: st) (hw : st.length ≤ 8)
    (kk : jw G Y (d + 1) c0 s0 M1 (pc + 3) lc st r M') : jw G Y (d + 1) c0 s0 M pc lc stk r M' := by
  refine ⟨jw_calls (r1 := none) hsp kk, fun p l e s m args below meth c ρe ne ρ H locs cells slots ls hF hR hS ha hn' hc hs hlc hst => ?_⟩
  subst hstk
  have hts := hF.2.2.2.2.2.2.1
  have hst' : ∀ v ∈ st, av_ok M v := fun v hv => hst v (List.mem_append_right _ (List.mem_cons_of_mem _ hv))
  have has : ∀ v ∈ (.inr (some (s1, i1)) : AV) :: As, av_ok M v := fun v hv => by
    rcases List.mem_cons.mp hv with rfl | hv
    · exact hst _ (List.mem_append_right _ List.mem_cons_self)
    · exact hst v (List.mem_append_left _ (List.mem_reverse.mpr hv))
  have k1 := kk.1
  have k2 := hsp.1
  have hcb := jw_callB (R := rm_of (d + 1) (me_C M' - c0) (me_S M' - s0)) (mc := me_C M1 - me_C M) (ms := me_S M1 - me_S M) hts hm hl ⟨rfl, rfl⟩
  have hM := hsp.2 l ρ has
  rw [hrt] at hcb hM
  refine jw_ret_to (r1 := none) hsp kk hF hR hS ha hn' hc hs hlc hst' (a := (((.inr (some (s1, i1)) : AV) :: As).map (av_tv ρ)).toArray) ?_
  refine va_runI (b := ρ s1 i1) (As := As.map (av_tv ρ)) (rest := st.map (av_tv ρ)) ⟨hF.1, hF.2.1, hF.2.2.1, hF.2.2.2.1, hts⟩ hM ⟨hcb, hnm, hts _ hin⟩ ⟨gk_blind, fun U hU hW => ⟨rfl, ?_, ?_, ?_⟩⟩ rfl (by rw [List.length_map]; exact hn) hlc.1 ?_ (lv_room ?_) hd ⟨?_, ?_⟩
  · exact gk_warm hF.2.2.2.2.2.2.2.2.1 hW (fun q hq => by rw [hU]; exact hS.2.1 q (Nat.lt_of_lt_of_le hq hF.2.2.2.2.2.2.2.2.2) (Nat.not_le.mpr hq))
  · rw [hU]; exact Nat.le_trans hF.2.2.2.2.2.2.2.2.2 hS.1
  · rw [hU]; exact hR
  · show (As.reverse ++ .inr (some (s1, i1)) :: st).map (av_tv ρ) = _
    rw [av_rev]; rfl
  · rw [List.map_map]
    have : (st.map ((fun v => v.category) ∘ av_tv ρ)) = st.map (fun _ => 1) := List.map_congr_left fun v _ => av_cat ρ v
    rw [this, List.map_const', List.sum_replicate_nat]; omega
  · show cells + (me_C M1 - me_C M) ≤ me_C M' - c0; omega
  · show slots + (me_S M1 - me_S M) ≤ me_S M' - s0; omega
theorem jw_callV {index n s1 i1 ci : Nat} {As : List AV} {T : u_T} {N : Nat} {ty : Nat → FieldType} (hsp : sp G Yz z d (.inr (some (s1, i1)) :: As) M r1 M1) (hm : mt_ok Yz z n) (hcf : cf_ok ci z.cls T N ty) (hs1 : sk s1 = .inl ci) (ht1 : st_is s1 = false) (hl : Cond.methodLink Y.2.2.1 index z ∈ TS) (hin : Cond.instanceMethod z ∈ TS) (hse : Cond.selects z.cls z z ∈ TS) (hd : decode Y.1 pc = .ok (.invokevirtual index, 3)) (hn : As.length = n) (hstk : stk = As.reverse ++ .inr (some (s1, i1)) :: st) (hw : st.length ≤ 8)
    (kk : jw G Y (d + 1) c0 s0 M1 (pc + 3) lc (r1.toList ++ st) r M') : jw G Y (d + 1) c0 s0 M pc lc stk r M' := by
  refine ⟨jw_calls hsp kk, fun p l e s m args below meth c ρe ne ρ H locs cells slots ls hF hR hS ha hn' hc hs hlc hst => ?_⟩
  subst hstk
  have hts := hF.2.2.2.2.2.2.1
  have hst' : ∀ v ∈ st, av_ok M v := fun v hv => hst v (List.mem_append_right _ (List.mem_cons_of_mem _ hv))
  have has : ∀ v ∈ (.inr (some (s1, i1)) : AV) :: As, av_ok M v := fun v hv => by
    rcases List.mem_cons.mp hv with rfl | hv
    · exact hst _ (List.mem_append_right _ List.mem_cons_self)
    · exact hst v (List.mem_append_left _ (List.mem_reverse.mpr hv))
  have k1 := kk.1
  have k2 := hsp.1
  have hgk := hF.2.2.2.2.2.2.2.2.1
  have hi : i1 < me_N M s1 := hst _ (List.mem_append_right _ List.mem_cons_self) (s1, i1) rfl
  refine jw_ret_to hsp kk hF hR hS ha hn' hc hs hlc hst' (a := (((.inr (some (s1, i1)) : AV) :: As).map (av_tv ρ)).toArray) ?_
  have hrec : ∃ cell : Cell, H[ρ s1 i1]? = some cell ∧ cell.vm.isStatics = false ∧ s.vm.findClass z.cls = some cell.cls := by
    obtain ⟨ord, hnd, hmem, hP, hD, hok, hsx⟩ := hR
    obtain ⟨n', hn2, he⟩ := me_at (cA := G.2.2.1) (ρ := ρ) (M := M) ((hmem (s1, i1)).mpr ⟨hi, ht1⟩)
    rw [me_ce_o hs1] at he
    exact va_recv (gk_K hgk) hP hcf.1 he
  refine va_runV (C := z.cls) (b := ρ s1 i1) (As := As.map (av_tv ρ)) (rest := st.map (av_tv ρ)) ⟨hF.1, hF.2.1, hF.2.2.1, hF.2.2.2.1, hts⟩ (hsp.2 l ρ has) ⟨jw_callB hts hm hl ⟨rfl, rfl⟩, hts _ hin, hts _ hse⟩ ⟨gk_blind, hrec, fun U hU hW => ⟨rfl, ?_, ?_, ?_⟩⟩ rfl (by rw [List.length_map]; exact hn) hlc.1 ?_ (lv_room ?_) hd ⟨?_, ?_⟩
  · exact gk_warm hgk hW (fun q hq => by rw [hU]; exact hS.2.1 q (Nat.lt_of_lt_of_le hq hF.2.2.2.2.2.2.2.2.2) (Nat.not_le.mpr hq))
  · rw [hU]; exact Nat.le_trans hF.2.2.2.2.2.2.2.2.2 hS.1
  · rw [hU]; exact hR
  · show (As.reverse ++ .inr (some (s1, i1)) :: st).map (av_tv ρ) = _
    rw [av_rev]; rfl
  · rw [List.map_map]
    have : (st.map ((fun v => v.category) ∘ av_tv ρ)) = st.map (fun _ => 1) := List.map_congr_left fun v _ => av_cat ρ v
    rw [this, List.map_const', List.sum_replicate_nat]; omega
  · show cells + (me_C M1 - me_C M) ≤ me_C M' - c0; omega
  · show slots + (me_S M1 - me_S M) ≤ me_S M' - s0; omega
theorem jw_callIN {index n s1 i1 : Nat} {host : String} {As : List AV} (hsp : sp G Yz z d (.inr (some (s1, i1)) :: As) M none M1) (hm : mt_ok Yz z n) (hrt : Yz.2.2.2.2 = none) (hnm : z.name = "<init>") (hl : Cond.methodLinkNest Y.2.2.1 index z host ∈ nest_w) (hin : Cond.instanceMethod z ∈ TS) (hd : decode Y.1 pc = .ok (.invokespecial index, 3)) (hn : As.length = n) (hstk : stk = As.reverse ++ .inr (some (s1, i1)) :: st) (hw : st.length ≤ 8)
    (kk : jw G Y (d + 1) c0 s0 M1 (pc + 3) lc st r M') : jw G Y (d + 1) c0 s0 M pc lc stk r M' := by
  refine ⟨jw_calls (r1 := none) hsp kk, fun p l e s m args below meth c ρe ne ρ H locs cells slots ls hF hR hS ha hn' hc hs hlc hst => ?_⟩
  subst hstk
  have hts := hF.2.2.2.2.2.2.1
  have hst' : ∀ v ∈ st, av_ok M v := fun v hv => hst v (List.mem_append_right _ (List.mem_cons_of_mem _ hv))
  have has : ∀ v ∈ (.inr (some (s1, i1)) : AV) :: As, av_ok M v := fun v hv => by
    rcases List.mem_cons.mp hv with rfl | hv
    · exact hst _ (List.mem_append_right _ List.mem_cons_self)
    · exact hst v (List.mem_append_left _ (List.mem_reverse.mpr hv))
  have k1 := kk.1
  have k2 := hsp.1
  have hM := hsp.2 l ρ has
  have hgk := hF.2.2.2.2.2.2.2.2.1
  have hcb : va_CN (rm_of (d + 1) (me_C M' - c0) (me_S M' - s0)) s args Y.2.2.1 index z host Yz.1 Yz.2.1 Yz.2.2.2.2 (Cond.code z Yz.1 Yz.2.1 Yz.2.2.2.2 :: TS) (rm_of d (me_C M1 - me_C M) (me_S M1 - me_S M)) (me_C M1 - me_C M) (me_S M1 - me_S M) n := va_cnB n hts (ts_goodIn hm.1.1) rfl rfl rfl (hgk.2.2.1 _ hl) (hts _ hm.1.2) hm.2.1 ⟨Nat.le_refl _, by have := hm.2.2.1; show 8 + (Yz.2.1 + 11) + 64 * d ≤ 64 * (d + 1); omega⟩
  rw [hrt] at hcb hM
  refine jw_ret_to (r1 := none) hsp kk hF hR hS ha hn' hc hs hlc hst' (a := (((.inr (some (s1, i1)) : AV) :: As).map (av_tv ρ)).toArray) ?_
  refine va_runIN (b := ρ s1 i1) (As := As.map (av_tv ρ)) (rest := st.map (av_tv ρ)) ⟨hF.1, hF.2.1, hF.2.2.1, hF.2.2.2.1, hts⟩ hM ⟨hcb, hnm, hts _ hin⟩ ⟨gk_blind, fun U hU hW => ⟨rfl, ?_, ?_, ?_⟩⟩ rfl (by rw [List.length_map]; exact hn) hlc.1 ?_ (lv_room ?_) hd ⟨?_, ?_⟩
  · exact gk_warm hgk hW (fun q hq => by rw [hU]; exact hS.2.1 q (Nat.lt_of_lt_of_le hq hF.2.2.2.2.2.2.2.2.2) (Nat.not_le.mpr hq))
  · rw [hU]; exact Nat.le_trans hF.2.2.2.2.2.2.2.2.2 hS.1
  · rw [hU]; exact hR
  · show (As.reverse ++ .inr (some (s1, i1)) :: st).map (av_tv ρ) = _
    rw [av_rev]; rfl
  · rw [List.map_map]
    have : (st.map ((fun v => v.category) ∘ av_tv ρ)) = st.map (fun _ => 1) := List.map_congr_left fun v _ => av_cat ρ v
    rw [this, List.map_const', List.sum_replicate_nat]; omega
  · show cells + (me_C M1 - me_C M) ≤ me_C M' - c0; omega
  · show slots + (me_S M1 - me_S M) ≤ me_S M' - s0; omega
theorem jw_mmax {index : Nat} {x y : Int32} (hl : Cond.methodLink Y.2.2.1 index Lib.Math.max.name ∈ TS) (hsm : Cond.static Lib.Math.max.name ∈ TS) (hin : Cond.initialized "java/lang/Math" ∈ TS) (hco : Cond.code Lib.Math.max.name Lib.Math.max.code 2 (some .int) ∈ TS) (hd : decode Y.1 pc = .ok (.invokestatic index, 3)) (hw : st.length ≤ 8) (kk : jw G Y (d + 1) c0 s0 M (pc + 3) lc (.inl (if x < y then y else x) :: st) r M') : jw G Y (d + 1) c0 s0 M pc lc (.inl y :: .inl x :: st) r M' := by
  refine ⟨kk.1, fun p l e s m args below meth c ρe ne ρ H locs cells slots ls hF hR hS ha hn' hc hs hlc hst => ?_⟩
  have hts := hF.2.2.2.2.2.2.1
  have k1 := kk.1
  have h1 : ((st.map (av_tv ρ)).map (fun v => v.category)).sum = st.length := by
    have h2 : (st.map (av_tv ρ)).map (fun v => v.category) = st.map (fun _ => 1) := by
      rw [List.map_map]; exact List.map_congr_left fun v _ => av_cat ρ v
    rw [h2, List.map_const', List.sum_replicate_nat]; omega
  refine va_mmax (rest := st.map (av_tv ρ)) hF.1 hF.2.1 (hF.2.2.1.trans hlc.1.symm) hF.2.2.2.1 (hts _ hl) (hts _ hsm) (hts _ hin) (hts _ hco) (show 1 ≤ d + 1 by omega) (by rw [h1]; show st.length + 13 ≤ 64 * (d + 1); omega) (show cells ≤ me_C M' - c0 by omega) (show slots ≤ me_S M' - s0 by omega) hd ?_
  exact kk.2 p l e s m args below meth c ρe ne ρ H locs cells slots ls hF hR hS ha hn' hc hs hlc (fun v hv => by
    rcases List.mem_cons.mp hv with rfl | hv
    · exact av_ok_i
    · exact hst v (List.mem_cons_of_mem _ (List.mem_cons_of_mem _ hv)))
theorem jw_mmin {index : Nat} {x y : Int32} (hl : Cond.methodLink Y.2.2.1 index Lib.Math.min.name ∈ TS) (hsm : Cond.static Lib.Math.min.name ∈ TS) (hin : Cond.initialized "java/lang/Math" ∈ TS) (hco : Cond.code Lib.Math.min.name Lib.Math.min.code 2 (some .int) ∈ TS) (hd : decode Y.1 pc = .ok (.invokestatic index, 3)) (hw : st.length ≤ 8) (kk : jw G Y (d + 1) c0 s0 M (pc + 3) lc (.inl (if y < x then y else x) :: st) r M') : jw G Y (d + 1) c0 s0 M pc lc (.inl y :: .inl x :: st) r M' := by
  refine ⟨kk.1, fun p l e s m args below meth c ρe ne ρ H locs cells slots ls hF hR hS ha hn' hc hs hlc hst => ?_⟩
  have hts := hF.2.2.2.2.2.2.1
  have k1 := kk.1
  have h1 : ((st.map (av_tv ρ)).map (fun v => v.category)).sum = st.length := by
    have h2 : (st.map (av_tv ρ)).map (fun v => v.category) = st.map (fun _ => 1) := by
      rw [List.map_map]; exact List.map_congr_left fun v _ => av_cat ρ v
    rw [h2, List.map_const', List.sum_replicate_nat]; omega
  refine va_mmin (rest := st.map (av_tv ρ)) hF.1 hF.2.1 (hF.2.2.1.trans hlc.1.symm) hF.2.2.2.1 (hts _ hl) (hts _ hsm) (hts _ hin) (hts _ hco) (show 1 ≤ d + 1 by omega) (by rw [h1]; show st.length + 13 ≤ 64 * (d + 1); omega) (show cells ≤ me_C M' - c0 by omega) (show slots ≤ me_S M' - s0 by omega) hd ?_
  exact kk.2 p l e s m args below meth c ρe ne ρ H locs cells slots ls hF hR hS ha hn' hc hs hlc (fun v hv => by
    rcases List.mem_cons.mp hv with rfl | hv
    · exact av_ok_i
    · exact hst v (List.mem_cons_of_mem _ (List.mem_cons_of_mem _ hv)))
theorem jw_objInit {index : Nat} {o : Nat × Nat} (hl : Cond.methodLink Y.2.2.1 index Lib.objectInit ∈ TS) (hin : Cond.instanceMethod Lib.objectInit ∈ TS) (hco : Cond.code Lib.objectInit ⟨#[0xb1]⟩ 1 none ∈ TS) (hd : decode Y.1 pc = .ok (.invokespecial index, 3)) (hw : st.length ≤ 8) (kk : jw G Y (d + 1) c0 s0 M (pc + 3) lc st r M') : jw G Y (d + 1) c0 s0 M pc lc (.inr (some o) :: st) r M' := by
  refine ⟨kk.1, fun p l e s m args below meth c ρe ne ρ H locs cells slots ls hF hR hS ha hn' hc hs hlc hst => ?_⟩
  have hts := hF.2.2.2.2.2.2.1
  refine W.objInit (a := ρ o.1 o.2) (rest := st.map (av_tv ρ)) hF.1 hF.2.1 hF.2.2.2.1 (hts _ hl) (hts _ hin) (hts _ hco) rfl (hlc.1.trans hF.2.2.1.symm) rfl hd (show 1 ≤ d + 1 by omega) ?_ ?_
  · have h1 : (st.map (av_tv ρ)).map (fun v => v.category) = st.map (fun _ => 1) := by
      rw [List.map_map]; exact List.map_congr_left fun v _ => av_cat ρ v
    rw [h1, List.map_const', List.sum_replicate_nat]
    show 2 * 0 + st.length * 1 + 12 ≤ 64 * (d + 1)
    omega
  · exact kk.2 p l e s m args below meth c ρe ne ρ H locs cells slots ls hF hR hS ha hn' hc hs hlc (fun v hv => hst v (List.mem_cons_of_mem _ hv))
theorem jw_iret {x : Int32} (hd : decode Y.1 pc = .ok (.ireturn, 1)) (hr : Y.2.2.2.2 = some .int) : jw G Y d c0 s0 M pc lc [.inl x] (some (.inl x)) M := by
  refine ⟨⟨Nat.le_refl _, Nat.le_refl _⟩, fun p l e s m args below meth c ρe ne ρ H locs cells slots ls hF hR hS ha hn' hc hs hlc hst => ?_⟩
  have e1 : me_C M - c0 = cells := by omega
  have e2 : me_S M - s0 = slots := by omega
  rw [e1, e2]
  exact W.iret hF.1 hF.2.1 (hF.2.2.2.2.2.1.trans hr) (fun t ht hW => ⟨ρ, rfl, by rw [ht]; exact hR, ha, hn', fun v hv => by cases hv; exact av_ok_i, hS.F ht⟩) hS.2.2 hd hF.2.2.2.2.2.2.2.1
theorem jw_zret {x : Int32} (hd : decode Y.1 pc = .ok (.ireturn, 1)) (hr : Y.2.2.2.2 = some .boolean) (hx : x = 0 ∨ x = 1) : jw G Y d c0 s0 M pc lc [.inl x] (some (.inl x)) M := by
  refine ⟨⟨Nat.le_refl _, Nat.le_refl _⟩, fun p l e s m args below meth c ρe ne ρ H locs cells slots ls hF hR hS ha hn' hc hs hlc hst => ?_⟩
  have e1 : me_C M - c0 = cells := by omega
  have e2 : me_S M - s0 = slots := by omega
  rw [e1, e2]
  exact W.zret hF.1 hF.2.1 (hF.2.2.2.2.2.1.trans hr) (by rcases hx with rfl | rfl <;> rfl) (fun t ht hW => ⟨ρ, rfl, by rw [ht]; exact hR, ha, hn', fun v hv => by cases hv; exact av_ok_i, hS.F ht⟩) hS.2.2 hd hF.2.2.2.2.2.2.2.1
theorem jw_vret (hd : decode Y.1 pc = .ok (.return_, 1)) (hr : Y.2.2.2.2 = none) : jw G Y d c0 s0 M pc lc [] none M := by
  refine ⟨⟨Nat.le_refl _, Nat.le_refl _⟩, fun p l e s m args below meth c ρe ne ρ H locs cells slots ls hF hR hS ha hn' hc hs hlc hst => ?_⟩
  have e1 : me_C M - c0 = cells := by omega
  have e2 : me_S M - s0 = slots := by omega
  rw [e1, e2]
  exact W.vret hF.1 hF.2.1 (hF.2.2.2.2.2.1.trans hr) (fun t ht hW => ⟨ρ, rfl, by rw [ht]; exact hR, ha, hn', fun v hv => by (cases hv), hS.F ht⟩) hS.2.2 hd hF.2.2.2.2.2.2.2.1
theorem jw_aret {o : Option (Nat × Nat)} {C : String} (hd : decode Y.1 pc = .ok (.areturn, 1)) (hr : Y.2.2.2.2 = some (.object C)) : jw G Y d c0 s0 M pc lc [.inr o] (some (.inr o)) M := by
  refine ⟨⟨Nat.le_refl _, Nat.le_refl _⟩, fun p l e s m args below meth c ρe ne ρ H locs cells slots ls hF hR hS ha hn' hc hs hlc hst => ?_⟩
  have e1 : me_C M - c0 = cells := by omega
  have e2 : me_S M - s0 = slots := by omega
  rw [e1, e2]
  exact W.aret hF.1 hF.2.1 (hF.2.2.2.2.2.1.trans hr) (Or.inl ⟨C, rfl⟩) (va_rf_or _) (fun t ht hW => ⟨ρ, rfl, by rw [ht]; exact hR, ha, hn', fun v hv => by cases hv; exact hst _ List.mem_cons_self, hS.F ht⟩) hS.2.2 hd hF.2.2.2.2.2.2.2.1
end RowsD
end
section
theorem ic_Y : ∀ w ∈ u_ws "PollYard" tx_Y 14, w ∈ lw_tbl ∧ goodWord w = true := by decide +kernel
theorem cf_Y : cf_ok 0 "PollYard" tx_Y 14 ty_Y := ⟨rfl, fun w hw => ts_in (ic_Y w hw).1 (ic_Y w hw).2, rfl, by decide +kernel, by decide +kernel⟩
theorem df_Y : ∀ j, j < 14 → defaultValue (ty_Y j) = if fk 0 j = true then .null else .int 0 := by decide +kernel
theorem it_Y : Cond.instantiable "PollYard" 14 ∈ TS := tn_1 11 rfl rfl
theorem ii_Y : Cond.initialized "PollYard" ∈ TS := tn_1 1 rfl rfl
theorem ic_P : ∀ w ∈ u_ws "PollYard$Program" tx_P 4, w ∈ lw_tbl ∧ goodWord w = true := by decide +kernel
theorem cf_P : cf_ok 1 "PollYard$Program" tx_P 4 ty_P := ⟨rfl, fun w hw => ts_in (ic_P w hw).1 (ic_P w hw).2, rfl, by decide +kernel, by decide +kernel⟩
theorem df_P : ∀ j, j < 4 → defaultValue (ty_P j) = if fk 1 j = true then .null else .int 0 := by decide +kernel
theorem it_P : Cond.instantiable "PollYard$Program" 4 ∈ TS := tn_1 19 rfl rfl
theorem ii_P : Cond.initialized "PollYard$Program" ∈ TS := tn_1 2 rfl rfl
theorem ic_T : ∀ w ∈ u_ws "PollYard$Task" tx_T 11, w ∈ lw_tbl ∧ goodWord w = true := by decide +kernel
theorem cf_T : cf_ok 2 "PollYard$Task" tx_T 11 ty_T := ⟨rfl, fun w hw => ts_in (ic_T w hw).1 (ic_T w hw).2, rfl, by decide +kernel, by decide +kernel⟩
theorem df_T : ∀ j, j < 11 → defaultValue (ty_T j) = if fk 2 j = true then .null else .int 0 := by decide +kernel
theorem it_T : Cond.instantiable "PollYard$Task" 11 ∈ TS := tn_1 219 rfl rfl
theorem ii_T : Cond.initialized "PollYard$Task" ∈ TS := tn_1 9 rfl rfl
theorem ic_K : ∀ w ∈ u_ws "PollYard$Worker" tx_K 5, w ∈ lw_tbl ∧ goodWord w = true := by decide +kernel
theorem cf_K : cf_ok 3 "PollYard$Worker" tx_K 5 ty_K := ⟨rfl, fun w hw => ts_in (ic_K w hw).1 (ic_K w hw).2, rfl, by decide +kernel, by decide +kernel⟩
theorem df_K : ∀ j, j < 5 → defaultValue (ty_K j) = if fk 3 j = true then .null else .int 0 := by decide +kernel
theorem it_K : Cond.instantiable "PollYard$Worker" 5 ∈ TS := tn_1 49 rfl rfl
theorem ii_K : Cond.initialized "PollYard$Worker" ∈ TS := tn_1 3 rfl rfl
theorem ic_R : ∀ w ∈ u_ws "PollYard$Row" tx_R 2, w ∈ lw_tbl ∧ goodWord w = true := by decide +kernel
theorem cf_R : cf_ok 4 "PollYard$Row" tx_R 2 ty_R := ⟨rfl, fun w hw => ts_in (ic_R w hw).1 (ic_R w hw).2, rfl, by decide +kernel, by decide +kernel⟩
theorem df_R : ∀ j, j < 2 → defaultValue (ty_R j) = if fk 4 j = true then .null else .int 0 := by decide +kernel
theorem it_R : Cond.instantiable "PollYard$Row" 2 ∈ TS := tn_1 55 rfl rfl
theorem ii_R : Cond.initialized "PollYard$Row" ∈ TS := tn_1 4 rfl rfl
theorem ic_G : ∀ w ∈ u_ws "PollYard$Gate" tx_G 2, w ∈ lw_tbl ∧ goodWord w = true := by decide +kernel
theorem cf_G : cf_ok 5 "PollYard$Gate" tx_G 2 ty_G := ⟨rfl, fun w hw => ts_in (ic_G w hw).1 (ic_G w hw).2, rfl, by decide +kernel, by decide +kernel⟩
theorem df_G : ∀ j, j < 2 → defaultValue (ty_G j) = if fk 5 j = true then .null else .int 0 := by decide +kernel
theorem it_G : Cond.instantiable "PollYard$Gate" 2 ∈ TS := tn_1 96 rfl rfl
theorem ii_G : Cond.initialized "PollYard$Gate" ∈ TS := tn_1 6 rfl rfl
theorem ic_N : ∀ w ∈ u_ws "PollYard$Notice" tx_N 2, w ∈ lw_tbl ∧ goodWord w = true := by decide +kernel
theorem cf_N : cf_ok 6 "PollYard$Notice" tx_N 2 ty_N := ⟨rfl, fun w hw => ts_in (ic_N w hw).1 (ic_N w hw).2, rfl, by decide +kernel, by decide +kernel⟩
theorem df_N : ∀ j, j < 2 → defaultValue (ty_N j) = if fk 6 j = true then .null else .int 0 := by decide +kernel
theorem it_N : Cond.instantiable "PollYard$Notice" 2 ∈ TS := tn_1 114 rfl rfl
theorem ii_N : Cond.initialized "PollYard$Notice" ∈ TS := tn_1 7 rfl rfl
theorem ic_M : ∀ w ∈ u_ws "PollYardModel" tx_M 36, w ∈ lw_tbl ∧ goodWord w = true := by decide +kernel
theorem cf_M : cf_ok 7 "PollYardModel" tx_M 36 ty_M := ⟨rfl, fun w hw => ts_in (ic_M w hw).1 (ic_M w hw).2, rfl, by decide +kernel, by decide +kernel⟩
theorem df_M : ∀ j, j < 36 → defaultValue (ty_M j) = if fk 7 j = true then .null else .int 0 := by decide +kernel
theorem it_M : Cond.instantiable "PollYardModel" 36 ∈ TS := tn_3 46 rfl rfl
theorem ii_M : Cond.initialized "PollYardModel" ∈ TS := tn_1 8 rfl rfl
theorem cl_L_7 : Cond.classLink "PollYardLaw" 7 "PollYard" ∈ TS := tn_1 10 rfl rfl
theorem cl_Y_7 : Cond.classLink "PollYard" 7 "PollYard$Program" ∈ TS := tn_1 18 rfl rfl
theorem fl_P_9 : fl_ok "PollYard$Program" 9 1 0 "PollYard$Program" tx_P 4 ty_P true := ⟨cf_P, by decide, rfl, tn_1 24 rfl rfl⟩
theorem fl_T_64 : fl_ok "PollYard$Task" 64 1 0 "PollYard$Program" tx_P 4 ty_P true := ⟨cf_P, by decide, rfl, tn_1 25 rfl rfl⟩
theorem fl_Y_269 : fl_ok "PollYard" 269 1 0 "PollYard$Program" tx_P 4 ty_P true := ⟨cf_P, by decide, rfl, tn_1 26 rfl rfl⟩
theorem fl_P_15 : fl_ok "PollYard$Program" 15 1 1 "PollYard$Program" tx_P 4 ty_P true := ⟨cf_P, by decide, rfl, tn_1 27 rfl rfl⟩
theorem fl_T_67 : fl_ok "PollYard$Task" 67 1 1 "PollYard$Program" tx_P 4 ty_P true := ⟨cf_P, by decide, rfl, tn_1 28 rfl rfl⟩
theorem fl_Y_266 : fl_ok "PollYard" 266 1 1 "PollYard$Program" tx_P 4 ty_P true := ⟨cf_P, by decide, rfl, tn_1 29 rfl rfl⟩
theorem fl_P_18 : fl_ok "PollYard$Program" 18 1 2 "PollYard$Program" tx_P 4 ty_P true := ⟨cf_P, by decide, rfl, tn_1 30 rfl rfl⟩
theorem fl_P_21 : fl_ok "PollYard$Program" 21 1 3 "PollYard$Program" tx_P 4 ty_P false := ⟨cf_P, by decide, rfl, tn_1 31 rfl rfl⟩
theorem fl_Y_89 : fl_ok "PollYard" 89 1 3 "PollYard$Program" tx_P 4 ty_P false := ⟨cf_P, by decide, rfl, tn_1 32 rfl rfl⟩
theorem fl_T_61 : fl_ok "PollYard$Task" 61 1 3 "PollYard$Program" tx_P 4 ty_P false := ⟨cf_P, by decide, rfl, tn_1 33 rfl rfl⟩
theorem cl_Y_24 : Cond.classLink "PollYard" 24 "PollYard$Task" ∈ TS := tn_1 45 rfl rfl
theorem cl_Y_33 : Cond.classLink "PollYard" 33 "PollYard$Worker" ∈ TS := tn_1 47 rfl rfl
theorem cl_K_9 : Cond.classLink "PollYard$Worker" 9 "PollYard$Row" ∈ TS := tn_1 54 rfl rfl
theorem fl_R_21 : fl_ok "PollYard$Row" 21 4 0 "PollYard$Row" tx_R 2 ty_R true := ⟨cf_R, by decide, rfl, tn_1 63 rfl rfl⟩
theorem fl_R_9 : fl_ok "PollYard$Row" 9 4 1 "PollYard$Row" tx_R 2 ty_R false := ⟨cf_R, by decide, rfl, tn_1 64 rfl rfl⟩
theorem fl_Y_168 : fl_ok "PollYard" 168 4 1 "PollYard$Row" tx_R 2 ty_R false := ⟨cf_R, by decide, rfl, tn_1 65 rfl rfl⟩
theorem fl_K_30 : fl_ok "PollYard$Worker" 30 3 0 "PollYard$Worker" tx_K 5 ty_K false := ⟨cf_K, by decide, rfl, tn_1 71 rfl rfl⟩
theorem fl_Y_195 : fl_ok "PollYard" 195 3 0 "PollYard$Worker" tx_K 5 ty_K false := ⟨cf_K, by decide, rfl, tn_1 72 rfl rfl⟩
theorem fl_K_14 : fl_ok "PollYard$Worker" 14 3 1 "PollYard$Worker" tx_K 5 ty_K true := ⟨cf_K, by decide, rfl, tn_1 73 rfl rfl⟩
theorem fl_Y_165 : fl_ok "PollYard" 165 3 1 "PollYard$Worker" tx_K 5 ty_K true := ⟨cf_K, by decide, rfl, tn_1 74 rfl rfl⟩
theorem fl_K_20 : fl_ok "PollYard$Worker" 20 3 2 "PollYard$Worker" tx_K 5 ty_K false := ⟨cf_K, by decide, rfl, tn_1 75 rfl rfl⟩
theorem fl_Y_159 : fl_ok "PollYard" 159 3 2 "PollYard$Worker" tx_K 5 ty_K false := ⟨cf_K, by decide, rfl, tn_1 76 rfl rfl⟩
theorem fl_K_24 : fl_ok "PollYard$Worker" 24 3 3 "PollYard$Worker" tx_K 5 ty_K false := ⟨cf_K, by decide, rfl, tn_1 77 rfl rfl⟩
theorem fl_Y_162 : fl_ok "PollYard" 162 3 3 "PollYard$Worker" tx_K 5 ty_K false := ⟨cf_K, by decide, rfl, tn_1 78 rfl rfl⟩
theorem fl_K_27 : fl_ok "PollYard$Worker" 27 3 4 "PollYard$Worker" tx_K 5 ty_K false := ⟨cf_K, by decide, rfl, tn_1 79 rfl rfl⟩
theorem fl_Y_172 : fl_ok "PollYard" 172 3 4 "PollYard$Worker" tx_K 5 ty_K false := ⟨cf_K, by decide, rfl, tn_1 80 rfl rfl⟩
theorem cl_Y_42 : Cond.classLink "PollYard" 42 "PollYard$Row" ∈ TS := tn_1 92 rfl rfl
theorem cl_Y_52 : Cond.classLink "PollYard" 52 "PollYard$Gate" ∈ TS := tn_1 94 rfl rfl
theorem cl_G_9 : Cond.classLink "PollYard$Gate" 9 "PollYard$Row" ∈ TS := tn_1 101 rfl rfl
theorem fl_G_14 : fl_ok "PollYard$Gate" 14 5 0 "PollYard$Gate" tx_G 2 ty_G true := ⟨cf_G, by decide, rfl, tn_1 103 rfl rfl⟩
theorem fl_Y_175 : fl_ok "PollYard" 175 5 0 "PollYard$Gate" tx_G 2 ty_G true := ⟨cf_G, by decide, rfl, tn_1 104 rfl rfl⟩
theorem fl_G_20 : fl_ok "PollYard$Gate" 20 5 1 "PollYard$Gate" tx_G 2 ty_G false := ⟨cf_G, by decide, rfl, tn_1 105 rfl rfl⟩
theorem fl_Y_137 : fl_ok "PollYard" 137 5 1 "PollYard$Gate" tx_G 2 ty_G false := ⟨cf_G, by decide, rfl, tn_1 106 rfl rfl⟩
theorem cl_Y_59 : Cond.classLink "PollYard" 59 "PollYard$Notice" ∈ TS := tn_1 112 rfl rfl
theorem cl_N_9 : Cond.classLink "PollYard$Notice" 9 "PollYard$Row" ∈ TS := tn_1 119 rfl rfl
theorem fl_N_14 : fl_ok "PollYard$Notice" 14 6 0 "PollYard$Notice" tx_N 2 ty_N true := ⟨cf_N, by decide, rfl, tn_1 121 rfl rfl⟩
theorem fl_Y_186 : fl_ok "PollYard" 186 6 0 "PollYard$Notice" tx_N 2 ty_N true := ⟨cf_N, by decide, rfl, tn_1 122 rfl rfl⟩
theorem fl_N_20 : fl_ok "PollYard$Notice" 20 6 1 "PollYard$Notice" tx_N 2 ty_N false := ⟨cf_N, by decide, rfl, tn_1 123 rfl rfl⟩
theorem fl_Y_182 : fl_ok "PollYard" 182 6 1 "PollYard$Notice" tx_N 2 ty_N false := ⟨cf_N, by decide, rfl, tn_1 124 rfl rfl⟩
theorem fl_Y_10 : fl_ok "PollYard" 10 0 0 "PollYard" tx_Y 14 ty_Y true := ⟨cf_Y, by decide, rfl, tn_1 130 rfl rfl⟩
theorem fl_Y_16 : fl_ok "PollYard" 16 0 1 "PollYard" tx_Y 14 ty_Y true := ⟨cf_Y, by decide, rfl, tn_1 131 rfl rfl⟩
theorem fl_Y_20 : fl_ok "PollYard" 20 0 2 "PollYard" tx_Y 14 ty_Y false := ⟨cf_Y, by decide, rfl, tn_1 132 rfl rfl⟩
theorem fl_Y_26 : fl_ok "PollYard" 26 0 3 "PollYard" tx_Y 14 ty_Y true := ⟨cf_Y, by decide, rfl, tn_1 133 rfl rfl⟩
theorem fl_Y_30 : fl_ok "PollYard" 30 0 4 "PollYard" tx_Y 14 ty_Y false := ⟨cf_Y, by decide, rfl, tn_1 134 rfl rfl⟩
theorem fl_Y_38 : fl_ok "PollYard" 38 0 5 "PollYard" tx_Y 14 ty_Y true := ⟨cf_Y, by decide, rfl, tn_1 135 rfl rfl⟩
theorem fl_Y_45 : fl_ok "PollYard" 45 0 6 "PollYard" tx_Y 14 ty_Y true := ⟨cf_Y, by decide, rfl, tn_1 136 rfl rfl⟩
theorem fl_Y_49 : fl_ok "PollYard" 49 0 7 "PollYard" tx_Y 14 ty_Y true := ⟨cf_Y, by decide, rfl, tn_1 137 rfl rfl⟩
theorem fl_Y_55 : fl_ok "PollYard" 55 0 8 "PollYard" tx_Y 14 ty_Y true := ⟨cf_Y, by decide, rfl, tn_1 138 rfl rfl⟩
theorem fl_Y_62 : fl_ok "PollYard" 62 0 9 "PollYard" tx_Y 14 ty_Y true := ⟨cf_Y, by decide, rfl, tn_1 139 rfl rfl⟩
theorem fl_Y_66 : fl_ok "PollYard" 66 0 10 "PollYard" tx_Y 14 ty_Y false := ⟨cf_Y, by decide, rfl, tn_1 140 rfl rfl⟩
theorem fl_Y_69 : fl_ok "PollYard" 69 0 11 "PollYard" tx_Y 14 ty_Y false := ⟨cf_Y, by decide, rfl, tn_1 141 rfl rfl⟩
theorem fl_Y_72 : fl_ok "PollYard" 72 0 12 "PollYard" tx_Y 14 ty_Y false := ⟨cf_Y, by decide, rfl, tn_1 142 rfl rfl⟩
theorem fl_Y_75 : fl_ok "PollYard" 75 0 13 "PollYard" tx_Y 14 ty_Y false := ⟨cf_Y, by decide, rfl, tn_1 143 rfl rfl⟩
theorem fs_Y_78 : Cond.fieldLink "PollYard" 78 "PollYard" "LOWEST" "[I" ∈ TS := tn_1 177 rfl rfl
theorem fs_Y_82 : Cond.fieldLink "PollYard" 82 "PollYard" "HIGHEST" "[I" ∈ TS := tn_1 179 rfl rfl
theorem fl_T_38 : fl_ok "PollYard$Task" 38 2 0 "PollYard$Task" tx_T 11 ty_T false := ⟨cf_T, by decide, rfl, tn_1 224 rfl rfl⟩
theorem fl_Y_213 : fl_ok "PollYard" 213 2 0 "PollYard$Task" tx_T 11 ty_T false := ⟨cf_T, by decide, rfl, tn_1 225 rfl rfl⟩
theorem fl_T_41 : fl_ok "PollYard$Task" 41 2 1 "PollYard$Task" tx_T 11 ty_T false := ⟨cf_T, by decide, rfl, tn_1 226 rfl rfl⟩
theorem fl_Y_150 : fl_ok "PollYard" 150 2 1 "PollYard$Task" tx_T 11 ty_T false := ⟨cf_T, by decide, rfl, tn_1 227 rfl rfl⟩
theorem fl_T_44 : fl_ok "PollYard$Task" 44 2 2 "PollYard$Task" tx_T 11 ty_T true := ⟨cf_T, by decide, rfl, tn_1 228 rfl rfl⟩
theorem fl_Y_257 : fl_ok "PollYard" 257 2 2 "PollYard$Task" tx_T 11 ty_T true := ⟨cf_T, by decide, rfl, tn_1 229 rfl rfl⟩
theorem fl_T_9 : fl_ok "PollYard$Task" 9 2 3 "PollYard$Task" tx_T 11 ty_T false := ⟨cf_T, by decide, rfl, tn_1 230 rfl rfl⟩
theorem fl_Y_123 : fl_ok "PollYard" 123 2 3 "PollYard$Task" tx_T 11 ty_T false := ⟨cf_T, by decide, rfl, tn_1 231 rfl rfl⟩
theorem fl_T_15 : fl_ok "PollYard$Task" 15 2 4 "PollYard$Task" tx_T 11 ty_T false := ⟨cf_T, by decide, rfl, tn_1 232 rfl rfl⟩
theorem fl_Y_144 : fl_ok "PollYard" 144 2 4 "PollYard$Task" tx_T 11 ty_T false := ⟨cf_T, by decide, rfl, tn_1 233 rfl rfl⟩
theorem fl_T_18 : fl_ok "PollYard$Task" 18 2 5 "PollYard$Task" tx_T 11 ty_T false := ⟨cf_T, by decide, rfl, tn_1 234 rfl rfl⟩
theorem fl_Y_147 : fl_ok "PollYard" 147 2 5 "PollYard$Task" tx_T 11 ty_T false := ⟨cf_T, by decide, rfl, tn_1 235 rfl rfl⟩
theorem fl_T_21 : fl_ok "PollYard$Task" 21 2 6 "PollYard$Task" tx_T 11 ty_T false := ⟨cf_T, by decide, rfl, tn_1 236 rfl rfl⟩
theorem fl_Y_153 : fl_ok "PollYard" 153 2 6 "PollYard$Task" tx_T 11 ty_T false := ⟨cf_T, by decide, rfl, tn_1 237 rfl rfl⟩
theorem fl_T_24 : fl_ok "PollYard$Task" 24 2 7 "PollYard$Task" tx_T 11 ty_T false := ⟨cf_T, by decide, rfl, tn_1 238 rfl rfl⟩
theorem fl_Y_214 : fl_ok "PollYard" 214 2 7 "PollYard$Task" tx_T 11 ty_T false := ⟨cf_T, by decide, rfl, tn_1 239 rfl rfl⟩
theorem fl_T_28 : fl_ok "PollYard$Task" 28 2 8 "PollYard$Task" tx_T 11 ty_T true := ⟨cf_T, by decide, rfl, tn_2 0 rfl rfl⟩
theorem fl_Y_263 : fl_ok "PollYard" 263 2 8 "PollYard$Task" tx_T 11 ty_T true := ⟨cf_T, by decide, rfl, tn_2 1 rfl rfl⟩
theorem fl_T_32 : fl_ok "PollYard$Task" 32 2 9 "PollYard$Task" tx_T 11 ty_T true := ⟨cf_T, by decide, rfl, tn_2 2 rfl rfl⟩
theorem fl_T_35 : fl_ok "PollYard$Task" 35 2 10 "PollYard$Task" tx_T 11 ty_T true := ⟨cf_T, by decide, rfl, tn_2 3 rfl rfl⟩
theorem fl_Y_204 : fl_ok "PollYard" 204 2 10 "PollYard$Task" tx_T 11 ty_T true := ⟨cf_T, by decide, rfl, tn_2 4 rfl rfl⟩
theorem cl_L_10 : Cond.classLink "PollYardLaw" 10 "PollYardModel" ∈ TS := tn_3 45 rfl rfl
theorem fl_M_7 : fl_ok "PollYardModel" 7 7 0 "PollYardModel" tx_M 36 ty_M true := ⟨cf_M, by decide, rfl, tn_3 51 rfl rfl⟩
theorem fl_M_13 : fl_ok "PollYardModel" 13 7 1 "PollYardModel" tx_M 36 ty_M true := ⟨cf_M, by decide, rfl, tn_3 52 rfl rfl⟩
theorem fl_M_16 : fl_ok "PollYardModel" 16 7 2 "PollYardModel" tx_M 36 ty_M true := ⟨cf_M, by decide, rfl, tn_3 53 rfl rfl⟩
theorem fl_M_105 : fl_ok "PollYardModel" 105 7 3 "PollYardModel" tx_M 36 ty_M false := ⟨cf_M, by decide, rfl, tn_3 54 rfl rfl⟩
theorem fl_M_19 : fl_ok "PollYardModel" 19 7 4 "PollYardModel" tx_M 36 ty_M true := ⟨cf_M, by decide, rfl, tn_3 55 rfl rfl⟩
theorem fl_M_22 : fl_ok "PollYardModel" 22 7 5 "PollYardModel" tx_M 36 ty_M true := ⟨cf_M, by decide, rfl, tn_3 56 rfl rfl⟩
theorem fl_M_25 : fl_ok "PollYardModel" 25 7 6 "PollYardModel" tx_M 36 ty_M true := ⟨cf_M, by decide, rfl, tn_3 57 rfl rfl⟩
theorem fl_M_28 : fl_ok "PollYardModel" 28 7 7 "PollYardModel" tx_M 36 ty_M true := ⟨cf_M, by decide, rfl, tn_3 58 rfl rfl⟩
theorem fl_M_31 : fl_ok "PollYardModel" 31 7 8 "PollYardModel" tx_M 36 ty_M true := ⟨cf_M, by decide, rfl, tn_3 59 rfl rfl⟩
theorem fl_M_34 : fl_ok "PollYardModel" 34 7 9 "PollYardModel" tx_M 36 ty_M true := ⟨cf_M, by decide, rfl, tn_3 60 rfl rfl⟩
theorem fl_M_37 : fl_ok "PollYardModel" 37 7 10 "PollYardModel" tx_M 36 ty_M true := ⟨cf_M, by decide, rfl, tn_3 61 rfl rfl⟩
theorem fl_M_41 : fl_ok "PollYardModel" 41 7 11 "PollYardModel" tx_M 36 ty_M true := ⟨cf_M, by decide, rfl, tn_3 62 rfl rfl⟩
theorem fl_M_44 : fl_ok "PollYardModel" 44 7 12 "PollYardModel" tx_M 36 ty_M true := ⟨cf_M, by decide, rfl, tn_3 63 rfl rfl⟩
theorem fl_M_47 : fl_ok "PollYardModel" 47 7 13 "PollYardModel" tx_M 36 ty_M true := ⟨cf_M, by decide, rfl, tn_3 64 rfl rfl⟩
theorem fl_M_50 : fl_ok "PollYardModel" 50 7 14 "PollYardModel" tx_M 36 ty_M true := ⟨cf_M, by decide, rfl, tn_3 65 rfl rfl⟩
theorem fl_M_53 : fl_ok "PollYardModel" 53 7 15 "PollYardModel" tx_M 36 ty_M true := ⟨cf_M, by decide, rfl, tn_3 66 rfl rfl⟩
theorem fl_M_56 : fl_ok "PollYardModel" 56 7 16 "PollYardModel" tx_M 36 ty_M true := ⟨cf_M, by decide, rfl, tn_3 67 rfl rfl⟩
theorem fl_M_59 : fl_ok "PollYardModel" 59 7 17 "PollYardModel" tx_M 36 ty_M true := ⟨cf_M, by decide, rfl, tn_3 68 rfl rfl⟩
theorem fl_M_62 : fl_ok "PollYardModel" 62 7 18 "PollYardModel" tx_M 36 ty_M true := ⟨cf_M, by decide, rfl, tn_3 69 rfl rfl⟩
theorem fl_M_65 : fl_ok "PollYardModel" 65 7 19 "PollYardModel" tx_M 36 ty_M true := ⟨cf_M, by decide, rfl, tn_3 70 rfl rfl⟩
theorem fl_M_68 : fl_ok "PollYardModel" 68 7 20 "PollYardModel" tx_M 36 ty_M true := ⟨cf_M, by decide, rfl, tn_3 71 rfl rfl⟩
theorem fl_M_71 : fl_ok "PollYardModel" 71 7 21 "PollYardModel" tx_M 36 ty_M true := ⟨cf_M, by decide, rfl, tn_3 72 rfl rfl⟩
theorem fl_M_74 : fl_ok "PollYardModel" 74 7 22 "PollYardModel" tx_M 36 ty_M true := ⟨cf_M, by decide, rfl, tn_3 73 rfl rfl⟩
theorem fl_M_77 : fl_ok "PollYardModel" 77 7 23 "PollYardModel" tx_M 36 ty_M true := ⟨cf_M, by decide, rfl, tn_3 74 rfl rfl⟩
theorem fl_M_80 : fl_ok "PollYardModel" 80 7 24 "PollYardModel" tx_M 36 ty_M true := ⟨cf_M, by decide, rfl, tn_3 75 rfl rfl⟩
theorem fl_M_83 : fl_ok "PollYardModel" 83 7 25 "PollYardModel" tx_M 36 ty_M true := ⟨cf_M, by decide, rfl, tn_3 76 rfl rfl⟩
theorem fl_M_86 : fl_ok "PollYardModel" 86 7 26 "PollYardModel" tx_M 36 ty_M true := ⟨cf_M, by decide, rfl, tn_3 77 rfl rfl⟩
theorem fl_M_112 : fl_ok "PollYardModel" 112 7 27 "PollYardModel" tx_M 36 ty_M false := ⟨cf_M, by decide, rfl, tn_3 78 rfl rfl⟩
theorem fl_M_119 : fl_ok "PollYardModel" 119 7 28 "PollYardModel" tx_M 36 ty_M false := ⟨cf_M, by decide, rfl, tn_3 79 rfl rfl⟩
theorem fl_M_162 : fl_ok "PollYardModel" 162 7 29 "PollYardModel" tx_M 36 ty_M false := ⟨cf_M, by decide, rfl, tn_3 80 rfl rfl⟩
theorem fl_M_195 : fl_ok "PollYardModel" 195 7 30 "PollYardModel" tx_M 36 ty_M false := ⟨cf_M, by decide, rfl, tn_3 81 rfl rfl⟩
theorem fl_M_211 : fl_ok "PollYardModel" 211 7 31 "PollYardModel" tx_M 36 ty_M false := ⟨cf_M, by decide, rfl, tn_3 82 rfl rfl⟩
theorem fl_M_220 : fl_ok "PollYardModel" 220 7 32 "PollYardModel" tx_M 36 ty_M false := ⟨cf_M, by decide, rfl, tn_3 83 rfl rfl⟩
theorem fl_M_192 : fl_ok "PollYardModel" 192 7 33 "PollYardModel" tx_M 36 ty_M false := ⟨cf_M, by decide, rfl, tn_3 84 rfl rfl⟩
theorem fl_M_151 : fl_ok "PollYardModel" 151 7 34 "PollYardModel" tx_M 36 ty_M false := ⟨cf_M, by decide, rfl, tn_3 85 rfl rfl⟩
theorem fl_M_89 : fl_ok "PollYardModel" 89 7 35 "PollYardModel" tx_M 36 ty_M false := ⟨cf_M, by decide, rfl, tn_3 86 rfl rfl⟩
theorem ac_int : Cond.arrayClass .int ∈ TS := tn_1 43 rfl rfl
theorem ac_bool : Cond.arrayClass .boolean ∈ TS := tn_3 160 rfl rfl
abbrev yt_Y_init : Yt := (prog_1_method_1_code, 1, "PollYard", "<init>", none)
abbrev yn_Y_init : MethodName := ⟨"PollYard", "<init>", "()V"⟩
theorem mt_Y_init : mt_ok yt_Y_init yn_Y_init 0 := ⟨⟨tn_1 14 rfl rfl, tn_1 1 rfl rfl⟩, by decide +kernel, by decide, by decide +kernel, rfl, rfl⟩
theorem im_Y_init : Cond.instanceMethod yn_Y_init ∈ TS := tn_1 13 rfl rfl
abbrev yt_P_init : Yt := (prog_4_method_1_code, 1, "PollYard$Program", "<init>", none)
abbrev yn_P_init : MethodName := ⟨"PollYard$Program", "<init>", "()V"⟩
theorem mt_P_init : mt_ok yt_P_init yn_P_init 0 := ⟨⟨tn_1 22 rfl rfl, tn_1 2 rfl rfl⟩, by decide +kernel, by decide, by decide +kernel, rfl, rfl⟩
theorem im_P_init : Cond.instanceMethod yn_P_init ∈ TS := tn_1 21 rfl rfl
abbrev yt_K_init : Yt := (prog_7_method_1_code, 2, "PollYard$Worker", "<init>", none)
abbrev yn_K_init : MethodName := ⟨"PollYard$Worker", "<init>", "(I)V"⟩
theorem mt_K_init : mt_ok yt_K_init yn_K_init 1 := ⟨⟨tn_1 52 rfl rfl, tn_1 3 rfl rfl⟩, by decide +kernel, by decide, by decide +kernel, rfl, rfl⟩
theorem im_K_init : Cond.instanceMethod yn_K_init ∈ TS := tn_1 51 rfl rfl
abbrev yt_R_init : Yt := (prog_5_method_1_code, 2, "PollYard$Row", "<init>", none)
abbrev yn_R_init : MethodName := ⟨"PollYard$Row", "<init>", "(I)V"⟩
theorem mt_R_init : mt_ok yt_R_init yn_R_init 1 := ⟨⟨tn_1 58 rfl rfl, tn_1 4 rfl rfl⟩, by decide +kernel, by decide, by decide +kernel, rfl, rfl⟩
theorem im_R_init : Cond.instanceMethod yn_R_init ∈ TS := tn_1 57 rfl rfl
abbrev yt_G_init : Yt := (prog_2_method_1_code, 1, "PollYard$Gate", "<init>", none)
abbrev yn_G_init : MethodName := ⟨"PollYard$Gate", "<init>", "()V"⟩
theorem mt_G_init : mt_ok yt_G_init yn_G_init 0 := ⟨⟨tn_1 99 rfl rfl, tn_1 6 rfl rfl⟩, by decide +kernel, by decide, by decide +kernel, rfl, rfl⟩
theorem im_G_init : Cond.instanceMethod yn_G_init ∈ TS := tn_1 98 rfl rfl
abbrev yt_N_init : Yt := (prog_3_method_1_code, 1, "PollYard$Notice", "<init>", none)
abbrev yn_N_init : MethodName := ⟨"PollYard$Notice", "<init>", "()V"⟩
theorem mt_N_init : mt_ok yt_N_init yn_N_init 0 := ⟨⟨tn_1 117 rfl rfl, tn_1 7 rfl rfl⟩, by decide +kernel, by decide, by decide +kernel, rfl, rfl⟩
theorem im_N_init : Cond.instanceMethod yn_N_init ∈ TS := tn_1 116 rfl rfl
abbrev yt_Y_token : Yt := (prog_1_method_2_code, 3, "PollYard", "token", (some (.int)))
abbrev yn_Y_token : MethodName := ⟨"PollYard", "token", "(II)I"⟩
theorem mt_Y_token : mt_ok yt_Y_token yn_Y_token 2 := ⟨⟨tn_1 176 rfl rfl, tn_1 1 rfl rfl⟩, by decide +kernel, by decide, by decide +kernel, rfl, rfl⟩
theorem im_Y_token : Cond.instanceMethod yn_Y_token ∈ TS := tn_1 174 rfl rfl
theorem se_Y_token : Cond.selects "PollYard" yn_Y_token yn_Y_token ∈ TS := tn_1 175 rfl rfl
abbrev yt_P_append : Yt := (prog_4_method_4_code, 3, "PollYard$Program", "append", (some (.boolean)))
abbrev yn_P_append : MethodName := ⟨"PollYard$Program", "append", "(II)Z"⟩
theorem mt_P_append : mt_ok yt_P_append yn_P_append 2 := ⟨⟨tn_1 184 rfl rfl, tn_1 2 rfl rfl⟩, by decide +kernel, by decide, by decide +kernel, rfl, rfl⟩
theorem im_P_append : Cond.instanceMethod yn_P_append ∈ TS := tn_1 182 rfl rfl
theorem se_P_append : Cond.selects "PollYard$Program" yn_P_append yn_P_append ∈ TS := tn_1 183 rfl rfl
abbrev yt_Y_define : Yt := (prog_1_method_3_code, 1, "PollYard", "define", (some (.int)))
abbrev yn_Y_define : MethodName := ⟨"PollYard", "define", "()I"⟩
theorem mt_Y_define : mt_ok yt_Y_define yn_Y_define 0 := ⟨⟨tn_1 188 rfl rfl, tn_1 1 rfl rfl⟩, by decide +kernel, by decide, by decide +kernel, rfl, rfl⟩
theorem im_Y_define : Cond.instanceMethod yn_Y_define ∈ TS := tn_1 186 rfl rfl
theorem se_Y_define : Cond.selects "PollYard" yn_Y_define yn_Y_define ∈ TS := tn_1 187 rfl rfl
abbrev yt_P_isOneFuture : Yt := (prog_4_method_5_code, 3, "PollYard$Program", "isOneFuture", (some (.boolean)))
abbrev yn_P_isOneFuture : MethodName := ⟨"PollYard$Program", "isOneFuture", "()Z"⟩
theorem mt_P_isOneFuture : mt_ok yt_P_isOneFuture yn_P_isOneFuture 0 := ⟨⟨tn_1 192 rfl rfl, tn_1 2 rfl rfl⟩, by decide +kernel, by decide, by decide +kernel, rfl, rfl⟩
theorem im_P_isOneFuture : Cond.instanceMethod yn_P_isOneFuture ∈ TS := tn_1 190 rfl rfl
theorem se_P_isOneFuture : Cond.selects "PollYard$Program" yn_P_isOneFuture yn_P_isOneFuture ∈ TS := tn_1 191 rfl rfl
abbrev yt_P_findEnds : Yt := (prog_4_method_6_code, 4, "PollYard$Program", "findEnds", none)
abbrev yn_P_findEnds : MethodName := ⟨"PollYard$Program", "findEnds", "()V"⟩
theorem mt_P_findEnds : mt_ok yt_P_findEnds yn_P_findEnds 0 := ⟨⟨tn_1 198 rfl rfl, tn_1 2 rfl rfl⟩, by decide +kernel, by decide, by decide +kernel, rfl, rfl⟩
theorem im_P_findEnds : Cond.instanceMethod yn_P_findEnds ∈ TS := tn_1 196 rfl rfl
theorem se_P_findEnds : Cond.selects "PollYard$Program" yn_P_findEnds yn_P_findEnds ∈ TS := tn_1 197 rfl rfl
abbrev yt_P_endOf : Yt := (prog_4_method_3_code, 2, "PollYard$Program", "endOf", (some (.int)))
abbrev yn_P_endOf : MethodName := ⟨"PollYard$Program", "endOf", "(I)I"⟩
theorem mt_P_endOf : mt_ok yt_P_endOf yn_P_endOf 1 := ⟨⟨tn_1 202 rfl rfl, tn_1 2 rfl rfl⟩, by decide +kernel, by decide, by decide +kernel, rfl, rfl⟩
theorem im_P_endOf : Cond.instanceMethod yn_P_endOf ∈ TS := tn_1 200 rfl rfl
theorem se_P_endOf : Cond.selects "PollYard$Program" yn_P_endOf yn_P_endOf ∈ TS := tn_1 201 rfl rfl
abbrev yt_P_has : Yt := (prog_4_method_2_code, 2, "PollYard$Program", "has", (some (.boolean)))
abbrev yn_P_has : MethodName := ⟨"PollYard$Program", "has", "(I)Z"⟩
theorem mt_P_has : mt_ok yt_P_has yn_P_has 1 := ⟨⟨tn_1 206 rfl rfl, tn_1 2 rfl rfl⟩, by decide +kernel, by decide, by decide +kernel, rfl, rfl⟩
theorem im_P_has : Cond.instanceMethod yn_P_has ∈ TS := tn_1 204 rfl rfl
theorem se_P_has : Cond.selects "PollYard$Program" yn_P_has yn_P_has ∈ TS := tn_1 205 rfl rfl
abbrev yt_Y_clear : Yt := (prog_1_method_4_code, 2, "PollYard", "clear", (some (.int)))
abbrev yn_Y_clear : MethodName := ⟨"PollYard", "clear", "()I"⟩
theorem mt_Y_clear : mt_ok yt_Y_clear yn_Y_clear 0 := ⟨⟨tn_1 210 rfl rfl, tn_1 1 rfl rfl⟩, by decide +kernel, by decide, by decide +kernel, rfl, rfl⟩
theorem im_Y_clear : Cond.instanceMethod yn_Y_clear ∈ TS := tn_1 208 rfl rfl
theorem se_Y_clear : Cond.selects "PollYard" yn_Y_clear yn_Y_clear ∈ TS := tn_1 209 rfl rfl
abbrev yt_Y_spawn : Yt := (prog_1_method_5_code, 3, "PollYard", "spawn", (some (.int)))
abbrev yn_Y_spawn : MethodName := ⟨"PollYard", "spawn", "(I)I"⟩
theorem mt_Y_spawn : mt_ok yt_Y_spawn yn_Y_spawn 1 := ⟨⟨tn_1 214 rfl rfl, tn_1 1 rfl rfl⟩, by decide +kernel, by decide, by decide +kernel, rfl, rfl⟩
theorem im_Y_spawn : Cond.instanceMethod yn_Y_spawn ∈ TS := tn_1 212 rfl rfl
theorem se_Y_spawn : Cond.selects "PollYard" yn_Y_spawn yn_Y_spawn ∈ TS := tn_1 213 rfl rfl
abbrev yt_Y_makeTask : Yt := (prog_1_method_22_code, 3, "PollYard", "makeTask", (some (.int)))
abbrev yn_Y_makeTask : MethodName := ⟨"PollYard", "makeTask", "(I)I"⟩
theorem mt_Y_makeTask : mt_ok yt_Y_makeTask yn_Y_makeTask 1 := ⟨⟨tn_1 218 rfl rfl, tn_1 1 rfl rfl⟩, by decide +kernel, by decide, by decide +kernel, rfl, rfl⟩
theorem im_Y_makeTask : Cond.instanceMethod yn_Y_makeTask ∈ TS := tn_1 217 rfl rfl
theorem se_Y_makeTask : Cond.selects "PollYard" yn_Y_makeTask yn_Y_makeTask ∈ TS := tn_p 0 rfl rfl
abbrev yt_T_init : Yt := (prog_6_method_1_code, 5, "PollYard$Task", "<init>", none)
abbrev yn_T_init : MethodName := ⟨"PollYard$Task", "<init>", "(IILPollYard$Program;)V"⟩
theorem mt_T_init : mt_ok yt_T_init yn_T_init 3 := ⟨⟨tn_1 222 rfl rfl, tn_1 9 rfl rfl⟩, by decide +kernel, by decide, by decide +kernel, rfl, rfl⟩
theorem im_T_init : Cond.instanceMethod yn_T_init ∈ TS := tn_1 221 rfl rfl
abbrev yt_R_add : Yt := (prog_5_method_4_code, 2, "PollYard$Row", "add", none)
abbrev yn_R_add : MethodName := ⟨"PollYard$Row", "add", "(I)V"⟩
theorem mt_R_add : mt_ok yt_R_add yn_R_add 1 := ⟨⟨tn_2 31 rfl rfl, tn_1 4 rfl rfl⟩, by decide +kernel, by decide, by decide +kernel, rfl, rfl⟩
theorem im_R_add : Cond.instanceMethod yn_R_add ∈ TS := tn_2 29 rfl rfl
theorem se_R_add : Cond.selects "PollYard$Row" yn_R_add yn_R_add ∈ TS := tn_2 30 rfl rfl
abbrev yt_Y_injectWoken : Yt := (prog_1_method_26_code, 2, "PollYard", "injectWoken", none)
abbrev yn_Y_injectWoken : MethodName := ⟨"PollYard", "injectWoken", "()V"⟩
theorem mt_Y_injectWoken : mt_ok yt_Y_injectWoken yn_Y_injectWoken 0 := ⟨⟨tn_2 35 rfl rfl, tn_1 1 rfl rfl⟩, by decide +kernel, by decide, by decide +kernel, rfl, rfl⟩
theorem im_Y_injectWoken : Cond.instanceMethod yn_Y_injectWoken ∈ TS := tn_2 34 rfl rfl
theorem se_Y_injectWoken : Cond.selects "PollYard" yn_Y_injectWoken yn_Y_injectWoken ∈ TS := tn_p 1 rfl rfl
abbrev yt_R_at : Yt := (prog_5_method_3_code, 2, "PollYard$Row", "at", (some (.int)))
abbrev yn_R_at : MethodName := ⟨"PollYard$Row", "at", "(I)I"⟩
theorem mt_R_at : mt_ok yt_R_at yn_R_at 1 := ⟨⟨tn_2 39 rfl rfl, tn_1 4 rfl rfl⟩, by decide +kernel, by decide, by decide +kernel, rfl, rfl⟩
theorem im_R_at : Cond.instanceMethod yn_R_at ∈ TS := tn_2 37 rfl rfl
theorem se_R_at : Cond.selects "PollYard$Row" yn_R_at yn_R_at ∈ TS := tn_2 38 rfl rfl
abbrev yt_Y_turn : Yt := (prog_1_method_6_code, 2, "PollYard", "turn", (some (.int)))
abbrev yn_Y_turn : MethodName := ⟨"PollYard", "turn", "(I)I"⟩
theorem mt_Y_turn : mt_ok yt_Y_turn yn_Y_turn 1 := ⟨⟨tn_2 43 rfl rfl, tn_1 1 rfl rfl⟩, by decide +kernel, by decide, by decide +kernel, rfl, rfl⟩
theorem im_Y_turn : Cond.instanceMethod yn_Y_turn ∈ TS := tn_2 41 rfl rfl
theorem se_Y_turn : Cond.selects "PollYard" yn_Y_turn yn_Y_turn ∈ TS := tn_2 42 rfl rfl
abbrev yt_Y_takeTurn : Yt := (prog_1_method_30_code, 3, "PollYard", "takeTurn", (some (.int)))
abbrev yn_Y_takeTurn : MethodName := ⟨"PollYard", "takeTurn", "(LPollYard$Worker;)I"⟩
theorem mt_Y_takeTurn : mt_ok yt_Y_takeTurn yn_Y_takeTurn 1 := ⟨⟨tn_2 47 rfl rfl, tn_1 1 rfl rfl⟩, by decide +kernel, by decide, by decide +kernel, rfl, rfl⟩
theorem im_Y_takeTurn : Cond.instanceMethod yn_Y_takeTurn ∈ TS := tn_2 46 rfl rfl
theorem se_Y_takeTurn : Cond.selects "PollYard" yn_Y_takeTurn yn_Y_takeTurn ∈ TS := tn_p 2 rfl rfl
abbrev yt_Y_nextTask : Yt := (prog_1_method_31_code, 4, "PollYard", "nextTask", (some (.int)))
abbrev yn_Y_nextTask : MethodName := ⟨"PollYard", "nextTask", "(LPollYard$Worker;)I"⟩
theorem mt_Y_nextTask : mt_ok yt_Y_nextTask yn_Y_nextTask 1 := ⟨⟨tn_2 51 rfl rfl, tn_1 1 rfl rfl⟩, by decide +kernel, by decide, by decide +kernel, rfl, rfl⟩
theorem im_Y_nextTask : Cond.instanceMethod yn_Y_nextTask ∈ TS := tn_2 50 rfl rfl
theorem se_Y_nextTask : Cond.selects "PollYard" yn_Y_nextTask yn_Y_nextTask ∈ TS := tn_p 3 rfl rfl
abbrev yt_R_isEmpty : Yt := (prog_5_method_2_code, 1, "PollYard$Row", "isEmpty", (some (.boolean)))
abbrev yn_R_isEmpty : MethodName := ⟨"PollYard$Row", "isEmpty", "()Z"⟩
theorem mt_R_isEmpty : mt_ok yt_R_isEmpty yn_R_isEmpty 0 := ⟨⟨tn_2 55 rfl rfl, tn_1 4 rfl rfl⟩, by decide +kernel, by decide, by decide +kernel, rfl, rfl⟩
theorem im_R_isEmpty : Cond.instanceMethod yn_R_isEmpty ∈ TS := tn_2 53 rfl rfl
theorem se_R_isEmpty : Cond.selects "PollYard$Row" yn_R_isEmpty yn_R_isEmpty ∈ TS := tn_2 54 rfl rfl
abbrev yt_K_emptySlot : Yt := (prog_7_method_2_code, 2, "PollYard$Worker", "emptySlot", (some (.int)))
abbrev yn_K_emptySlot : MethodName := ⟨"PollYard$Worker", "emptySlot", "()I"⟩
theorem mt_K_emptySlot : mt_ok yt_K_emptySlot yn_K_emptySlot 0 := ⟨⟨tn_2 59 rfl rfl, tn_1 3 rfl rfl⟩, by decide +kernel, by decide, by decide +kernel, rfl, rfl⟩
theorem im_K_emptySlot : Cond.instanceMethod yn_K_emptySlot ∈ TS := tn_2 57 rfl rfl
theorem se_K_emptySlot : Cond.selects "PollYard$Worker" yn_K_emptySlot yn_K_emptySlot ∈ TS := tn_2 58 rfl rfl
abbrev yt_R_takeFirst : Yt := (prog_5_method_8_code, 2, "PollYard$Row", "takeFirst", (some (.int)))
abbrev yn_R_takeFirst : MethodName := ⟨"PollYard$Row", "takeFirst", "()I"⟩
theorem mt_R_takeFirst : mt_ok yt_R_takeFirst yn_R_takeFirst 0 := ⟨⟨tn_2 63 rfl rfl, tn_1 4 rfl rfl⟩, by decide +kernel, by decide, by decide +kernel, rfl, rfl⟩
theorem im_R_takeFirst : Cond.instanceMethod yn_R_takeFirst ∈ TS := tn_2 61 rfl rfl
theorem se_R_takeFirst : Cond.selects "PollYard$Row" yn_R_takeFirst yn_R_takeFirst ∈ TS := tn_2 62 rfl rfl
abbrev yt_R_removeAt : Yt := (prog_5_method_9_code, 3, "PollYard$Row", "removeAt", none)
abbrev yn_R_removeAt : MethodName := ⟨"PollYard$Row", "removeAt", "(I)V"⟩
theorem mt_R_removeAt : mt_ok yt_R_removeAt yn_R_removeAt 1 := ⟨⟨tn_2 68 rfl rfl, tn_1 4 rfl rfl⟩, by decide +kernel, by decide, by decide +kernel, rfl, rfl⟩
theorem im_R_removeAt : Cond.instanceMethod yn_R_removeAt ∈ TS := tn_2 67 rfl rfl
theorem se_R_removeAt : Cond.selects "PollYard$Row" yn_R_removeAt yn_R_removeAt ∈ TS := tn_p 4 rfl rfl
abbrev yt_Y_steal : Yt := (prog_1_method_32_code, 7, "PollYard", "steal", (some (.int)))
abbrev yn_Y_steal : MethodName := ⟨"PollYard", "steal", "(LPollYard$Worker;)I"⟩
theorem mt_Y_steal : mt_ok yt_Y_steal yn_Y_steal 1 := ⟨⟨tn_2 72 rfl rfl, tn_1 1 rfl rfl⟩, by decide +kernel, by decide, by decide +kernel, rfl, rfl⟩
theorem im_Y_steal : Cond.instanceMethod yn_Y_steal ∈ TS := tn_2 71 rfl rfl
theorem se_Y_steal : Cond.selects "PollYard" yn_Y_steal yn_Y_steal ∈ TS := tn_p 5 rfl rfl
abbrev yt_Y_taskAt : Yt := (prog_1_method_20_code, 2, "PollYard", "taskAt", (some (.object "PollYard$Task")))
abbrev yn_Y_taskAt : MethodName := ⟨"PollYard", "taskAt", "(I)LPollYard$Task;"⟩
theorem mt_Y_taskAt : mt_ok yt_Y_taskAt yn_Y_taskAt 1 := ⟨⟨tn_2 76 rfl rfl, tn_1 1 rfl rfl⟩, by decide +kernel, by decide, by decide +kernel, rfl, rfl⟩
theorem im_Y_taskAt : Cond.instanceMethod yn_Y_taskAt ∈ TS := tn_2 75 rfl rfl
theorem se_Y_taskAt : Cond.selects "PollYard" yn_Y_taskAt yn_Y_taskAt ∈ TS := tn_p 6 rfl rfl
abbrev yt_Y_poll : Yt := (prog_1_method_33_code, 5, "PollYard", "poll", (some (.int)))
abbrev yn_Y_poll : MethodName := ⟨"PollYard", "poll", "(LPollYard$Task;II)I"⟩
theorem mt_Y_poll : mt_ok yt_Y_poll yn_Y_poll 3 := ⟨⟨tn_2 80 rfl rfl, tn_1 1 rfl rfl⟩, by decide +kernel, by decide, by decide +kernel, rfl, rfl⟩
theorem im_Y_poll : Cond.instanceMethod yn_Y_poll ∈ TS := tn_2 79 rfl rfl
theorem se_Y_poll : Cond.selects "PollYard" yn_Y_poll yn_Y_poll ∈ TS := tn_p 7 rfl rfl
abbrev yt_T_makeReady : Yt := (prog_6_method_6_code, 3, "PollYard$Task", "makeReady", none)
abbrev yn_T_makeReady : MethodName := ⟨"PollYard$Task", "makeReady", "(II)V"⟩
theorem mt_T_makeReady : mt_ok yt_T_makeReady yn_T_makeReady 2 := ⟨⟨tn_2 85 rfl rfl, tn_1 9 rfl rfl⟩, by decide +kernel, by decide, by decide +kernel, rfl, rfl⟩
theorem im_T_makeReady : Cond.instanceMethod yn_T_makeReady ∈ TS := tn_2 83 rfl rfl
theorem se_T_makeReady : Cond.selects "PollYard$Task" yn_T_makeReady yn_T_makeReady ∈ TS := tn_2 84 rfl rfl
abbrev yt_Y_pollTurn : Yt := (prog_1_method_34_code, 5, "PollYard", "pollTurn", none)
abbrev yn_Y_pollTurn : MethodName := ⟨"PollYard", "pollTurn", "(LPollYard$Task;II)V"⟩
theorem mt_Y_pollTurn : mt_ok yt_Y_pollTurn yn_Y_pollTurn 3 := ⟨⟨tn_2 89 rfl rfl, tn_1 1 rfl rfl⟩, by decide +kernel, by decide, by decide +kernel, rfl, rfl⟩
theorem im_Y_pollTurn : Cond.instanceMethod yn_Y_pollTurn ∈ TS := tn_2 88 rfl rfl
theorem se_Y_pollTurn : Cond.selects "PollYard" yn_Y_pollTurn yn_Y_pollTurn ∈ TS := tn_p 8 rfl rfl
abbrev yt_Y_wakeTask : Yt := (prog_1_method_23_code, 2, "PollYard", "wakeTask", none)
abbrev yn_Y_wakeTask : MethodName := ⟨"PollYard", "wakeTask", "(LPollYard$Task;)V"⟩
theorem mt_Y_wakeTask : mt_ok yt_Y_wakeTask yn_Y_wakeTask 1 := ⟨⟨tn_2 94 rfl rfl, tn_1 1 rfl rfl⟩, by decide +kernel, by decide, by decide +kernel, rfl, rfl⟩
theorem im_Y_wakeTask : Cond.instanceMethod yn_Y_wakeTask ∈ TS := tn_2 93 rfl rfl
theorem se_Y_wakeTask : Cond.selects "PollYard" yn_Y_wakeTask yn_Y_wakeTask ∈ TS := tn_p 9 rfl rfl
abbrev yt_Y_pollSleep : Yt := (prog_1_method_35_code, 4, "PollYard", "pollSleep", none)
abbrev yn_Y_pollSleep : MethodName := ⟨"PollYard", "pollSleep", "(LPollYard$Task;II)V"⟩
theorem mt_Y_pollSleep : mt_ok yt_Y_pollSleep yn_Y_pollSleep 3 := ⟨⟨tn_2 98 rfl rfl, tn_1 1 rfl rfl⟩, by decide +kernel, by decide, by decide +kernel, rfl, rfl⟩
theorem im_Y_pollSleep : Cond.instanceMethod yn_Y_pollSleep ∈ TS := tn_2 97 rfl rfl
theorem se_Y_pollSleep : Cond.selects "PollYard" yn_Y_pollSleep yn_Y_pollSleep ∈ TS := tn_p 10 rfl rfl
abbrev yt_Y_pollTake : Yt := (prog_1_method_36_code, 8, "PollYard", "pollTake", none)
abbrev yn_Y_pollTake : MethodName := ⟨"PollYard", "pollTake", "(LPollYard$Task;II)V"⟩
theorem mt_Y_pollTake : mt_ok yt_Y_pollTake yn_Y_pollTake 3 := ⟨⟨tn_2 102 rfl rfl, tn_1 1 rfl rfl⟩, by decide +kernel, by decide, by decide +kernel, rfl, rfl⟩
theorem im_Y_pollTake : Cond.instanceMethod yn_Y_pollTake ∈ TS := tn_2 101 rfl rfl
theorem se_Y_pollTake : Cond.selects "PollYard" yn_Y_pollTake yn_Y_pollTake ∈ TS := tn_p 11 rfl rfl
abbrev yt_Y_permitsOf : Yt := (prog_1_method_46_code, 1, "PollYard", "permitsOf", (some (.int)))
abbrev yn_Y_permitsOf : MethodName := ⟨"PollYard", "permitsOf", "(I)I"⟩
theorem mt_Y_permitsOf : mt_ok yt_Y_permitsOf yn_Y_permitsOf 1 := ⟨⟨tn_2 105 rfl rfl, tn_1 1 rfl rfl⟩, by decide +kernel, by decide, by decide +kernel, rfl, rfl⟩
theorem sm_Y_permitsOf : Cond.static yn_Y_permitsOf ∈ TS := tn_2 104 rfl rfl
abbrev yt_Y_spendUnit : Yt := (prog_1_method_45_code, 2, "PollYard", "spendUnit", (some (.boolean)))
abbrev yn_Y_spendUnit : MethodName := ⟨"PollYard", "spendUnit", "(LPollYard$Task;)Z"⟩
theorem mt_Y_spendUnit : mt_ok yt_Y_spendUnit yn_Y_spendUnit 1 := ⟨⟨tn_2 109 rfl rfl, tn_1 1 rfl rfl⟩, by decide +kernel, by decide, by decide +kernel, rfl, rfl⟩
theorem im_Y_spendUnit : Cond.instanceMethod yn_Y_spendUnit ∈ TS := tn_2 108 rfl rfl
theorem se_Y_spendUnit : Cond.selects "PollYard" yn_Y_spendUnit yn_Y_spendUnit ∈ TS := tn_p 12 rfl rfl
abbrev yt_T_placeOf : Yt := (prog_6_method_3_code, 2, "PollYard$Task", "placeOf", (some (.int)))
abbrev yn_T_placeOf : MethodName := ⟨"PollYard$Task", "placeOf", "(I)I"⟩
theorem mt_T_placeOf : mt_ok yt_T_placeOf yn_T_placeOf 1 := ⟨⟨tn_2 113 rfl rfl, tn_1 9 rfl rfl⟩, by decide +kernel, by decide, by decide +kernel, rfl, rfl⟩
theorem im_T_placeOf : Cond.instanceMethod yn_T_placeOf ∈ TS := tn_2 111 rfl rfl
theorem se_T_placeOf : Cond.selects "PollYard$Task" yn_T_placeOf yn_T_placeOf ∈ TS := tn_2 112 rfl rfl
abbrev yt_Y_addPermits : Yt := (prog_1_method_47_code, 10, "PollYard", "addPermits", none)
abbrev yn_Y_addPermits : MethodName := ⟨"PollYard", "addPermits", "(LPollYard$Gate;I)V"⟩
theorem mt_Y_addPermits : mt_ok yt_Y_addPermits yn_Y_addPermits 2 := ⟨⟨tn_2 117 rfl rfl, tn_1 1 rfl rfl⟩, by decide +kernel, by decide, by decide +kernel, rfl, rfl⟩
theorem im_Y_addPermits : Cond.instanceMethod yn_Y_addPermits ∈ TS := tn_2 116 rfl rfl
theorem se_Y_addPermits : Cond.selects "PollYard" yn_Y_addPermits yn_Y_addPermits ∈ TS := tn_p 13 rfl rfl
abbrev yt_Y_ownerOf : Yt := (prog_1_method_21_code, 2, "PollYard", "ownerOf", (some (.object "PollYard$Task")))
abbrev yn_Y_ownerOf : MethodName := ⟨"PollYard", "ownerOf", "(I)LPollYard$Task;"⟩
theorem mt_Y_ownerOf : mt_ok yt_Y_ownerOf yn_Y_ownerOf 1 := ⟨⟨tn_2 121 rfl rfl, tn_1 1 rfl rfl⟩, by decide +kernel, by decide, by decide +kernel, rfl, rfl⟩
theorem im_Y_ownerOf : Cond.instanceMethod yn_Y_ownerOf ∈ TS := tn_2 120 rfl rfl
theorem se_Y_ownerOf : Cond.selects "PollYard" yn_Y_ownerOf yn_Y_ownerOf ∈ TS := tn_p 14 rfl rfl
abbrev yt_Y_pollWait : Yt := (prog_1_method_37_code, 7, "PollYard", "pollWait", none)
abbrev yn_Y_pollWait : MethodName := ⟨"PollYard", "pollWait", "(LPollYard$Task;II)V"⟩
theorem mt_Y_pollWait : mt_ok yt_Y_pollWait yn_Y_pollWait 3 := ⟨⟨tn_2 128 rfl rfl, tn_1 1 rfl rfl⟩, by decide +kernel, by decide, by decide +kernel, rfl, rfl⟩
theorem im_Y_pollWait : Cond.instanceMethod yn_Y_pollWait ∈ TS := tn_2 127 rfl rfl
theorem se_Y_pollWait : Cond.selects "PollYard" yn_Y_pollWait yn_Y_pollWait ∈ TS := tn_p 15 rfl rfl
abbrev yt_Y_giveNotice : Yt := (prog_1_method_48_code, 4, "PollYard", "giveNotice", (some (.boolean)))
abbrev yn_Y_giveNotice : MethodName := ⟨"PollYard", "giveNotice", "(LPollYard$Notice;)Z"⟩
theorem mt_Y_giveNotice : mt_ok yt_Y_giveNotice yn_Y_giveNotice 1 := ⟨⟨tn_2 132 rfl rfl, tn_1 1 rfl rfl⟩, by decide +kernel, by decide, by decide +kernel, rfl, rfl⟩
theorem im_Y_giveNotice : Cond.instanceMethod yn_Y_giveNotice ∈ TS := tn_2 131 rfl rfl
theorem se_Y_giveNotice : Cond.selects "PollYard" yn_Y_giveNotice yn_Y_giveNotice ∈ TS := tn_p 16 rfl rfl
abbrev yt_Y_pollReap : Yt := (prog_1_method_38_code, 6, "PollYard", "pollReap", none)
abbrev yn_Y_pollReap : MethodName := ⟨"PollYard", "pollReap", "(LPollYard$Task;II)V"⟩
theorem mt_Y_pollReap : mt_ok yt_Y_pollReap yn_Y_pollReap 3 := ⟨⟨tn_2 136 rfl rfl, tn_1 1 rfl rfl⟩, by decide +kernel, by decide, by decide +kernel, rfl, rfl⟩
theorem im_Y_pollReap : Cond.instanceMethod yn_Y_pollReap ∈ TS := tn_2 135 rfl rfl
theorem se_Y_pollReap : Cond.selects "PollYard" yn_Y_pollReap yn_Y_pollReap ∈ TS := tn_p 17 rfl rfl
abbrev yt_T_follow : Yt := (prog_6_method_8_code, 3, "PollYard$Task", "follow", none)
abbrev yn_T_follow : MethodName := ⟨"PollYard$Task", "follow", "(II)V"⟩
theorem mt_T_follow : mt_ok yt_T_follow yn_T_follow 2 := ⟨⟨tn_2 140 rfl rfl, tn_1 9 rfl rfl⟩, by decide +kernel, by decide, by decide +kernel, rfl, rfl⟩
theorem im_T_follow : Cond.instanceMethod yn_T_follow ∈ TS := tn_2 138 rfl rfl
theorem se_T_follow : Cond.selects "PollYard$Task" yn_T_follow yn_T_follow ∈ TS := tn_2 139 rfl rfl
abbrev yt_T_phaseOf : Yt := (prog_6_method_4_code, 2, "PollYard$Task", "phaseOf", (some (.int)))
abbrev yn_T_phaseOf : MethodName := ⟨"PollYard$Task", "phaseOf", "(I)I"⟩
theorem mt_T_phaseOf : mt_ok yt_T_phaseOf yn_T_phaseOf 1 := ⟨⟨tn_2 144 rfl rfl, tn_1 9 rfl rfl⟩, by decide +kernel, by decide, by decide +kernel, rfl, rfl⟩
theorem im_T_phaseOf : Cond.instanceMethod yn_T_phaseOf ∈ TS := tn_2 142 rfl rfl
theorem se_T_phaseOf : Cond.selects "PollYard$Task" yn_T_phaseOf yn_T_phaseOf ∈ TS := tn_2 143 rfl rfl
abbrev yt_T_resultOf : Yt := (prog_6_method_5_code, 2, "PollYard$Task", "resultOf", (some (.int)))
abbrev yn_T_resultOf : MethodName := ⟨"PollYard$Task", "resultOf", "(I)I"⟩
theorem mt_T_resultOf : mt_ok yt_T_resultOf yn_T_resultOf 1 := ⟨⟨tn_2 149 rfl rfl, tn_1 9 rfl rfl⟩, by decide +kernel, by decide, by decide +kernel, rfl, rfl⟩
theorem im_T_resultOf : Cond.instanceMethod yn_T_resultOf ∈ TS := tn_2 147 rfl rfl
theorem se_T_resultOf : Cond.selects "PollYard$Task" yn_T_resultOf yn_T_resultOf ∈ TS := tn_2 148 rfl rfl
abbrev yt_T_makeBroken : Yt := (prog_6_method_7_code, 3, "PollYard$Task", "makeBroken", none)
abbrev yn_T_makeBroken : MethodName := ⟨"PollYard$Task", "makeBroken", "(II)V"⟩
theorem mt_T_makeBroken : mt_ok yt_T_makeBroken yn_T_makeBroken 2 := ⟨⟨tn_2 154 rfl rfl, tn_1 9 rfl rfl⟩, by decide +kernel, by decide, by decide +kernel, rfl, rfl⟩
theorem im_T_makeBroken : Cond.instanceMethod yn_T_makeBroken ∈ TS := tn_2 152 rfl rfl
theorem se_T_makeBroken : Cond.selects "PollYard$Task" yn_T_makeBroken yn_T_makeBroken ∈ TS := tn_2 153 rfl rfl
abbrev yt_Y_pollThen : Yt := (prog_1_method_39_code, 6, "PollYard", "pollThen", none)
abbrev yn_Y_pollThen : MethodName := ⟨"PollYard", "pollThen", "(LPollYard$Task;II)V"⟩
theorem mt_Y_pollThen : mt_ok yt_Y_pollThen yn_Y_pollThen 3 := ⟨⟨tn_2 158 rfl rfl, tn_1 1 rfl rfl⟩, by decide +kernel, by decide, by decide +kernel, rfl, rfl⟩
theorem im_Y_pollThen : Cond.instanceMethod yn_Y_pollThen ∈ TS := tn_2 157 rfl rfl
theorem se_Y_pollThen : Cond.selects "PollYard" yn_Y_pollThen yn_Y_pollThen ∈ TS := tn_p 18 rfl rfl
abbrev yt_Y_pollBoth : Yt := (prog_1_method_40_code, 8, "PollYard", "pollBoth", none)
abbrev yn_Y_pollBoth : MethodName := ⟨"PollYard", "pollBoth", "(LPollYard$Task;II)V"⟩
theorem mt_Y_pollBoth : mt_ok yt_Y_pollBoth yn_Y_pollBoth 3 := ⟨⟨tn_2 163 rfl rfl, tn_1 1 rfl rfl⟩, by decide +kernel, by decide, by decide +kernel, rfl, rfl⟩
theorem im_Y_pollBoth : Cond.instanceMethod yn_Y_pollBoth ∈ TS := tn_2 162 rfl rfl
theorem se_Y_pollBoth : Cond.selects "PollYard" yn_Y_pollBoth yn_Y_pollBoth ∈ TS := tn_p 19 rfl rfl
abbrev yt_Y_drop : Yt := (prog_1_method_49_code, 7, "PollYard", "drop", none)
abbrev yn_Y_drop : MethodName := ⟨"PollYard", "drop", "(LPollYard$Task;I)V"⟩
theorem mt_Y_drop : mt_ok yt_Y_drop yn_Y_drop 2 := ⟨⟨tn_2 167 rfl rfl, tn_1 1 rfl rfl⟩, by decide +kernel, by decide, by decide +kernel, rfl, rfl⟩
theorem im_Y_drop : Cond.instanceMethod yn_Y_drop ∈ TS := tn_2 166 rfl rfl
theorem se_Y_drop : Cond.selects "PollYard" yn_Y_drop yn_Y_drop ∈ TS := tn_p 20 rfl rfl
abbrev yt_R_remove : Yt := (prog_5_method_7_code, 2, "PollYard$Row", "remove", none)
abbrev yn_R_remove : MethodName := ⟨"PollYard$Row", "remove", "(I)V"⟩
theorem mt_R_remove : mt_ok yt_R_remove yn_R_remove 1 := ⟨⟨tn_2 172 rfl rfl, tn_1 4 rfl rfl⟩, by decide +kernel, by decide, by decide +kernel, rfl, rfl⟩
theorem im_R_remove : Cond.instanceMethod yn_R_remove ∈ TS := tn_2 170 rfl rfl
theorem se_R_remove : Cond.selects "PollYard$Row" yn_R_remove yn_R_remove ∈ TS := tn_2 171 rfl rfl
abbrev yt_R_indexOf : Yt := (prog_5_method_5_code, 3, "PollYard$Row", "indexOf", (some (.int)))
abbrev yn_R_indexOf : MethodName := ⟨"PollYard$Row", "indexOf", "(I)I"⟩
theorem mt_R_indexOf : mt_ok yt_R_indexOf yn_R_indexOf 1 := ⟨⟨tn_2 176 rfl rfl, tn_1 4 rfl rfl⟩, by decide +kernel, by decide, by decide +kernel, rfl, rfl⟩
theorem im_R_indexOf : Cond.instanceMethod yn_R_indexOf ∈ TS := tn_2 174 rfl rfl
theorem se_R_indexOf : Cond.selects "PollYard$Row" yn_R_indexOf yn_R_indexOf ∈ TS := tn_2 175 rfl rfl
abbrev yt_Y_pollFirst : Yt := (prog_1_method_41_code, 6, "PollYard", "pollFirst", none)
abbrev yn_Y_pollFirst : MethodName := ⟨"PollYard", "pollFirst", "(LPollYard$Task;II)V"⟩
theorem mt_Y_pollFirst : mt_ok yt_Y_pollFirst yn_Y_pollFirst 3 := ⟨⟨tn_2 180 rfl rfl, tn_1 1 rfl rfl⟩, by decide +kernel, by decide, by decide +kernel, rfl, rfl⟩
theorem im_Y_pollFirst : Cond.instanceMethod yn_Y_pollFirst ∈ TS := tn_2 179 rfl rfl
theorem se_Y_pollFirst : Cond.selects "PollYard" yn_Y_pollFirst yn_Y_pollFirst ∈ TS := tn_p 21 rfl rfl
abbrev yt_Y_pollWithin : Yt := (prog_1_method_42_code, 5, "PollYard", "pollWithin", none)
abbrev yn_Y_pollWithin : MethodName := ⟨"PollYard", "pollWithin", "(LPollYard$Task;II)V"⟩
theorem mt_Y_pollWithin : mt_ok yt_Y_pollWithin yn_Y_pollWithin 3 := ⟨⟨tn_2 184 rfl rfl, tn_1 1 rfl rfl⟩, by decide +kernel, by decide, by decide +kernel, rfl, rfl⟩
theorem im_Y_pollWithin : Cond.instanceMethod yn_Y_pollWithin ∈ TS := tn_2 183 rfl rfl
theorem se_Y_pollWithin : Cond.selects "PollYard" yn_Y_pollWithin yn_Y_pollWithin ∈ TS := tn_p 22 rfl rfl
abbrev yt_Y_pollAdd : Yt := (prog_1_method_43_code, 5, "PollYard", "pollAdd", none)
abbrev yn_Y_pollAdd : MethodName := ⟨"PollYard", "pollAdd", "(LPollYard$Task;II)V"⟩
theorem mt_Y_pollAdd : mt_ok yt_Y_pollAdd yn_Y_pollAdd 3 := ⟨⟨tn_2 188 rfl rfl, tn_1 1 rfl rfl⟩, by decide +kernel, by decide, by decide +kernel, rfl, rfl⟩
theorem im_Y_pollAdd : Cond.instanceMethod yn_Y_pollAdd ∈ TS := tn_2 187 rfl rfl
theorem se_Y_pollAdd : Cond.selects "PollYard" yn_Y_pollAdd yn_Y_pollAdd ∈ TS := tn_p 23 rfl rfl
abbrev yt_Y_pollCatch : Yt := (prog_1_method_44_code, 5, "PollYard", "pollCatch", none)
abbrev yn_Y_pollCatch : MethodName := ⟨"PollYard", "pollCatch", "(LPollYard$Task;II)V"⟩
theorem mt_Y_pollCatch : mt_ok yt_Y_pollCatch yn_Y_pollCatch 3 := ⟨⟨tn_2 192 rfl rfl, tn_1 1 rfl rfl⟩, by decide +kernel, by decide, by decide +kernel, rfl, rfl⟩
theorem im_Y_pollCatch : Cond.instanceMethod yn_Y_pollCatch ∈ TS := tn_2 191 rfl rfl
theorem se_Y_pollCatch : Cond.selects "PollYard" yn_Y_pollCatch yn_Y_pollCatch ∈ TS := tn_p 24 rfl rfl
abbrev yt_T_end : Yt := (prog_6_method_9_code, 1, "PollYard$Task", "end", none)
abbrev yn_T_end : MethodName := ⟨"PollYard$Task", "end", "()V"⟩
theorem mt_T_end : mt_ok yt_T_end yn_T_end 0 := ⟨⟨tn_2 196 rfl rfl, tn_1 9 rfl rfl⟩, by decide +kernel, by decide, by decide +kernel, rfl, rfl⟩
theorem im_T_end : Cond.instanceMethod yn_T_end ∈ TS := tn_2 194 rfl rfl
theorem se_T_end : Cond.selects "PollYard$Task" yn_T_end yn_T_end ∈ TS := tn_2 195 rfl rfl
abbrev yt_Y_wakeReapers : Yt := (prog_1_method_24_code, 4, "PollYard", "wakeReapers", none)
abbrev yn_Y_wakeReapers : MethodName := ⟨"PollYard", "wakeReapers", "(I)V"⟩
theorem mt_Y_wakeReapers : mt_ok yt_Y_wakeReapers yn_Y_wakeReapers 1 := ⟨⟨tn_2 200 rfl rfl, tn_1 1 rfl rfl⟩, by decide +kernel, by decide, by decide +kernel, rfl, rfl⟩
theorem im_Y_wakeReapers : Cond.instanceMethod yn_Y_wakeReapers ∈ TS := tn_2 199 rfl rfl
theorem se_Y_wakeReapers : Cond.selects "PollYard" yn_Y_wakeReapers yn_Y_wakeReapers ∈ TS := tn_p 25 rfl rfl
abbrev yt_T_reaps : Yt := (prog_6_method_10_code, 4, "PollYard$Task", "reaps", (some (.boolean)))
abbrev yn_T_reaps : MethodName := ⟨"PollYard$Task", "reaps", "(I)Z"⟩
theorem mt_T_reaps : mt_ok yt_T_reaps yn_T_reaps 1 := ⟨⟨tn_2 204 rfl rfl, tn_1 9 rfl rfl⟩, by decide +kernel, by decide, by decide +kernel, rfl, rfl⟩
theorem im_T_reaps : Cond.instanceMethod yn_T_reaps ∈ TS := tn_2 202 rfl rfl
theorem se_T_reaps : Cond.selects "PollYard$Task" yn_T_reaps yn_T_reaps ∈ TS := tn_2 203 rfl rfl
abbrev yt_Y_slotWoken : Yt := (prog_1_method_27_code, 3, "PollYard", "slotWoken", none)
abbrev yn_Y_slotWoken : MethodName := ⟨"PollYard", "slotWoken", "(LPollYard$Worker;)V"⟩
theorem mt_Y_slotWoken : mt_ok yt_Y_slotWoken yn_Y_slotWoken 1 := ⟨⟨tn_2 208 rfl rfl, tn_1 1 rfl rfl⟩, by decide +kernel, by decide, by decide +kernel, rfl, rfl⟩
theorem im_Y_slotWoken : Cond.instanceMethod yn_Y_slotWoken ∈ TS := tn_2 207 rfl rfl
theorem se_Y_slotWoken : Cond.selects "PollYard" yn_Y_slotWoken yn_Y_slotWoken ∈ TS := tn_p 26 rfl rfl
abbrev yt_Y_pushToRing : Yt := (prog_1_method_28_code, 3, "PollYard", "pushToRing", none)
abbrev yn_Y_pushToRing : MethodName := ⟨"PollYard", "pushToRing", "(LPollYard$Worker;I)V"⟩
theorem mt_Y_pushToRing : mt_ok yt_Y_pushToRing yn_Y_pushToRing 2 := ⟨⟨tn_2 212 rfl rfl, tn_1 1 rfl rfl⟩, by decide +kernel, by decide, by decide +kernel, rfl, rfl⟩
theorem im_Y_pushToRing : Cond.instanceMethod yn_Y_pushToRing ∈ TS := tn_2 211 rfl rfl
theorem se_Y_pushToRing : Cond.selects "PollYard" yn_Y_pushToRing yn_Y_pushToRing ∈ TS := tn_p 27 rfl rfl
abbrev yt_Y_run : Yt := (prog_1_method_7_code, 4, "PollYard", "run", (some (.int)))
abbrev yn_Y_run : MethodName := ⟨"PollYard", "run", "(I)I"⟩
theorem mt_Y_run : mt_ok yt_Y_run yn_Y_run 1 := ⟨⟨tn_2 216 rfl rfl, tn_1 1 rfl rfl⟩, by decide +kernel, by decide, by decide +kernel, rfl, rfl⟩
theorem im_Y_run : Cond.instanceMethod yn_Y_run ∈ TS := tn_2 214 rfl rfl
theorem se_Y_run : Cond.selects "PollYard" yn_Y_run yn_Y_run ∈ TS := tn_2 215 rfl rfl
abbrev yt_Y_tick : Yt := (prog_1_method_8_code, 3, "PollYard", "tick", (some (.int)))
abbrev yn_Y_tick : MethodName := ⟨"PollYard", "tick", "(I)I"⟩
theorem mt_Y_tick : mt_ok yt_Y_tick yn_Y_tick 1 := ⟨⟨tn_2 220 rfl rfl, tn_1 1 rfl rfl⟩, by decide +kernel, by decide, by decide +kernel, rfl, rfl⟩
theorem im_Y_tick : Cond.instanceMethod yn_Y_tick ∈ TS := tn_2 218 rfl rfl
theorem se_Y_tick : Cond.selects "PollYard" yn_Y_tick yn_Y_tick ∈ TS := tn_2 219 rfl rfl
abbrev yt_Y_wakeTheDue : Yt := (prog_1_method_25_code, 3, "PollYard", "wakeTheDue", none)
abbrev yn_Y_wakeTheDue : MethodName := ⟨"PollYard", "wakeTheDue", "()V"⟩
theorem mt_Y_wakeTheDue : mt_ok yt_Y_wakeTheDue yn_Y_wakeTheDue 0 := ⟨⟨tn_2 224 rfl rfl, tn_1 1 rfl rfl⟩, by decide +kernel, by decide, by decide +kernel, rfl, rfl⟩
theorem im_Y_wakeTheDue : Cond.instanceMethod yn_Y_wakeTheDue ∈ TS := tn_2 223 rfl rfl
theorem se_Y_wakeTheDue : Cond.selects "PollYard" yn_Y_wakeTheDue yn_Y_wakeTheDue ∈ TS := tn_p 28 rfl rfl
abbrev yt_T_isDueAt : Yt := (prog_6_method_11_code, 5, "PollYard$Task", "isDueAt", (some (.boolean)))
abbrev yn_T_isDueAt : MethodName := ⟨"PollYard$Task", "isDueAt", "(I)Z"⟩
theorem mt_T_isDueAt : mt_ok yt_T_isDueAt yn_T_isDueAt 1 := ⟨⟨tn_2 228 rfl rfl, tn_1 9 rfl rfl⟩, by decide +kernel, by decide, by decide +kernel, rfl, rfl⟩
theorem im_T_isDueAt : Cond.instanceMethod yn_T_isDueAt ∈ TS := tn_2 226 rfl rfl
theorem se_T_isDueAt : Cond.selects "PollYard$Task" yn_T_isDueAt yn_T_isDueAt ∈ TS := tn_2 227 rfl rfl
abbrev yt_Y_abort : Yt := (prog_1_method_9_code, 3, "PollYard", "abort", (some (.boolean)))
abbrev yn_Y_abort : MethodName := ⟨"PollYard", "abort", "(I)Z"⟩
theorem mt_Y_abort : mt_ok yt_Y_abort yn_Y_abort 1 := ⟨⟨tn_2 232 rfl rfl, tn_1 1 rfl rfl⟩, by decide +kernel, by decide, by decide +kernel, rfl, rfl⟩
theorem im_Y_abort : Cond.instanceMethod yn_Y_abort ∈ TS := tn_2 230 rfl rfl
theorem se_Y_abort : Cond.selects "PollYard" yn_Y_abort yn_Y_abort ∈ TS := tn_2 231 rfl rfl
abbrev yt_T_hasEnded : Yt := (prog_6_method_2_code, 1, "PollYard$Task", "hasEnded", (some (.boolean)))
abbrev yn_T_hasEnded : MethodName := ⟨"PollYard$Task", "hasEnded", "()Z"⟩
theorem mt_T_hasEnded : mt_ok yt_T_hasEnded yn_T_hasEnded 0 := ⟨⟨tn_2 236 rfl rfl, tn_1 9 rfl rfl⟩, by decide +kernel, by decide, by decide +kernel, rfl, rfl⟩
theorem im_T_hasEnded : Cond.instanceMethod yn_T_hasEnded ∈ TS := tn_2 234 rfl rfl
theorem se_T_hasEnded : Cond.selects "PollYard$Task" yn_T_hasEnded yn_T_hasEnded ∈ TS := tn_2 235 rfl rfl
abbrev yt_Y_unqueue : Yt := (prog_1_method_29_code, 6, "PollYard", "unqueue", none)
abbrev yn_Y_unqueue : MethodName := ⟨"PollYard", "unqueue", "(I)V"⟩
theorem mt_Y_unqueue : mt_ok yt_Y_unqueue yn_Y_unqueue 1 := ⟨⟨tn_3 0 rfl rfl, tn_1 1 rfl rfl⟩, by decide +kernel, by decide, by decide +kernel, rfl, rfl⟩
theorem im_Y_unqueue : Cond.instanceMethod yn_Y_unqueue ∈ TS := tn_2 239 rfl rfl
theorem se_Y_unqueue : Cond.selects "PollYard" yn_Y_unqueue yn_Y_unqueue ∈ TS := tn_p 29 rfl rfl
abbrev yt_Y_put : Yt := (prog_1_method_10_code, 3, "PollYard", "put", (some (.int)))
abbrev yn_Y_put : MethodName := ⟨"PollYard", "put", "(II)I"⟩
theorem mt_Y_put : mt_ok yt_Y_put yn_Y_put 2 := ⟨⟨tn_3 4 rfl rfl, tn_1 1 rfl rfl⟩, by decide +kernel, by decide, by decide +kernel, rfl, rfl⟩
theorem im_Y_put : Cond.instanceMethod yn_Y_put ∈ TS := tn_3 2 rfl rfl
theorem se_Y_put : Cond.selects "PollYard" yn_Y_put yn_Y_put ∈ TS := tn_3 3 rfl rfl
abbrev yt_Y_wake : Yt := (prog_1_method_11_code, 3, "PollYard", "wake", (some (.int)))
abbrev yn_Y_wake : MethodName := ⟨"PollYard", "wake", "(I)I"⟩
theorem mt_Y_wake : mt_ok yt_Y_wake yn_Y_wake 1 := ⟨⟨tn_3 8 rfl rfl, tn_1 1 rfl rfl⟩, by decide +kernel, by decide, by decide +kernel, rfl, rfl⟩
theorem im_Y_wake : Cond.instanceMethod yn_Y_wake ∈ TS := tn_3 6 rfl rfl
theorem se_Y_wake : Cond.selects "PollYard" yn_Y_wake yn_Y_wake ∈ TS := tn_3 7 rfl rfl
abbrev yt_Y_task : Yt := (prog_1_method_12_code, 4, "PollYard", "task", (some (.int)))
abbrev yn_Y_task : MethodName := ⟨"PollYard", "task", "(II)I"⟩
theorem mt_Y_task : mt_ok yt_Y_task yn_Y_task 2 := ⟨⟨tn_3 12 rfl rfl, tn_1 1 rfl rfl⟩, by decide +kernel, by decide, by decide +kernel, rfl, rfl⟩
theorem im_Y_task : Cond.instanceMethod yn_Y_task ∈ TS := tn_3 10 rfl rfl
theorem se_Y_task : Cond.selects "PollYard" yn_Y_task yn_Y_task ∈ TS := tn_3 11 rfl rfl
abbrev yt_Y_whereQueued : Yt := (prog_1_method_17_code, 6, "PollYard", "whereQueued", (some (.int)))
abbrev yn_Y_whereQueued : MethodName := ⟨"PollYard", "whereQueued", "(I)I"⟩
theorem mt_Y_whereQueued : mt_ok yt_Y_whereQueued yn_Y_whereQueued 1 := ⟨⟨tn_3 16 rfl rfl, tn_1 1 rfl rfl⟩, by decide +kernel, by decide, by decide +kernel, rfl, rfl⟩
theorem im_Y_whereQueued : Cond.instanceMethod yn_Y_whereQueued ∈ TS := tn_3 15 rfl rfl
theorem se_Y_whereQueued : Cond.selects "PollYard" yn_Y_whereQueued yn_Y_whereQueued ∈ TS := tn_p 30 rfl rfl
abbrev yt_R_holds : Yt := (prog_5_method_6_code, 2, "PollYard$Row", "holds", (some (.boolean)))
abbrev yn_R_holds : MethodName := ⟨"PollYard$Row", "holds", "(I)Z"⟩
theorem mt_R_holds : mt_ok yt_R_holds yn_R_holds 1 := ⟨⟨tn_3 20 rfl rfl, tn_1 4 rfl rfl⟩, by decide +kernel, by decide, by decide +kernel, rfl, rfl⟩
theorem im_R_holds : Cond.instanceMethod yn_R_holds ∈ TS := tn_3 18 rfl rfl
theorem se_R_holds : Cond.selects "PollYard$Row" yn_R_holds yn_R_holds ∈ TS := tn_3 19 rfl rfl
abbrev yt_Y_worker : Yt := (prog_1_method_13_code, 4, "PollYard", "worker", (some (.int)))
abbrev yn_Y_worker : MethodName := ⟨"PollYard", "worker", "(II)I"⟩
theorem mt_Y_worker : mt_ok yt_Y_worker yn_Y_worker 2 := ⟨⟨tn_3 24 rfl rfl, tn_1 1 rfl rfl⟩, by decide +kernel, by decide, by decide +kernel, rfl, rfl⟩
theorem im_Y_worker : Cond.instanceMethod yn_Y_worker ∈ TS := tn_3 22 rfl rfl
theorem se_Y_worker : Cond.selects "PollYard" yn_Y_worker yn_Y_worker ∈ TS := tn_3 23 rfl rfl
abbrev yt_Y_injected : Yt := (prog_1_method_14_code, 2, "PollYard", "injected", (some (.int)))
abbrev yn_Y_injected : MethodName := ⟨"PollYard", "injected", "(I)I"⟩
theorem mt_Y_injected : mt_ok yt_Y_injected yn_Y_injected 1 := ⟨⟨tn_3 28 rfl rfl, tn_1 1 rfl rfl⟩, by decide +kernel, by decide, by decide +kernel, rfl, rfl⟩
theorem im_Y_injected : Cond.instanceMethod yn_Y_injected ∈ TS := tn_3 26 rfl rfl
theorem se_Y_injected : Cond.selects "PollYard" yn_Y_injected yn_Y_injected ∈ TS := tn_3 27 rfl rfl
abbrev yt_Y_gate : Yt := (prog_1_method_15_code, 3, "PollYard", "gate", (some (.int)))
abbrev yn_Y_gate : MethodName := ⟨"PollYard", "gate", "(II)I"⟩
theorem mt_Y_gate : mt_ok yt_Y_gate yn_Y_gate 2 := ⟨⟨tn_3 32 rfl rfl, tn_1 1 rfl rfl⟩, by decide +kernel, by decide, by decide +kernel, rfl, rfl⟩
theorem im_Y_gate : Cond.instanceMethod yn_Y_gate ∈ TS := tn_3 30 rfl rfl
theorem se_Y_gate : Cond.selects "PollYard" yn_Y_gate yn_Y_gate ∈ TS := tn_3 31 rfl rfl
abbrev yt_Y_gotByFirst : Yt := (prog_1_method_18_code, 4, "PollYard", "gotByFirst", (some (.int)))
abbrev yn_Y_gotByFirst : MethodName := ⟨"PollYard", "gotByFirst", "(LPollYard$Gate;)I"⟩
theorem mt_Y_gotByFirst : mt_ok yt_Y_gotByFirst yn_Y_gotByFirst 1 := ⟨⟨tn_3 36 rfl rfl, tn_1 1 rfl rfl⟩, by decide +kernel, by decide, by decide +kernel, rfl, rfl⟩
theorem im_Y_gotByFirst : Cond.instanceMethod yn_Y_gotByFirst ∈ TS := tn_3 35 rfl rfl
theorem se_Y_gotByFirst : Cond.selects "PollYard" yn_Y_gotByFirst yn_Y_gotByFirst ∈ TS := tn_p 31 rfl rfl
abbrev yt_Y_count : Yt := (prog_1_method_16_code, 2, "PollYard", "count", (some (.int)))
abbrev yn_Y_count : MethodName := ⟨"PollYard", "count", "(I)I"⟩
theorem mt_Y_count : mt_ok yt_Y_count yn_Y_count 1 := ⟨⟨tn_3 40 rfl rfl, tn_1 1 rfl rfl⟩, by decide +kernel, by decide, by decide +kernel, rfl, rfl⟩
theorem im_Y_count : Cond.instanceMethod yn_Y_count ∈ TS := tn_3 38 rfl rfl
theorem se_Y_count : Cond.selects "PollYard" yn_Y_count yn_Y_count ∈ TS := tn_3 39 rfl rfl
abbrev yt_Y_tasksNotEnded : Yt := (prog_1_method_19_code, 4, "PollYard", "tasksNotEnded", (some (.int)))
abbrev yn_Y_tasksNotEnded : MethodName := ⟨"PollYard", "tasksNotEnded", "()I"⟩
theorem mt_Y_tasksNotEnded : mt_ok yt_Y_tasksNotEnded yn_Y_tasksNotEnded 0 := ⟨⟨tn_3 44 rfl rfl, tn_1 1 rfl rfl⟩, by decide +kernel, by decide, by decide +kernel, rfl, rfl⟩
theorem im_Y_tasksNotEnded : Cond.instanceMethod yn_Y_tasksNotEnded ∈ TS := tn_3 43 rfl rfl
theorem se_Y_tasksNotEnded : Cond.selects "PollYard" yn_Y_tasksNotEnded yn_Y_tasksNotEnded ∈ TS := tn_p 32 rfl rfl
abbrev yt_M_init : Yt := (prog_9_method_1_code, 1, "PollYardModel", "<init>", none)
abbrev yn_M_init : MethodName := ⟨"PollYardModel", "<init>", "()V"⟩
theorem mt_M_init : mt_ok yt_M_init yn_M_init 0 := ⟨⟨tn_3 49 rfl rfl, tn_1 8 rfl rfl⟩, by decide +kernel, by decide, by decide +kernel, rfl, rfl⟩
theorem im_M_init : Cond.instanceMethod yn_M_init ∈ TS := tn_3 48 rfl rfl
abbrev yt_M_token : Yt := (prog_9_method_5_code, 3, "PollYardModel", "token", (some (.int)))
abbrev yn_M_token : MethodName := ⟨"PollYardModel", "token", "(II)I"⟩
theorem mt_M_token : mt_ok yt_M_token yn_M_token 2 := ⟨⟨tn_3 164 rfl rfl, tn_1 8 rfl rfl⟩, by decide +kernel, by decide, by decide +kernel, rfl, rfl⟩
theorem im_M_token : Cond.instanceMethod yn_M_token ∈ TS := tn_3 162 rfl rfl
theorem se_M_token : Cond.selects "PollYardModel" yn_M_token yn_M_token ∈ TS := tn_3 163 rfl rfl
abbrev yt_M_fits : Yt := (prog_9_method_4_code, 2, "PollYardModel", "fits", (some (.boolean)))
abbrev yn_M_fits : MethodName := ⟨"PollYardModel", "fits", "(II)Z"⟩
theorem mt_M_fits : mt_ok yt_M_fits yn_M_fits 2 := ⟨⟨tn_3 167 rfl rfl, tn_1 8 rfl rfl⟩, by decide +kernel, by decide, by decide +kernel, rfl, rfl⟩
theorem sm_M_fits : Cond.static yn_M_fits ∈ TS := tn_3 166 rfl rfl
abbrev yt_M_is : Yt := (prog_9_method_2_code, 3, "PollYardModel", "is", (some (.boolean)))
abbrev yn_M_is : MethodName := ⟨"PollYardModel", "is", "(III)Z"⟩
theorem mt_M_is : mt_ok yt_M_is yn_M_is 3 := ⟨⟨tn_3 170 rfl rfl, tn_1 8 rfl rfl⟩, by decide +kernel, by decide, by decide +kernel, rfl, rfl⟩
theorem sm_M_is : Cond.static yn_M_is ∈ TS := tn_3 169 rfl rfl
abbrev yt_M_clear : Yt := (prog_9_method_6_code, 2, "PollYardModel", "clear", (some (.int)))
abbrev yn_M_clear : MethodName := ⟨"PollYardModel", "clear", "()I"⟩
theorem mt_M_clear : mt_ok yt_M_clear yn_M_clear 0 := ⟨⟨tn_3 174 rfl rfl, tn_1 8 rfl rfl⟩, by decide +kernel, by decide, by decide +kernel, rfl, rfl⟩
theorem im_M_clear : Cond.instanceMethod yn_M_clear ∈ TS := tn_3 172 rfl rfl
theorem se_M_clear : Cond.selects "PollYardModel" yn_M_clear yn_M_clear ∈ TS := tn_3 173 rfl rfl
abbrev yt_M_define : Yt := (prog_9_method_7_code, 3, "PollYardModel", "define", (some (.int)))
abbrev yn_M_define : MethodName := ⟨"PollYardModel", "define", "()I"⟩
theorem mt_M_define : mt_ok yt_M_define yn_M_define 0 := ⟨⟨tn_3 178 rfl rfl, tn_1 8 rfl rfl⟩, by decide +kernel, by decide, by decide +kernel, rfl, rfl⟩
theorem im_M_define : Cond.instanceMethod yn_M_define ∈ TS := tn_3 176 rfl rfl
theorem se_M_define : Cond.selects "PollYardModel" yn_M_define yn_M_define ∈ TS := tn_3 177 rfl rfl
abbrev yt_M_parts : Yt := (prog_9_method_3_code, 1, "PollYardModel", "parts", (some (.int)))
abbrev yn_M_parts : MethodName := ⟨"PollYardModel", "parts", "(I)I"⟩
theorem mt_M_parts : mt_ok yt_M_parts yn_M_parts 1 := ⟨⟨tn_3 181 rfl rfl, tn_1 8 rfl rfl⟩, by decide +kernel, by decide, by decide +kernel, rfl, rfl⟩
theorem sm_M_parts : Cond.static yn_M_parts ∈ TS := tn_3 180 rfl rfl
abbrev yt_M_turn : Yt := (prog_9_method_37_code, 3, "PollYardModel", "turn", (some (.int)))
abbrev yn_M_turn : MethodName := ⟨"PollYardModel", "turn", "(I)I"⟩
theorem mt_M_turn : mt_ok yt_M_turn yn_M_turn 1 := ⟨⟨tn_3 185 rfl rfl, tn_1 8 rfl rfl⟩, by decide +kernel, by decide, by decide +kernel, rfl, rfl⟩
theorem im_M_turn : Cond.instanceMethod yn_M_turn ∈ TS := tn_3 183 rfl rfl
theorem se_M_turn : Cond.selects "PollYardModel" yn_M_turn yn_M_turn ∈ TS := tn_3 184 rfl rfl
abbrev yt_M_choose : Yt := (prog_9_method_36_code, 10, "PollYardModel", "choose", (some (.int)))
abbrev yn_M_choose : MethodName := ⟨"PollYardModel", "choose", "(I)I"⟩
theorem mt_M_choose : mt_ok yt_M_choose yn_M_choose 1 := ⟨⟨tn_3 189 rfl rfl, tn_1 8 rfl rfl⟩, by decide +kernel, by decide, by decide +kernel, rfl, rfl⟩
theorem im_M_choose : Cond.instanceMethod yn_M_choose ∈ TS := tn_3 188 rfl rfl
theorem se_M_choose : Cond.selects "PollYardModel" yn_M_choose yn_M_choose ∈ TS := tn_p 33 rfl rfl
abbrev yt_M_shiftInjector : Yt := (prog_9_method_15_code, 3, "PollYardModel", "shiftInjector", (some (.int)))
abbrev yn_M_shiftInjector : MethodName := ⟨"PollYardModel", "shiftInjector", "()I"⟩
theorem mt_M_shiftInjector : mt_ok yt_M_shiftInjector yn_M_shiftInjector 0 := ⟨⟨tn_3 193 rfl rfl, tn_1 8 rfl rfl⟩, by decide +kernel, by decide, by decide +kernel, rfl, rfl⟩
theorem im_M_shiftInjector : Cond.instanceMethod yn_M_shiftInjector ∈ TS := tn_3 192 rfl rfl
theorem se_M_shiftInjector : Cond.selects "PollYardModel" yn_M_shiftInjector yn_M_shiftInjector ∈ TS := tn_p 34 rfl rfl
abbrev yt_M_shift : Yt := (prog_9_method_14_code, 4, "PollYardModel", "shift", (some (.int)))
abbrev yn_M_shift : MethodName := ⟨"PollYardModel", "shift", "(I)I"⟩
theorem mt_M_shift : mt_ok yt_M_shift yn_M_shift 1 := ⟨⟨tn_3 197 rfl rfl, tn_1 8 rfl rfl⟩, by decide +kernel, by decide, by decide +kernel, rfl, rfl⟩
theorem im_M_shift : Cond.instanceMethod yn_M_shift ∈ TS := tn_3 196 rfl rfl
theorem se_M_shift : Cond.selects "PollYardModel" yn_M_shift yn_M_shift ∈ TS := tn_p 35 rfl rfl
abbrev yt_M_toRing : Yt := (prog_9_method_13_code, 5, "PollYardModel", "toRing", none)
abbrev yn_M_toRing : MethodName := ⟨"PollYardModel", "toRing", "(II)V"⟩
theorem mt_M_toRing : mt_ok yt_M_toRing yn_M_toRing 2 := ⟨⟨tn_3 201 rfl rfl, tn_1 8 rfl rfl⟩, by decide +kernel, by decide, by decide +kernel, rfl, rfl⟩
theorem im_M_toRing : Cond.instanceMethod yn_M_toRing ∈ TS := tn_3 200 rfl rfl
theorem se_M_toRing : Cond.selects "PollYardModel" yn_M_toRing yn_M_toRing ∈ TS := tn_p 36 rfl rfl
abbrev yt_M_inject : Yt := (prog_9_method_12_code, 2, "PollYardModel", "inject", none)
abbrev yn_M_inject : MethodName := ⟨"PollYardModel", "inject", "(I)V"⟩
theorem mt_M_inject : mt_ok yt_M_inject yn_M_inject 1 := ⟨⟨tn_3 205 rfl rfl, tn_1 8 rfl rfl⟩, by decide +kernel, by decide, by decide +kernel, rfl, rfl⟩
theorem im_M_inject : Cond.instanceMethod yn_M_inject ∈ TS := tn_3 204 rfl rfl
theorem se_M_inject : Cond.selects "PollYardModel" yn_M_inject yn_M_inject ∈ TS := tn_p 37 rfl rfl
abbrev yt_M_work : Yt := (prog_9_method_35_code, 4, "PollYardModel", "work", none)
abbrev yn_M_work : MethodName := ⟨"PollYardModel", "work", "(II)V"⟩
theorem mt_M_work : mt_ok yt_M_work yn_M_work 2 := ⟨⟨tn_3 209 rfl rfl, tn_1 8 rfl rfl⟩, by decide +kernel, by decide, by decide +kernel, rfl, rfl⟩
theorem im_M_work : Cond.instanceMethod yn_M_work ∈ TS := tn_3 208 rfl rfl
theorem se_M_work : Cond.selects "PollYardModel" yn_M_work yn_M_work ∈ TS := tn_p 38 rfl rfl
abbrev yt_M_poll : Yt := (prog_9_method_27_code, 6, "PollYardModel", "poll", none)
abbrev yn_M_poll : MethodName := ⟨"PollYardModel", "poll", "(I)V"⟩
theorem mt_M_poll : mt_ok yt_M_poll yn_M_poll 1 := ⟨⟨tn_3 213 rfl rfl, tn_1 8 rfl rfl⟩, by decide +kernel, by decide, by decide +kernel, rfl, rfl⟩
theorem im_M_poll : Cond.instanceMethod yn_M_poll ∈ TS := tn_3 212 rfl rfl
theorem se_M_poll : Cond.selects "PollYardModel" yn_M_poll yn_M_poll ∈ TS := tn_p 39 rfl rfl
abbrev yt_M_opOf : Yt := (prog_9_method_8_code, 3, "PollYardModel", "opOf", (some (.int)))
abbrev yn_M_opOf : MethodName := ⟨"PollYardModel", "opOf", "(II)I"⟩
theorem mt_M_opOf : mt_ok yt_M_opOf yn_M_opOf 2 := ⟨⟨tn_3 217 rfl rfl, tn_1 8 rfl rfl⟩, by decide +kernel, by decide, by decide +kernel, rfl, rfl⟩
theorem im_M_opOf : Cond.instanceMethod yn_M_opOf ∈ TS := tn_3 216 rfl rfl
theorem se_M_opOf : Cond.selects "PollYardModel" yn_M_opOf yn_M_opOf ∈ TS := tn_p 40 rfl rfl
abbrev yt_M_leaf : Yt := (prog_9_method_30_code, 8, "PollYardModel", "leaf", none)
abbrev yn_M_leaf : MethodName := ⟨"PollYardModel", "leaf", "(III)V"⟩
theorem mt_M_leaf : mt_ok yt_M_leaf yn_M_leaf 3 := ⟨⟨tn_3 221 rfl rfl, tn_1 8 rfl rfl⟩, by decide +kernel, by decide, by decide +kernel, rfl, rfl⟩
theorem im_M_leaf : Cond.instanceMethod yn_M_leaf ∈ TS := tn_3 220 rfl rfl
theorem se_M_leaf : Cond.selects "PollYardModel" yn_M_leaf yn_M_leaf ∈ TS := tn_p 41 rfl rfl
abbrev yt_M_argOf : Yt := (prog_9_method_9_code, 3, "PollYardModel", "argOf", (some (.int)))
abbrev yn_M_argOf : MethodName := ⟨"PollYardModel", "argOf", "(II)I"⟩
theorem mt_M_argOf : mt_ok yt_M_argOf yn_M_argOf 2 := ⟨⟨tn_3 225 rfl rfl, tn_1 8 rfl rfl⟩, by decide +kernel, by decide, by decide +kernel, rfl, rfl⟩
theorem im_M_argOf : Cond.instanceMethod yn_M_argOf ∈ TS := tn_3 224 rfl rfl
theorem se_M_argOf : Cond.selects "PollYardModel" yn_M_argOf yn_M_argOf ∈ TS := tn_p 42 rfl rfl
abbrev yt_M_ready : Yt := (prog_9_method_23_code, 3, "PollYardModel", "ready", none)
abbrev yn_M_ready : MethodName := ⟨"PollYardModel", "ready", "(II)V"⟩
theorem mt_M_ready : mt_ok yt_M_ready yn_M_ready 2 := ⟨⟨tn_3 229 rfl rfl, tn_1 8 rfl rfl⟩, by decide +kernel, by decide, by decide +kernel, rfl, rfl⟩
theorem im_M_ready : Cond.instanceMethod yn_M_ready ∈ TS := tn_3 228 rfl rfl
theorem se_M_ready : Cond.selects "PollYardModel" yn_M_ready yn_M_ready ∈ TS := tn_p 43 rfl rfl
abbrev yt_M_wakeUp : Yt := (prog_9_method_16_code, 3, "PollYardModel", "wakeUp", none)
abbrev yn_M_wakeUp : MethodName := ⟨"PollYardModel", "wakeUp", "(I)V"⟩
theorem mt_M_wakeUp : mt_ok yt_M_wakeUp yn_M_wakeUp 1 := ⟨⟨tn_3 233 rfl rfl, tn_1 8 rfl rfl⟩, by decide +kernel, by decide, by decide +kernel, rfl, rfl⟩
theorem im_M_wakeUp : Cond.instanceMethod yn_M_wakeUp ∈ TS := tn_3 232 rfl rfl
theorem se_M_wakeUp : Cond.selects "PollYardModel" yn_M_wakeUp yn_M_wakeUp ∈ TS := tn_p 44 rfl rfl
abbrev yt_M_pending : Yt := (prog_9_method_25_code, 2, "PollYardModel", "pending", none)
abbrev yn_M_pending : MethodName := ⟨"PollYardModel", "pending", "(I)V"⟩
theorem mt_M_pending : mt_ok yt_M_pending yn_M_pending 1 := ⟨⟨tn_3 237 rfl rfl, tn_1 8 rfl rfl⟩, by decide +kernel, by decide, by decide +kernel, rfl, rfl⟩
theorem im_M_pending : Cond.instanceMethod yn_M_pending ∈ TS := tn_3 236 rfl rfl
theorem se_M_pending : Cond.selects "PollYardModel" yn_M_pending yn_M_pending ∈ TS := tn_p 45 rfl rfl
abbrev yt_M_take : Yt := (prog_9_method_31_code, 8, "PollYardModel", "take", none)
abbrev yn_M_take : MethodName := ⟨"PollYardModel", "take", "(III)V"⟩
theorem mt_M_take : mt_ok yt_M_take yn_M_take 3 := ⟨⟨tn_4 1 rfl rfl, tn_1 8 rfl rfl⟩, by decide +kernel, by decide, by decide +kernel, rfl, rfl⟩
theorem im_M_take : Cond.instanceMethod yn_M_take ∈ TS := tn_4 0 rfl rfl
theorem se_M_take : Cond.selects "PollYardModel" yn_M_take yn_M_take ∈ TS := tn_p 46 rfl rfl
abbrev yt_M_wants : Yt := (prog_9_method_19_code, 1, "PollYardModel", "wants", (some (.int)))
abbrev yn_M_wants : MethodName := ⟨"PollYardModel", "wants", "(I)I"⟩
theorem mt_M_wants : mt_ok yt_M_wants yn_M_wants 1 := ⟨⟨tn_4 4 rfl rfl, tn_1 8 rfl rfl⟩, by decide +kernel, by decide, by decide +kernel, rfl, rfl⟩
theorem sm_M_wants : Cond.static yn_M_wants ∈ TS := tn_4 3 rfl rfl
abbrev yt_M_firstAt : Yt := (prog_9_method_17_code, 7, "PollYardModel", "firstAt", (some (.int)))
abbrev yn_M_firstAt : MethodName := ⟨"PollYardModel", "firstAt", "(II)I"⟩
theorem mt_M_firstAt : mt_ok yt_M_firstAt yn_M_firstAt 2 := ⟨⟨tn_4 8 rfl rfl, tn_1 8 rfl rfl⟩, by decide +kernel, by decide, by decide +kernel, rfl, rfl⟩
theorem im_M_firstAt : Cond.instanceMethod yn_M_firstAt ∈ TS := tn_4 7 rfl rfl
theorem se_M_firstAt : Cond.selects "PollYardModel" yn_M_firstAt yn_M_firstAt ∈ TS := tn_p 47 rfl rfl
abbrev yt_M_spends : Yt := (prog_9_method_26_code, 2, "PollYardModel", "spends", (some (.boolean)))
abbrev yn_M_spends : MethodName := ⟨"PollYardModel", "spends", "(I)Z"⟩
theorem mt_M_spends : mt_ok yt_M_spends yn_M_spends 1 := ⟨⟨tn_4 12 rfl rfl, tn_1 8 rfl rfl⟩, by decide +kernel, by decide, by decide +kernel, rfl, rfl⟩
theorem im_M_spends : Cond.instanceMethod yn_M_spends ∈ TS := tn_4 11 rfl rfl
theorem se_M_spends : Cond.selects "PollYardModel" yn_M_spends yn_M_spends ∈ TS := tn_p 48 rfl rfl
abbrev yt_M_add : Yt := (prog_9_method_20_code, 7, "PollYardModel", "add", none)
abbrev yn_M_add : MethodName := ⟨"PollYardModel", "add", "(II)V"⟩
theorem mt_M_add : mt_ok yt_M_add yn_M_add 2 := ⟨⟨tn_4 16 rfl rfl, tn_1 8 rfl rfl⟩, by decide +kernel, by decide, by decide +kernel, rfl, rfl⟩
theorem im_M_add : Cond.instanceMethod yn_M_add ∈ TS := tn_4 15 rfl rfl
theorem se_M_add : Cond.selects "PollYardModel" yn_M_add yn_M_add ∈ TS := tn_p 49 rfl rfl
abbrev yt_M_await : Yt := (prog_9_method_32_code, 6, "PollYardModel", "await", none)
abbrev yn_M_await : MethodName := ⟨"PollYardModel", "await", "(III)V"⟩
theorem mt_M_await : mt_ok yt_M_await yn_M_await 3 := ⟨⟨tn_4 20 rfl rfl, tn_1 8 rfl rfl⟩, by decide +kernel, by decide, by decide +kernel, rfl, rfl⟩
theorem im_M_await : Cond.instanceMethod yn_M_await ∈ TS := tn_4 19 rfl rfl
theorem se_M_await : Cond.selects "PollYardModel" yn_M_await yn_M_await ∈ TS := tn_p 50 rfl rfl
abbrev yt_M_give : Yt := (prog_9_method_21_code, 3, "PollYardModel", "give", (some (.boolean)))
abbrev yn_M_give : MethodName := ⟨"PollYardModel", "give", "(I)Z"⟩
theorem mt_M_give : mt_ok yt_M_give yn_M_give 1 := ⟨⟨tn_4 24 rfl rfl, tn_1 8 rfl rfl⟩, by decide +kernel, by decide, by decide +kernel, rfl, rfl⟩
theorem im_M_give : Cond.instanceMethod yn_M_give ∈ TS := tn_4 23 rfl rfl
theorem se_M_give : Cond.selects "PollYardModel" yn_M_give yn_M_give ∈ TS := tn_p 51 rfl rfl
abbrev yt_M_make : Yt := (prog_9_method_11_code, 4, "PollYardModel", "make", (some (.int)))
abbrev yn_M_make : MethodName := ⟨"PollYardModel", "make", "(I)I"⟩
theorem mt_M_make : mt_ok yt_M_make yn_M_make 1 := ⟨⟨tn_4 28 rfl rfl, tn_1 8 rfl rfl⟩, by decide +kernel, by decide, by decide +kernel, rfl, rfl⟩
theorem im_M_make : Cond.instanceMethod yn_M_make ∈ TS := tn_4 27 rfl rfl
theorem se_M_make : Cond.selects "PollYardModel" yn_M_make yn_M_make ∈ TS := tn_p 52 rfl rfl
abbrev yt_M_broken : Yt := (prog_9_method_24_code, 3, "PollYardModel", "broken", none)
abbrev yn_M_broken : MethodName := ⟨"PollYardModel", "broken", "(II)V"⟩
theorem mt_M_broken : mt_ok yt_M_broken yn_M_broken 2 := ⟨⟨tn_4 32 rfl rfl, tn_1 8 rfl rfl⟩, by decide +kernel, by decide, by decide +kernel, rfl, rfl⟩
theorem im_M_broken : Cond.instanceMethod yn_M_broken ∈ TS := tn_4 31 rfl rfl
theorem se_M_broken : Cond.selects "PollYardModel" yn_M_broken yn_M_broken ∈ TS := tn_p 53 rfl rfl
abbrev yt_M_step : Yt := (prog_9_method_28_code, 13, "PollYardModel", "step", (some (.int)))
abbrev yn_M_step : MethodName := ⟨"PollYardModel", "step", "(IIII)I"⟩
theorem mt_M_step : mt_ok yt_M_step yn_M_step 4 := ⟨⟨tn_4 36 rfl rfl, tn_1 8 rfl rfl⟩, by decide +kernel, by decide, by decide +kernel, rfl, rfl⟩
theorem im_M_step : Cond.instanceMethod yn_M_step ∈ TS := tn_4 35 rfl rfl
theorem se_M_step : Cond.selects "PollYardModel" yn_M_step yn_M_step ∈ TS := tn_p 54 rfl rfl
abbrev yt_M_end : Yt := (prog_9_method_10_code, 5, "PollYardModel", "end", (some (.int)))
abbrev yn_M_end : MethodName := ⟨"PollYardModel", "end", "(II)I"⟩
theorem mt_M_end : mt_ok yt_M_end yn_M_end 2 := ⟨⟨tn_4 40 rfl rfl, tn_1 8 rfl rfl⟩, by decide +kernel, by decide, by decide +kernel, rfl, rfl⟩
theorem im_M_end : Cond.instanceMethod yn_M_end ∈ TS := tn_4 39 rfl rfl
theorem se_M_end : Cond.selects "PollYardModel" yn_M_end yn_M_end ∈ TS := tn_p 55 rfl rfl
abbrev yt_M_drop : Yt := (prog_9_method_22_code, 11, "PollYardModel", "drop", none)
abbrev yn_M_drop : MethodName := ⟨"PollYardModel", "drop", "(II)V"⟩
theorem mt_M_drop : mt_ok yt_M_drop yn_M_drop 2 := ⟨⟨tn_4 44 rfl rfl, tn_1 8 rfl rfl⟩, by decide +kernel, by decide, by decide +kernel, rfl, rfl⟩
theorem im_M_drop : Cond.instanceMethod yn_M_drop ∈ TS := tn_4 43 rfl rfl
theorem se_M_drop : Cond.selects "PollYardModel" yn_M_drop yn_M_drop ∈ TS := tn_p 56 rfl rfl
abbrev yt_M_reap : Yt := (prog_9_method_29_code, 4, "PollYardModel", "reap", none)
abbrev yn_M_reap : MethodName := ⟨"PollYardModel", "reap", "(III)V"⟩
theorem mt_M_reap : mt_ok yt_M_reap yn_M_reap 3 := ⟨⟨tn_4 48 rfl rfl, tn_1 8 rfl rfl⟩, by decide +kernel, by decide, by decide +kernel, rfl, rfl⟩
theorem im_M_reap : Cond.instanceMethod yn_M_reap ∈ TS := tn_4 47 rfl rfl
theorem se_M_reap : Cond.selects "PollYardModel" yn_M_reap yn_M_reap ∈ TS := tn_p 57 rfl rfl
abbrev yt_M_ends : Yt := (prog_9_method_33_code, 4, "PollYardModel", "ends", none)
abbrev yn_M_ends : MethodName := ⟨"PollYardModel", "ends", "(III)V"⟩
theorem mt_M_ends : mt_ok yt_M_ends yn_M_ends 3 := ⟨⟨tn_4 52 rfl rfl, tn_1 8 rfl rfl⟩, by decide +kernel, by decide, by decide +kernel, rfl, rfl⟩
theorem im_M_ends : Cond.instanceMethod yn_M_ends ∈ TS := tn_4 51 rfl rfl
theorem se_M_ends : Cond.selects "PollYardModel" yn_M_ends yn_M_ends ∈ TS := tn_p 58 rfl rfl
abbrev yt_M_tellReapers : Yt := (prog_9_method_34_code, 6, "PollYardModel", "tellReapers", none)
abbrev yn_M_tellReapers : MethodName := ⟨"PollYardModel", "tellReapers", "(I)V"⟩
theorem mt_M_tellReapers : mt_ok yt_M_tellReapers yn_M_tellReapers 1 := ⟨⟨tn_4 56 rfl rfl, tn_1 8 rfl rfl⟩, by decide +kernel, by decide, by decide +kernel, rfl, rfl⟩
theorem im_M_tellReapers : Cond.instanceMethod yn_M_tellReapers ∈ TS := tn_4 55 rfl rfl
theorem se_M_tellReapers : Cond.selects "PollYardModel" yn_M_tellReapers yn_M_tellReapers ∈ TS := tn_p 59 rfl rfl
abbrev yt_M_run : Yt := (prog_9_method_38_code, 5, "PollYardModel", "run", (some (.int)))
abbrev yn_M_run : MethodName := ⟨"PollYardModel", "run", "(I)I"⟩
theorem mt_M_run : mt_ok yt_M_run yn_M_run 1 := ⟨⟨tn_4 60 rfl rfl, tn_1 8 rfl rfl⟩, by decide +kernel, by decide, by decide +kernel, rfl, rfl⟩
theorem im_M_run : Cond.instanceMethod yn_M_run ∈ TS := tn_4 58 rfl rfl
theorem se_M_run : Cond.selects "PollYardModel" yn_M_run yn_M_run ∈ TS := tn_4 59 rfl rfl
abbrev yt_M_spawn : Yt := (prog_9_method_39_code, 2, "PollYardModel", "spawn", (some (.int)))
abbrev yn_M_spawn : MethodName := ⟨"PollYardModel", "spawn", "(I)I"⟩
theorem mt_M_spawn : mt_ok yt_M_spawn yn_M_spawn 1 := ⟨⟨tn_4 65 rfl rfl, tn_1 8 rfl rfl⟩, by decide +kernel, by decide, by decide +kernel, rfl, rfl⟩
theorem im_M_spawn : Cond.instanceMethod yn_M_spawn ∈ TS := tn_4 63 rfl rfl
theorem se_M_spawn : Cond.selects "PollYardModel" yn_M_spawn yn_M_spawn ∈ TS := tn_4 64 rfl rfl
abbrev yt_M_tick : Yt := (prog_9_method_40_code, 6, "PollYardModel", "tick", (some (.int)))
abbrev yn_M_tick : MethodName := ⟨"PollYardModel", "tick", "(I)I"⟩
theorem mt_M_tick : mt_ok yt_M_tick yn_M_tick 1 := ⟨⟨tn_4 69 rfl rfl, tn_1 8 rfl rfl⟩, by decide +kernel, by decide, by decide +kernel, rfl, rfl⟩
theorem im_M_tick : Cond.instanceMethod yn_M_tick ∈ TS := tn_4 67 rfl rfl
theorem se_M_tick : Cond.selects "PollYardModel" yn_M_tick yn_M_tick ∈ TS := tn_4 68 rfl rfl
abbrev yt_M_abort : Yt := (prog_9_method_42_code, 2, "PollYardModel", "abort", (some (.boolean)))
abbrev yn_M_abort : MethodName := ⟨"PollYardModel", "abort", "(I)Z"⟩
theorem mt_M_abort : mt_ok yt_M_abort yn_M_abort 1 := ⟨⟨tn_4 73 rfl rfl, tn_1 8 rfl rfl⟩, by decide +kernel, by decide, by decide +kernel, rfl, rfl⟩
theorem im_M_abort : Cond.instanceMethod yn_M_abort ∈ TS := tn_4 71 rfl rfl
theorem se_M_abort : Cond.selects "PollYardModel" yn_M_abort yn_M_abort ∈ TS := tn_4 72 rfl rfl
abbrev yt_M_unqueue : Yt := (prog_9_method_41_code, 5, "PollYardModel", "unqueue", none)
abbrev yn_M_unqueue : MethodName := ⟨"PollYardModel", "unqueue", "(I)V"⟩
theorem mt_M_unqueue : mt_ok yt_M_unqueue yn_M_unqueue 1 := ⟨⟨tn_4 77 rfl rfl, tn_1 8 rfl rfl⟩, by decide +kernel, by decide, by decide +kernel, rfl, rfl⟩
theorem im_M_unqueue : Cond.instanceMethod yn_M_unqueue ∈ TS := tn_4 76 rfl rfl
theorem se_M_unqueue : Cond.selects "PollYardModel" yn_M_unqueue yn_M_unqueue ∈ TS := tn_p 60 rfl rfl
abbrev yt_M_put : Yt := (prog_9_method_43_code, 3, "PollYardModel", "put", (some (.int)))
abbrev yn_M_put : MethodName := ⟨"PollYardModel", "put", "(II)I"⟩
theorem mt_M_put : mt_ok yt_M_put yn_M_put 2 := ⟨⟨tn_4 81 rfl rfl, tn_1 8 rfl rfl⟩, by decide +kernel, by decide, by decide +kernel, rfl, rfl⟩
theorem im_M_put : Cond.instanceMethod yn_M_put ∈ TS := tn_4 79 rfl rfl
theorem se_M_put : Cond.selects "PollYardModel" yn_M_put yn_M_put ∈ TS := tn_4 80 rfl rfl
abbrev yt_M_wake : Yt := (prog_9_method_44_code, 3, "PollYardModel", "wake", (some (.int)))
abbrev yn_M_wake : MethodName := ⟨"PollYardModel", "wake", "(I)I"⟩
theorem mt_M_wake : mt_ok yt_M_wake yn_M_wake 1 := ⟨⟨tn_4 85 rfl rfl, tn_1 8 rfl rfl⟩, by decide +kernel, by decide, by decide +kernel, rfl, rfl⟩
theorem im_M_wake : Cond.instanceMethod yn_M_wake ∈ TS := tn_4 83 rfl rfl
theorem se_M_wake : Cond.selects "PollYardModel" yn_M_wake yn_M_wake ∈ TS := tn_4 84 rfl rfl
abbrev yt_M_task : Yt := (prog_9_method_45_code, 3, "PollYardModel", "task", (some (.int)))
abbrev yn_M_task : MethodName := ⟨"PollYardModel", "task", "(II)I"⟩
theorem mt_M_task : mt_ok yt_M_task yn_M_task 2 := ⟨⟨tn_4 89 rfl rfl, tn_1 8 rfl rfl⟩, by decide +kernel, by decide, by decide +kernel, rfl, rfl⟩
theorem im_M_task : Cond.instanceMethod yn_M_task ∈ TS := tn_4 87 rfl rfl
theorem se_M_task : Cond.selects "PollYardModel" yn_M_task yn_M_task ∈ TS := tn_4 88 rfl rfl
abbrev yt_M_worker : Yt := (prog_9_method_46_code, 3, "PollYardModel", "worker", (some (.int)))
abbrev yn_M_worker : MethodName := ⟨"PollYardModel", "worker", "(II)I"⟩
theorem mt_M_worker : mt_ok yt_M_worker yn_M_worker 2 := ⟨⟨tn_4 93 rfl rfl, tn_1 8 rfl rfl⟩, by decide +kernel, by decide, by decide +kernel, rfl, rfl⟩
theorem im_M_worker : Cond.instanceMethod yn_M_worker ∈ TS := tn_4 91 rfl rfl
theorem se_M_worker : Cond.selects "PollYardModel" yn_M_worker yn_M_worker ∈ TS := tn_4 92 rfl rfl
abbrev yt_M_injected : Yt := (prog_9_method_47_code, 2, "PollYardModel", "injected", (some (.int)))
abbrev yn_M_injected : MethodName := ⟨"PollYardModel", "injected", "(I)I"⟩
theorem mt_M_injected : mt_ok yt_M_injected yn_M_injected 1 := ⟨⟨tn_4 97 rfl rfl, tn_1 8 rfl rfl⟩, by decide +kernel, by decide, by decide +kernel, rfl, rfl⟩
theorem im_M_injected : Cond.instanceMethod yn_M_injected ∈ TS := tn_4 95 rfl rfl
theorem se_M_injected : Cond.selects "PollYardModel" yn_M_injected yn_M_injected ∈ TS := tn_4 96 rfl rfl
abbrev yt_M_gate : Yt := (prog_9_method_48_code, 4, "PollYardModel", "gate", (some (.int)))
abbrev yn_M_gate : MethodName := ⟨"PollYardModel", "gate", "(II)I"⟩
theorem mt_M_gate : mt_ok yt_M_gate yn_M_gate 2 := ⟨⟨tn_4 101 rfl rfl, tn_1 8 rfl rfl⟩, by decide +kernel, by decide, by decide +kernel, rfl, rfl⟩
theorem im_M_gate : Cond.instanceMethod yn_M_gate ∈ TS := tn_4 99 rfl rfl
theorem se_M_gate : Cond.selects "PollYardModel" yn_M_gate yn_M_gate ∈ TS := tn_4 100 rfl rfl
abbrev yt_M_waiting : Yt := (prog_9_method_18_code, 5, "PollYardModel", "waiting", (some (.int)))
abbrev yn_M_waiting : MethodName := ⟨"PollYardModel", "waiting", "(II)I"⟩
theorem mt_M_waiting : mt_ok yt_M_waiting yn_M_waiting 2 := ⟨⟨tn_4 105 rfl rfl, tn_1 8 rfl rfl⟩, by decide +kernel, by decide, by decide +kernel, rfl, rfl⟩
theorem im_M_waiting : Cond.instanceMethod yn_M_waiting ∈ TS := tn_4 104 rfl rfl
theorem se_M_waiting : Cond.selects "PollYardModel" yn_M_waiting yn_M_waiting ∈ TS := tn_p 61 rfl rfl
abbrev yt_M_count : Yt := (prog_9_method_49_code, 4, "PollYardModel", "count", (some (.int)))
abbrev yn_M_count : MethodName := ⟨"PollYardModel", "count", "(I)I"⟩
theorem mt_M_count : mt_ok yt_M_count yn_M_count 1 := ⟨⟨tn_4 109 rfl rfl, tn_1 8 rfl rfl⟩, by decide +kernel, by decide, by decide +kernel, rfl, rfl⟩
theorem im_M_count : Cond.instanceMethod yn_M_count ∈ TS := tn_4 107 rfl rfl
theorem se_M_count : Cond.selects "PollYardModel" yn_M_count yn_M_count ∈ TS := tn_4 108 rfl rfl
theorem ml_L_9 : Cond.methodLink "PollYardLaw" 9 yn_Y_init ∈ TS := tn_1 12 rfl rfl
theorem ml_Y_1 : Cond.methodLink "PollYard" 1 Lib.objectInit ∈ TS := tn_1 15 rfl rfl
theorem ml_P_3 : Cond.methodLink "PollYard$Program" 3 Lib.objectInit ∈ TS := tn_1 23 rfl rfl
theorem ml_Y_35 : Cond.methodLink "PollYard" 35 yn_K_init ∈ TS := tn_1 50 rfl rfl
theorem ml_K_3 : Cond.methodLink "PollYard$Worker" 3 Lib.objectInit ∈ TS := tn_1 53 rfl rfl
theorem ml_K_11 : Cond.methodLink "PollYard$Worker" 11 yn_R_init ∈ TS := tn_1 56 rfl rfl
theorem ml_R_3 : Cond.methodLink "PollYard$Row" 3 Lib.objectInit ∈ TS := tn_1 59 rfl rfl
theorem ml_R_15 : Cond.methodLink "PollYard$Row" 15 Lib.Math.max.name ∈ TS := tn_1 60 rfl rfl
theorem ml_Y_44 : Cond.methodLink "PollYard" 44 yn_R_init ∈ TS := tn_1 93 rfl rfl
theorem ml_G_3 : Cond.methodLink "PollYard$Gate" 3 Lib.objectInit ∈ TS := tn_1 100 rfl rfl
theorem ml_G_11 : Cond.methodLink "PollYard$Gate" 11 yn_R_init ∈ TS := tn_1 102 rfl rfl
theorem ml_N_3 : Cond.methodLink "PollYard$Notice" 3 Lib.objectInit ∈ TS := tn_1 118 rfl rfl
theorem ml_N_11 : Cond.methodLink "PollYard$Notice" 11 yn_R_init ∈ TS := tn_1 120 rfl rfl
theorem ml_L_13 : Cond.methodLink "PollYardLaw" 13 yn_Y_token ∈ TS := tn_1 173 rfl rfl
theorem ml_Y_85 : Cond.methodLink "PollYard" 85 yn_P_append ∈ TS := tn_1 181 rfl rfl
theorem ml_L_18 : Cond.methodLink "PollYardLaw" 18 yn_Y_define ∈ TS := tn_1 185 rfl rfl
theorem ml_Y_92 : Cond.methodLink "PollYard" 92 yn_P_isOneFuture ∈ TS := tn_1 189 rfl rfl
theorem ml_Y_96 : Cond.methodLink "PollYard" 96 yn_P_findEnds ∈ TS := tn_1 195 rfl rfl
theorem ml_P_32 : Cond.methodLink "PollYard$Program" 32 yn_P_endOf ∈ TS := tn_1 199 rfl rfl
theorem ml_P_25 : Cond.methodLink "PollYard$Program" 25 yn_P_has ∈ TS := tn_1 203 rfl rfl
theorem ml_L_23 : Cond.methodLink "PollYardLaw" 23 yn_Y_clear ∈ TS := tn_1 207 rfl rfl
theorem ml_L_27 : Cond.methodLink "PollYardLaw" 27 yn_Y_spawn ∈ TS := tn_1 211 rfl rfl
theorem ml_Y_99 : Cond.methodLink "PollYard" 99 yn_Y_makeTask ∈ TS := tn_1 215 rfl rfl
theorem ml_Y_207 : Cond.methodLink "PollYard" 207 yn_T_init ∈ TS := tn_1 220 rfl rfl
theorem ml_T_3 : Cond.methodLink "PollYard$Task" 3 Lib.objectInit ∈ TS := tn_1 223 rfl rfl
theorem ml_Y_210 : Cond.methodLink "PollYard" 210 yn_R_add ∈ TS := tn_2 28 rfl rfl
theorem ml_Y_103 : Cond.methodLink "PollYard" 103 yn_Y_injectWoken ∈ TS := tn_2 32 rfl rfl
theorem ml_Y_169 : Cond.methodLink "PollYard" 169 yn_R_at ∈ TS := tn_2 36 rfl rfl
theorem ml_L_32 : Cond.methodLink "PollYardLaw" 32 yn_Y_turn ∈ TS := tn_2 40 rfl rfl
theorem ml_Y_106 : Cond.methodLink "PollYard" 106 yn_Y_takeTurn ∈ TS := tn_2 44 rfl rfl
theorem ml_Y_237 : Cond.methodLink "PollYard" 237 yn_Y_nextTask ∈ TS := tn_2 48 rfl rfl
theorem ml_Y_198 : Cond.methodLink "PollYard" 198 yn_R_isEmpty ∈ TS := tn_2 52 rfl rfl
theorem ml_Y_251 : Cond.methodLink "PollYard" 251 yn_K_emptySlot ∈ TS := tn_2 56 rfl rfl
theorem ml_Y_231 : Cond.methodLink "PollYard" 231 yn_R_takeFirst ∈ TS := tn_2 60 rfl rfl
theorem ml_R_33 : Cond.methodLink "PollYard$Row" 33 yn_R_at ∈ TS := tn_2 64 rfl rfl
theorem ml_R_29 : Cond.methodLink "PollYard$Row" 29 yn_R_removeAt ∈ TS := tn_2 65 rfl rfl
theorem ml_Y_254 : Cond.methodLink "PollYard" 254 yn_Y_steal ∈ TS := tn_2 69 rfl rfl
theorem ml_Y_113 : Cond.methodLink "PollYard" 113 yn_Y_taskAt ∈ TS := tn_2 73 rfl rfl
theorem ml_Y_240 : Cond.methodLink "PollYard" 240 yn_Y_poll ∈ TS := tn_2 77 rfl rfl
theorem ml_Y_260 : Cond.methodLink "PollYard" 260 yn_P_has ∈ TS := tn_2 81 rfl rfl
theorem ml_Y_272 : Cond.methodLink "PollYard" 272 yn_T_makeReady ∈ TS := tn_2 82 rfl rfl
theorem ml_Y_276 : Cond.methodLink "PollYard" 276 yn_Y_pollTurn ∈ TS := tn_2 86 rfl rfl
theorem ml_Y_316 : Cond.methodLink "PollYard" 316 Lib.Math.max.name ∈ TS := tn_2 90 rfl rfl
theorem ml_Y_220 : Cond.methodLink "PollYard" 220 yn_Y_wakeTask ∈ TS := tn_2 91 rfl rfl
theorem ml_Y_280 : Cond.methodLink "PollYard" 280 yn_Y_pollSleep ∈ TS := tn_2 95 rfl rfl
theorem ml_Y_283 : Cond.methodLink "PollYard" 283 yn_Y_pollTake ∈ TS := tn_2 99 rfl rfl
theorem ml_Y_286 : Cond.methodLink "PollYard" 286 yn_Y_permitsOf ∈ TS := tn_2 103 rfl rfl
theorem ml_Y_322 : Cond.methodLink "PollYard" 322 yn_Y_spendUnit ∈ TS := tn_2 106 rfl rfl
theorem ml_Y_326 : Cond.methodLink "PollYard" 326 yn_T_placeOf ∈ TS := tn_2 110 rfl rfl
theorem ml_Y_133 : Cond.methodLink "PollYard" 133 yn_Y_addPermits ∈ TS := tn_2 114 rfl rfl
theorem ml_Y_201 : Cond.methodLink "PollYard" 201 yn_Y_ownerOf ∈ TS := tn_2 118 rfl rfl
theorem ml_Y_338 : Cond.methodLink "PollYard" 338 Lib.Math.min.name ∈ TS := tn_2 122 rfl rfl
theorem ml_Y_289 : Cond.methodLink "PollYard" 289 yn_Y_pollWait ∈ TS := tn_2 125 rfl rfl
theorem ml_Y_140 : Cond.methodLink "PollYard" 140 yn_Y_giveNotice ∈ TS := tn_2 129 rfl rfl
theorem ml_Y_292 : Cond.methodLink "PollYard" 292 yn_Y_pollReap ∈ TS := tn_2 133 rfl rfl
theorem ml_Y_329 : Cond.methodLink "PollYard" 329 yn_T_follow ∈ TS := tn_2 137 rfl rfl
theorem ml_T_54 : Cond.methodLink "PollYard$Task" 54 yn_T_phaseOf ∈ TS := tn_2 141 rfl rfl
theorem ml_T_48 : Cond.methodLink "PollYard$Task" 48 yn_P_has ∈ TS := tn_2 145 rfl rfl
theorem ml_T_58 : Cond.methodLink "PollYard$Task" 58 yn_T_resultOf ∈ TS := tn_2 146 rfl rfl
theorem ml_Y_332 : Cond.methodLink "PollYard" 332 yn_T_resultOf ∈ TS := tn_2 150 rfl rfl
theorem ml_Y_295 : Cond.methodLink "PollYard" 295 yn_T_makeBroken ∈ TS := tn_2 151 rfl rfl
theorem ml_Y_298 : Cond.methodLink "PollYard" 298 yn_Y_pollThen ∈ TS := tn_2 155 rfl rfl
theorem ml_Y_335 : Cond.methodLink "PollYard" 335 yn_P_endOf ∈ TS := tn_2 159 rfl rfl
theorem ml_Y_301 : Cond.methodLink "PollYard" 301 yn_Y_pollBoth ∈ TS := tn_2 160 rfl rfl
theorem ml_Y_126 : Cond.methodLink "PollYard" 126 yn_Y_drop ∈ TS := tn_2 164 rfl rfl
theorem ml_Y_341 : Cond.methodLink "PollYard" 341 yn_T_phaseOf ∈ TS := tn_2 168 rfl rfl
theorem ml_Y_234 : Cond.methodLink "PollYard" 234 yn_R_remove ∈ TS := tn_2 169 rfl rfl
theorem ml_R_25 : Cond.methodLink "PollYard$Row" 25 yn_R_indexOf ∈ TS := tn_2 173 rfl rfl
theorem ml_Y_304 : Cond.methodLink "PollYard" 304 yn_Y_pollFirst ∈ TS := tn_2 177 rfl rfl
theorem ml_Y_307 : Cond.methodLink "PollYard" 307 yn_Y_pollWithin ∈ TS := tn_2 181 rfl rfl
theorem ml_Y_310 : Cond.methodLink "PollYard" 310 yn_Y_pollAdd ∈ TS := tn_2 185 rfl rfl
theorem ml_Y_313 : Cond.methodLink "PollYard" 313 yn_Y_pollCatch ∈ TS := tn_2 189 rfl rfl
theorem ml_Y_244 : Cond.methodLink "PollYard" 244 yn_T_end ∈ TS := tn_2 193 rfl rfl
theorem ml_Y_130 : Cond.methodLink "PollYard" 130 yn_Y_wakeReapers ∈ TS := tn_2 197 rfl rfl
theorem ml_Y_217 : Cond.methodLink "PollYard" 217 yn_T_reaps ∈ TS := tn_2 201 rfl rfl
theorem ml_Y_247 : Cond.methodLink "PollYard" 247 yn_Y_slotWoken ∈ TS := tn_2 205 rfl rfl
theorem ml_Y_227 : Cond.methodLink "PollYard" 227 yn_Y_pushToRing ∈ TS := tn_2 209 rfl rfl
theorem ml_L_36 : Cond.methodLink "PollYardLaw" 36 yn_Y_run ∈ TS := tn_2 213 rfl rfl
theorem ml_L_40 : Cond.methodLink "PollYardLaw" 40 yn_Y_tick ∈ TS := tn_2 217 rfl rfl
theorem ml_Y_110 : Cond.methodLink "PollYard" 110 yn_Y_wakeTheDue ∈ TS := tn_2 221 rfl rfl
theorem ml_Y_224 : Cond.methodLink "PollYard" 224 yn_T_isDueAt ∈ TS := tn_2 225 rfl rfl
theorem ml_L_44 : Cond.methodLink "PollYardLaw" 44 yn_Y_abort ∈ TS := tn_2 229 rfl rfl
theorem ml_Y_117 : Cond.methodLink "PollYard" 117 yn_T_hasEnded ∈ TS := tn_2 233 rfl rfl
theorem ml_Y_120 : Cond.methodLink "PollYard" 120 yn_Y_unqueue ∈ TS := tn_2 237 rfl rfl
theorem ml_L_49 : Cond.methodLink "PollYardLaw" 49 yn_Y_put ∈ TS := tn_3 1 rfl rfl
theorem ml_L_53 : Cond.methodLink "PollYardLaw" 53 yn_Y_wake ∈ TS := tn_3 5 rfl rfl
theorem ml_L_57 : Cond.methodLink "PollYardLaw" 57 yn_Y_task ∈ TS := tn_3 9 rfl rfl
theorem ml_Y_156 : Cond.methodLink "PollYard" 156 yn_Y_whereQueued ∈ TS := tn_3 13 rfl rfl
theorem ml_Y_191 : Cond.methodLink "PollYard" 191 yn_R_holds ∈ TS := tn_3 17 rfl rfl
theorem ml_L_61 : Cond.methodLink "PollYardLaw" 61 yn_Y_worker ∈ TS := tn_3 21 rfl rfl
theorem ml_L_65 : Cond.methodLink "PollYardLaw" 65 yn_Y_injected ∈ TS := tn_3 25 rfl rfl
theorem ml_L_69 : Cond.methodLink "PollYardLaw" 69 yn_Y_gate ∈ TS := tn_3 29 rfl rfl
theorem ml_Y_178 : Cond.methodLink "PollYard" 178 yn_Y_gotByFirst ∈ TS := tn_3 33 rfl rfl
theorem ml_L_73 : Cond.methodLink "PollYardLaw" 73 yn_Y_count ∈ TS := tn_3 37 rfl rfl
theorem ml_Y_187 : Cond.methodLink "PollYard" 187 yn_Y_tasksNotEnded ∈ TS := tn_3 41 rfl rfl
theorem ml_L_12 : Cond.methodLink "PollYardLaw" 12 yn_M_init ∈ TS := tn_3 47 rfl rfl
theorem ml_M_1 : Cond.methodLink "PollYardModel" 1 Lib.objectInit ∈ TS := tn_3 50 rfl rfl
theorem ml_L_17 : Cond.methodLink "PollYardLaw" 17 yn_M_token ∈ TS := tn_3 161 rfl rfl
theorem ml_M_97 : Cond.methodLink "PollYardModel" 97 yn_M_fits ∈ TS := tn_3 165 rfl rfl
theorem ml_M_93 : Cond.methodLink "PollYardModel" 93 yn_M_is ∈ TS := tn_3 168 rfl rfl
theorem ml_L_26 : Cond.methodLink "PollYardLaw" 26 yn_M_clear ∈ TS := tn_3 171 rfl rfl
theorem ml_L_22 : Cond.methodLink "PollYardLaw" 22 yn_M_define ∈ TS := tn_3 175 rfl rfl
theorem ml_M_101 : Cond.methodLink "PollYardModel" 101 yn_M_parts ∈ TS := tn_3 179 rfl rfl
theorem ml_L_35 : Cond.methodLink "PollYardLaw" 35 yn_M_turn ∈ TS := tn_3 182 rfl rfl
theorem ml_M_214 : Cond.methodLink "PollYardModel" 214 yn_M_choose ∈ TS := tn_3 186 rfl rfl
theorem ml_M_207 : Cond.methodLink "PollYardModel" 207 yn_M_shiftInjector ∈ TS := tn_3 190 rfl rfl
theorem ml_M_122 : Cond.methodLink "PollYardModel" 122 yn_M_shift ∈ TS := tn_3 194 rfl rfl
theorem ml_M_128 : Cond.methodLink "PollYardModel" 128 yn_M_toRing ∈ TS := tn_3 198 rfl rfl
theorem ml_M_125 : Cond.methodLink "PollYardModel" 125 yn_M_inject ∈ TS := tn_3 202 rfl rfl
theorem ml_M_217 : Cond.methodLink "PollYardModel" 217 yn_M_work ∈ TS := tn_3 206 rfl rfl
theorem ml_M_198 : Cond.methodLink "PollYardModel" 198 yn_M_poll ∈ TS := tn_3 210 rfl rfl
theorem ml_M_108 : Cond.methodLink "PollYardModel" 108 yn_M_opOf ∈ TS := tn_3 214 rfl rfl
theorem ml_M_154 : Cond.methodLink "PollYardModel" 154 yn_M_leaf ∈ TS := tn_3 218 rfl rfl
theorem ml_M_132 : Cond.methodLink "PollYardModel" 132 yn_M_argOf ∈ TS := tn_3 222 rfl rfl
theorem ml_M_171 : Cond.methodLink "PollYardModel" 171 yn_M_ready ∈ TS := tn_3 226 rfl rfl
theorem ml_M_115 : Cond.methodLink "PollYardModel" 115 yn_M_wakeUp ∈ TS := tn_3 230 rfl rfl
theorem ml_M_174 : Cond.methodLink "PollYardModel" 174 yn_M_pending ∈ TS := tn_3 234 rfl rfl
theorem ml_M_183 : Cond.methodLink "PollYardModel" 183 yn_M_take ∈ TS := tn_3 238 rfl rfl
theorem ml_M_138 : Cond.methodLink "PollYardModel" 138 yn_M_wants ∈ TS := tn_4 2 rfl rfl
theorem ml_M_135 : Cond.methodLink "PollYardModel" 135 yn_M_firstAt ∈ TS := tn_4 5 rfl rfl
theorem ml_M_180 : Cond.methodLink "PollYardModel" 180 yn_M_spends ∈ TS := tn_4 9 rfl rfl
theorem ml_M_144 : Cond.methodLink "PollYardModel" 144 yn_M_add ∈ TS := tn_4 13 rfl rfl
theorem ml_M_186 : Cond.methodLink "PollYardModel" 186 yn_M_await ∈ TS := tn_4 17 rfl rfl
theorem ml_M_147 : Cond.methodLink "PollYardModel" 147 yn_M_give ∈ TS := tn_4 21 rfl rfl
theorem ml_M_189 : Cond.methodLink "PollYardModel" 189 yn_M_make ∈ TS := tn_4 25 rfl rfl
theorem ml_M_165 : Cond.methodLink "PollYardModel" 165 yn_M_broken ∈ TS := tn_4 29 rfl rfl
theorem ml_M_158 : Cond.methodLink "PollYardModel" 158 yn_M_step ∈ TS := tn_4 33 rfl rfl
theorem ml_M_141 : Cond.methodLink "PollYardModel" 141 yn_M_end ∈ TS := tn_4 37 rfl rfl
theorem ml_M_168 : Cond.methodLink "PollYardModel" 168 yn_M_drop ∈ TS := tn_4 41 rfl rfl
theorem ml_M_177 : Cond.methodLink "PollYardModel" 177 yn_M_reap ∈ TS := tn_4 45 rfl rfl
theorem ml_M_201 : Cond.methodLink "PollYardModel" 201 yn_M_ends ∈ TS := tn_4 49 rfl rfl
theorem ml_M_204 : Cond.methodLink "PollYardModel" 204 yn_M_tellReapers ∈ TS := tn_4 53 rfl rfl
theorem ml_L_39 : Cond.methodLink "PollYardLaw" 39 yn_M_run ∈ TS := tn_4 57 rfl rfl
theorem ml_M_223 : Cond.methodLink "PollYardModel" 223 yn_M_turn ∈ TS := tn_4 61 rfl rfl
theorem ml_L_31 : Cond.methodLink "PollYardLaw" 31 yn_M_spawn ∈ TS := tn_4 62 rfl rfl
theorem ml_L_43 : Cond.methodLink "PollYardLaw" 43 yn_M_tick ∈ TS := tn_4 66 rfl rfl
theorem ml_L_48 : Cond.methodLink "PollYardLaw" 48 yn_M_abort ∈ TS := tn_4 70 rfl rfl
theorem ml_M_226 : Cond.methodLink "PollYardModel" 226 yn_M_unqueue ∈ TS := tn_4 74 rfl rfl
theorem ml_L_52 : Cond.methodLink "PollYardLaw" 52 yn_M_put ∈ TS := tn_4 78 rfl rfl
theorem ml_L_56 : Cond.methodLink "PollYardLaw" 56 yn_M_wake ∈ TS := tn_4 82 rfl rfl
theorem ml_L_60 : Cond.methodLink "PollYardLaw" 60 yn_M_task ∈ TS := tn_4 86 rfl rfl
theorem ml_L_64 : Cond.methodLink "PollYardLaw" 64 yn_M_worker ∈ TS := tn_4 90 rfl rfl
theorem ml_L_68 : Cond.methodLink "PollYardLaw" 68 yn_M_injected ∈ TS := tn_4 94 rfl rfl
theorem ml_L_72 : Cond.methodLink "PollYardLaw" 72 yn_M_gate ∈ TS := tn_4 98 rfl rfl
theorem ml_M_229 : Cond.methodLink "PollYardModel" 229 yn_M_waiting ∈ TS := tn_4 102 rfl rfl
theorem ml_L_76 : Cond.methodLink "PollYardLaw" 76 yn_M_count ∈ TS := tn_4 106 rfl rfl
theorem sm_Math_max : Cond.static Lib.Math.max.name ∈ TS := tn_1 61 rfl rfl
theorem co_Math_max : Cond.code Lib.Math.max.name Lib.Math.max.code 2 (some .int) ∈ TS := tn_1 62 rfl rfl
theorem sm_Math_min : Cond.static Lib.Math.min.name ∈ TS := tn_2 123 rfl rfl
theorem co_Math_min : Cond.code Lib.Math.min.name Lib.Math.min.code 2 (some .int) ∈ TS := tn_2 124 rfl rfl
theorem ii_Math : Cond.initialized "java/lang/Math" ∈ TS := tn_1 5 rfl rfl
theorem im_Obj : Cond.instanceMethod Lib.objectInit ∈ TS := tn_1 16 rfl rfl
theorem co_Obj : Cond.code Lib.objectInit ⟨#[0xb1]⟩ 1 none ∈ TS := tn_1 17 rfl rfl
end
section
def jx (G : Gt) (Y : Yt) (d c0 s0 : Nat) (M : Me) (pc : Nat) (lc : List (Option AV)) (st : List AV) (Q : Option AV → Me → Prop) : Prop := ∃ (r : Option AV) (M' : Me), jw G Y d c0 s0 M pc lc st r M' ∧ Q r M'
def sx (G : Gt) (Y : Yt) (y : MethodName) (d : Nat) (as : List AV) (M : Me) (Q : Option AV → Me → Prop) : Prop := ∃ (r : Option AV) (M' : Me), sp G Y y d as M r M' ∧ Q r M'
theorem sx_mono {G : Gt} {Y : Yt} {y : MethodName} {d : Nat} {as : List AV} {M : Me} {Q Q' : Option AV → Me → Prop} (h : sx G Y y d as M Q) (hq : ∀ r M', Q r M' → Q' r M') : sx G Y y d as M Q' := by
  obtain ⟨r, M', h1, h2⟩ := h
  exact ⟨r, M', h1, hq r M' h2⟩
section RowsX
variable {G : Gt} {Y : Yt} {d c0 s0 : Nat} {M M2 : Me} {pc pc2 : Nat} {lc lc2 : List (Option AV)} {st st2 stk : List AV} {Q : Option AV → Me → Prop}
theorem jx_of (h : ∀ (r : Option AV) (M' : Me), jw G Y d c0 s0 M2 pc2 lc2 st2 r M' → jw G Y d c0 s0 M pc lc st r M') (k : jx G Y d c0 s0 M2 pc2 lc2 st2 Q) : jx G Y d c0 s0 M pc lc st Q := by
  obtain ⟨r, M', h1, h2⟩ := k
  exact ⟨r, M', h r M' h1, h2⟩
theorem jx_mono {Q' : Option AV → Me → Prop} (h : jx G Y d c0 s0 M pc lc st Q) (hq : ∀ r M', Q r M' → Q' r M') : jx G Y d c0 s0 M pc lc st Q' := by
  obtain ⟨r, M', h1, h2⟩ := h
  exact ⟨r, M', h1, hq r M' h2⟩
theorem jx_eq (hl : lc = lc2) (hs : st = st2) (hM : M = M2) (k : jx G Y d c0 s0 M2 pc lc2 st2 Q) : jx G Y d c0 s0 M pc lc st Q := by subst hl; subst hs; subst hM; exact k
theorem lc_std (as : List AV) (k : Nat) : ∀ (i : Nat) (v : AV), (as.map some ++ List.replicate k none)[i]? = some (some v) → as[i]? = some v := by
  intro i v h
  rw [List.getElem?_append] at h
  split at h
  · rw [List.getElem?_map] at h
    cases ha : as[i]? with
    | none => rw [ha] at h; cases h
    | some w => rw [ha] at h; cases h; rfl
  · rw [List.getElem?_replicate] at h
    split at h <;> cases h
theorem sx_of {y : MethodName} {n k : Nat} {as : List AV} (hm : mt_ok Y y n) (hlen : as.length ≤ Y.2.1) (hlc : lc = as.map some ++ List.replicate k none) (h : jx G Y d (me_C M) (me_S M) M 0 lc [] Q) : sx G Y y d as M Q := by
  subst hlc
  obtain ⟨r, M', h1, h2⟩ := h
  exact ⟨r, M', sp_of _ hm hlen (lc_std as k) h1, h2⟩
theorem jx_iret {x : Int32} (hd : decode Y.1 pc = .ok (.ireturn, 1)) (hr : Y.2.2.2.2 = some .int) (hq : Q (some (.inl x)) M) : jx G Y d c0 s0 M pc lc [.inl x] Q := ⟨_, _, jw_iret hd hr, hq⟩
theorem jx_zret {x : Int32} (hd : decode Y.1 pc = .ok (.ireturn, 1)) (hr : Y.2.2.2.2 = some .boolean) (hx : x = 0 ∨ x = 1) (hq : Q (some (.inl x)) M) : jx G Y d c0 s0 M pc lc [.inl x] Q := ⟨_, _, jw_zret hd hr hx, hq⟩
theorem jx_vret (hd : decode Y.1 pc = .ok (.return_, 1)) (hr : Y.2.2.2.2 = none) (hq : Q none M) : jx G Y d c0 s0 M pc lc [] Q := ⟨_, _, jw_vret hd hr, hq⟩
theorem jx_aret {a : Option (Nat × Nat)} {C : String} (hd : decode Y.1 pc = .ok (.areturn, 1)) (hr : Y.2.2.2.2 = some (.object C)) (hq : Q (some (.inr a)) M) : jx G Y d c0 s0 M pc lc [.inr a] Q := ⟨_, _, jw_aret hd hr, hq⟩
theorem jx_if_eq {x : Int32} {off : Int} (tgt : Nat) (hd : decode Y.1 pc = .ok (.ifCond .eq off, 3)) (ht : (pc : Int) + off = (tgt : Int)) (kt : x = 0 → jx G Y d c0 s0 M tgt lc st Q) (kf : ¬ x = 0 → jx G Y d c0 s0 M (pc + 3) lc st Q) : jx G Y d c0 s0 M pc lc (.inl x :: st) Q := by
  rcases Classical.em (x = 0) with h | h
  · exact jx_of (fun r M' k => jw_if_eq tgt hd ht (fun _ => k) (fun q => absurd h q)) (kt h)
  · exact jx_of (fun r M' k => jw_if_eq tgt hd ht (fun q => absurd q h) (fun _ => k)) (kf h)
theorem jx_if_ne {x : Int32} {off : Int} (tgt : Nat) (hd : decode Y.1 pc = .ok (.ifCond .ne off, 3)) (ht : (pc : Int) + off = (tgt : Int)) (kt : ¬ x = 0 → jx G Y d c0 s0 M tgt lc st Q) (kf : x = 0 → jx G Y d c0 s0 M (pc + 3) lc st Q) : jx G Y d c0 s0 M pc lc (.inl x :: st) Q := by
  rcases Classical.em (x = 0) with h | h
  · exact jx_of (fun r M' k => jw_if_ne tgt hd ht (fun q => absurd h q) (fun _ => k)) (kf h)
  · exact jx_of (fun r M' k => jw_if_ne tgt hd ht (fun _ => k) (fun q => absurd q h)) (kt h)
theorem jx_if_lt {x : Int32} {off : Int} (tgt : Nat) (hd : decode Y.1 pc = .ok (.ifCond .lt off, 3)) (ht : (pc : Int) + off = (tgt : Int)) (kt : x < 0 → jx G Y d c0 s0 M tgt lc st Q) (kf : ¬ x < 0 → jx G Y d c0 s0 M (pc + 3) lc st Q) : jx G Y d c0 s0 M pc lc (.inl x :: st) Q := by
  rcases Classical.em (x < 0) with h | h
  · exact jx_of (fun r M' k => jw_if_lt tgt hd ht (fun _ => k) (fun q => absurd h q)) (kt h)
  · exact jx_of (fun r M' k => jw_if_lt tgt hd ht (fun q => absurd q h) (fun _ => k)) (kf h)
theorem jx_if_ge {x : Int32} {off : Int} (tgt : Nat) (hd : decode Y.1 pc = .ok (.ifCond .ge off, 3)) (ht : (pc : Int) + off = (tgt : Int)) (kt : 0 ≤ x → jx G Y d c0 s0 M tgt lc st Q) (kf : ¬ 0 ≤ x → jx G Y d c0 s0 M (pc + 3) lc st Q) : jx G Y d c0 s0 M pc lc (.inl x :: st) Q := by
  rcases Classical.em (0 ≤ x) with h | h
  · exact jx_of (fun r M' k => jw_if_ge tgt hd ht (fun _ => k) (fun q => absurd h q)) (kt h)
  · exact jx_of (fun r M' k => jw_if_ge tgt hd ht (fun q => absurd q h) (fun _ => k)) (kf h)
theorem jx_if_gt {x : Int32} {off : Int} (tgt : Nat) (hd : decode Y.1 pc = .ok (.ifCond .gt off, 3)) (ht : (pc : Int) + off = (tgt : Int)) (kt : 0 < x → jx G Y d c0 s0 M tgt lc st Q) (kf : ¬ 0 < x → jx G Y d c0 s0 M (pc + 3) lc st Q) : jx G Y d c0 s0 M pc lc (.inl x :: st) Q := by
  rcases Classical.em (0 < x) with h | h
  · exact jx_of (fun r M' k => jw_if_gt tgt hd ht (fun _ => k) (fun q => absurd h q)) (kt h)
  · exact jx_of (fun r M' k => jw_if_gt tgt hd ht (fun q => absurd q h) (fun _ => k)) (kf h)
theorem jx_if_le {x : Int32} {off : Int} (tgt : Nat) (hd : decode Y.1 pc = .ok (.ifCond .le off, 3)) (ht : (pc : Int) + off = (tgt : Int)) (kt : x ≤ 0 → jx G Y d c0 s0 M tgt lc st Q) (kf : ¬ x ≤ 0 → jx G Y d c0 s0 M (pc + 3) lc st Q) : jx G Y d c0 s0 M pc lc (.inl x :: st) Q := by
  rcases Classical.em (x ≤ 0) with h | h
  · exact jx_of (fun r M' k => jw_if_le tgt hd ht (fun _ => k) (fun q => absurd h q)) (kt h)
  · exact jx_of (fun r M' k => jw_if_le tgt hd ht (fun q => absurd q h) (fun _ => k)) (kf h)
theorem jx_icmp_eq {x y : Int32} {off : Int} (tgt : Nat) (hd : decode Y.1 pc = .ok (.if_icmp .eq off, 3)) (ht : (pc : Int) + off = (tgt : Int)) (kt : x = y → jx G Y d c0 s0 M tgt lc st Q) (kf : ¬ x = y → jx G Y d c0 s0 M (pc + 3) lc st Q) : jx G Y d c0 s0 M pc lc (.inl y :: .inl x :: st) Q := by
  rcases Classical.em (x = y) with h | h
  · exact jx_of (fun r M' k => jw_icmp_eq tgt hd ht (fun _ => k) (fun q => absurd h q)) (kt h)
  · exact jx_of (fun r M' k => jw_icmp_eq tgt hd ht (fun q => absurd q h) (fun _ => k)) (kf h)
theorem jx_icmp_ne {x y : Int32} {off : Int} (tgt : Nat) (hd : decode Y.1 pc = .ok (.if_icmp .ne off, 3)) (ht : (pc : Int) + off = (tgt : Int)) (kt : ¬ x = y → jx G Y d c0 s0 M tgt lc st Q) (kf : x = y → jx G Y d c0 s0 M (pc + 3) lc st Q) : jx G Y d c0 s0 M pc lc (.inl y :: .inl x :: st) Q := by
  rcases Classical.em (x = y) with h | h
  · exact jx_of (fun r M' k => jw_icmp_ne tgt hd ht (fun q => absurd h q) (fun _ => k)) (kf h)
  · exact jx_of (fun r M' k => jw_icmp_ne tgt hd ht (fun _ => k) (fun q => absurd q h)) (kt h)
theorem jx_icmp_lt {x y : Int32} {off : Int} (tgt : Nat) (hd : decode Y.1 pc = .ok (.if_icmp .lt off, 3)) (ht : (pc : Int) + off = (tgt : Int)) (kt : x < y → jx G Y d c0 s0 M tgt lc st Q) (kf : ¬ x < y → jx G Y d c0 s0 M (pc + 3) lc st Q) : jx G Y d c0 s0 M pc lc (.inl y :: .inl x :: st) Q := by
  rcases Classical.em (x < y) with h | h
  · exact jx_of (fun r M' k => jw_icmp_lt tgt hd ht (fun _ => k) (fun q => absurd h q)) (kt h)
  · exact jx_of (fun r M' k => jw_icmp_lt tgt hd ht (fun q => absurd q h) (fun _ => k)) (kf h)
theorem jx_icmp_ge {x y : Int32} {off : Int} (tgt : Nat) (hd : decode Y.1 pc = .ok (.if_icmp .ge off, 3)) (ht : (pc : Int) + off = (tgt : Int)) (kt : y ≤ x → jx G Y d c0 s0 M tgt lc st Q) (kf : ¬ y ≤ x → jx G Y d c0 s0 M (pc + 3) lc st Q) : jx G Y d c0 s0 M pc lc (.inl y :: .inl x :: st) Q := by
  rcases Classical.em (y ≤ x) with h | h
  · exact jx_of (fun r M' k => jw_icmp_ge tgt hd ht (fun _ => k) (fun q => absurd h q)) (kt h)
  · exact jx_of (fun r M' k => jw_icmp_ge tgt hd ht (fun q => absurd q h) (fun _ => k)) (kf h)
theorem jx_icmp_gt {x y : Int32} {off : Int} (tgt : Nat) (hd : decode Y.1 pc = .ok (.if_icmp .gt off, 3)) (ht : (pc : Int) + off = (tgt : Int)) (kt : y < x → jx G Y d c0 s0 M tgt lc st Q) (kf : ¬ y < x → jx G Y d c0 s0 M (pc + 3) lc st Q) : jx G Y d c0 s0 M pc lc (.inl y :: .inl x :: st) Q := by
  rcases Classical.em (y < x) with h | h
  · exact jx_of (fun r M' k => jw_icmp_gt tgt hd ht (fun _ => k) (fun q => absurd h q)) (kt h)
  · exact jx_of (fun r M' k => jw_icmp_gt tgt hd ht (fun q => absurd q h) (fun _ => k)) (kf h)
theorem jx_icmp_le {x y : Int32} {off : Int} (tgt : Nat) (hd : decode Y.1 pc = .ok (.if_icmp .le off, 3)) (ht : (pc : Int) + off = (tgt : Int)) (kt : x ≤ y → jx G Y d c0 s0 M tgt lc st Q) (kf : ¬ x ≤ y → jx G Y d c0 s0 M (pc + 3) lc st Q) : jx G Y d c0 s0 M pc lc (.inl y :: .inl x :: st) Q := by
  rcases Classical.em (x ≤ y) with h | h
  · exact jx_of (fun r M' k => jw_icmp_le tgt hd ht (fun _ => k) (fun q => absurd h q)) (kt h)
  · exact jx_of (fun r M' k => jw_icmp_le tgt hd ht (fun q => absurd q h) (fun _ => k)) (kf h)
theorem jx_ifnull {o : Option (Nat × Nat)} {off : Int} (tgt : Nat) (hd : decode Y.1 pc = .ok (.ifnull off, 3)) (ht : (pc : Int) + off = (tgt : Int)) (kt : o = none → jx G Y d c0 s0 M tgt lc st Q) (kf : ∀ a, o = some a → jx G Y d c0 s0 M (pc + 3) lc st Q) : jx G Y d c0 s0 M pc lc (.inr o :: st) Q := by
  cases o with
  | none => exact jx_of (fun r M' k => jw_ifnull tgt hd ht (fun _ => k) (fun _ h => by cases h)) (kt rfl)
  | some a => exact jx_of (fun r M' k => jw_ifnull tgt hd ht (fun h => by cases h) (fun _ _ => k)) (kf a rfl)
theorem jx_ifnonnull {o : Option (Nat × Nat)} {off : Int} (tgt : Nat) (hd : decode Y.1 pc = .ok (.ifnonnull off, 3)) (ht : (pc : Int) + off = (tgt : Int)) (kt : ∀ a, o = some a → jx G Y d c0 s0 M tgt lc st Q) (kf : o = none → jx G Y d c0 s0 M (pc + 3) lc st Q) : jx G Y d c0 s0 M pc lc (.inr o :: st) Q := by
  cases o with
  | none => exact jx_of (fun r M' k => jw_ifnonnull tgt hd ht (fun _ h => by cases h) (fun _ => k)) (kf rfl)
  | some a => exact jx_of (fun r M' k => jw_ifnonnull tgt hd ht (fun _ _ => k) (fun h => by cases h)) (kt a rfl)
theorem jx_callS {Yz : Yt} {z : MethodName} {as : List AV} {index n : Nat} {Q1 : Option AV → Me → Prop} (hsx : sx G Yz z d as M Q1) (hm : mt_ok Yz z n) (hl : Cond.methodLink Y.2.2.1 index z ∈ TS) (hst2 : Cond.static z ∈ TS) (hd : decode Y.1 pc = .ok (.invokestatic index, 3)) (hn : as.length = n) (hstk : stk = as.reverse ++ st) (hw : st.length ≤ 8)
    (kk : ∀ (r1 : Option AV) (M1 : Me), Q1 r1 M1 → jx G Y (d + 1) c0 s0 M1 (pc + 3) lc (r1.toList ++ st) Q) : jx G Y (d + 1) c0 s0 M pc lc stk Q := by
  obtain ⟨r1, M1, h1, h2⟩ := hsx
  exact jx_of (fun r M' k => jw_callS h1 hm hl hst2 hd hn hstk hw k) (kk r1 M1 h2)
theorem jx_callI {Yz : Yt} {z : MethodName} {As : List AV} {index n s1 i1 : Nat} {Q1 : Option AV → Me → Prop} (hsx : sx G Yz z d (.inr (some (s1, i1)) :: As) M Q1) (hm : mt_ok Yz z n) (hrt : Yz.2.2.2.2 = none) (hnm : z.name = "<init>") (hl : Cond.methodLink Y.2.2.1 index z ∈ TS) (hin : Cond.instanceMethod z ∈ TS) (hd : decode Y.1 pc = .ok (.invokespecial index, 3)) (hn : As.length = n) (hstk : stk = As.reverse ++ .inr (some (s1, i1)) :: st) (hw : st.length ≤ 8)
    (hno : ∀ r1 M1, Q1 r1 M1 → r1 = none) (kk : ∀ (M1 : Me), Q1 none M1 → jx G Y (d + 1) c0 s0 M1 (pc + 3) lc st Q) : jx G Y (d + 1) c0 s0 M pc lc stk Q := by
  obtain ⟨r1, M1, h1, h2⟩ := hsx
  have h3 := hno r1 M1 h2
  subst h3
  exact jx_of (fun r M' k => jw_callI h1 hm hrt hnm hl hin hd hn hstk hw k) (kk M1 h2)
theorem jx_callIN {Yz : Yt} {z : MethodName} {As : List AV} {index n s1 i1 : Nat} {host : String} {Q1 : Option AV → Me → Prop} (hsx : sx G Yz z d (.inr (some (s1, i1)) :: As) M Q1) (hm : mt_ok Yz z n) (hrt : Yz.2.2.2.2 = none) (hnm : z.name = "<init>") (hl : Cond.methodLinkNest Y.2.2.1 index z host ∈ nest_w) (hin : Cond.instanceMethod z ∈ TS) (hd : decode Y.1 pc = .ok (.invokespecial index, 3)) (hn : As.length = n) (hstk : stk = As.reverse ++ .inr (some (s1, i1)) :: st) (hw : st.length ≤ 8)
    (hno : ∀ r1 M1, Q1 r1 M1 → r1 = none) (kk : ∀ (M1 : Me), Q1 none M1 → jx G Y (d + 1) c0 s0 M1 (pc + 3) lc st Q) : jx G Y (d + 1) c0 s0 M pc lc stk Q := by
  obtain ⟨r1, M1, h1, h2⟩ := hsx
  have h3 := hno r1 M1 h2
  subst h3
  exact jx_of (fun r M' k => jw_callIN h1 hm hrt hnm hl hin hd hn hstk hw k) (kk M1 h2)
theorem jx_callV {Yz : Yt} {z : MethodName} {As : List AV} {index n s1 i1 ci : Nat} {T : u_T} {N : Nat} {ty : Nat → FieldType} {Q1 : Option AV → Me → Prop} (hsx : sx G Yz z d (.inr (some (s1, i1)) :: As) M Q1) (hm : mt_ok Yz z n) (hcf : cf_ok ci z.cls T N ty) (hs1 : sk s1 = .inl ci) (ht1 : st_is s1 = false) (hl : Cond.methodLink Y.2.2.1 index z ∈ TS) (hin : Cond.instanceMethod z ∈ TS) (hse : Cond.selects z.cls z z ∈ TS) (hd : decode Y.1 pc = .ok (.invokevirtual index, 3)) (hn : As.length = n) (hstk : stk = As.reverse ++ .inr (some (s1, i1)) :: st) (hw : st.length ≤ 8)
    (kk : ∀ (r1 : Option AV) (M1 : Me), Q1 r1 M1 → jx G Y (d + 1) c0 s0 M1 (pc + 3) lc (r1.toList ++ st) Q) : jx G Y (d + 1) c0 s0 M pc lc stk Q := by
  obtain ⟨r1, M1, h1, h2⟩ := hsx
  exact jx_of (fun r M' k => jw_callV h1 hm hcf hs1 ht1 hl hin hse hd hn hstk hw k) (kk r1 M1 h2)
end RowsX
end
