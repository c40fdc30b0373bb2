section
-- ===== PART A: goes FIRST, ahead of the names: the tables' words, and 'selects' of the private methods out of them =====
/-- a private method of a class that the tables say can be made, by its rows of tables_1 -/
def lw_okq (q : MethodName × Nat) : Prop := (q.1.cls ≠ "java/lang/invoke/MethodHandle" ∧ q.1.cls ≠ "java/lang/invoke/VarHandle") ∧ Cond.instantiable q.1.cls q.2 ∈ tables_1 ∧ Cond.privateMethod q.1 ∈ tables_1 ∧ Cond.instanceMethod q.1 ∈ tables_1
theorem lw_p0 : lw_okq (⟨"PollYard", "makeTask", "(I)I"⟩, 14) := ⟨⟨by decide +kernel, by decide +kernel⟩, List.mem_of_getElem? (i := 11) (by decide +kernel), List.mem_of_getElem? (i := 216) (by decide +kernel), List.mem_of_getElem? (i := 217) (by decide +kernel)⟩
theorem lw_p1 : lw_okq (⟨"PollYard", "injectWoken", "()V"⟩, 14) := ⟨⟨by decide +kernel, by decide +kernel⟩, List.mem_of_getElem? (i := 11) (by decide +kernel), List.mem_of_getElem? (i := 273) (by decide +kernel), List.mem_of_getElem? (i := 274) (by decide +kernel)⟩
theorem lw_p2 : lw_okq (⟨"PollYard", "takeTurn", "(LPollYard$Worker;)I"⟩, 14) := ⟨⟨by decide +kernel, by decide +kernel⟩, List.mem_of_getElem? (i := 11) (by decide +kernel), List.mem_of_getElem? (i := 285) (by decide +kernel), List.mem_of_getElem? (i := 286) (by decide +kernel)⟩
theorem lw_p3 : lw_okq (⟨"PollYard", "nextTask", "(LPollYard$Worker;)I"⟩, 14) := ⟨⟨by decide +kernel, by decide +kernel⟩, List.mem_of_getElem? (i := 11) (by decide +kernel), List.mem_of_getElem? (i := 289) (by decide +kernel), List.mem_of_getElem? (i := 290) (by decide +kernel)⟩
theorem lw_p4 : lw_okq (⟨"PollYard$Row", "removeAt", "(I)V"⟩, 2) := ⟨⟨by decide +kernel, by decide +kernel⟩, List.mem_of_getElem? (i := 55) (by decide +kernel), List.mem_of_getElem? (i := 306) (by decide +kernel), List.mem_of_getElem? (i := 307) (by decide +kernel)⟩
theorem lw_p5 : lw_okq (⟨"PollYard", "steal", "(LPollYard$Worker;)I"⟩, 14) := ⟨⟨by decide +kernel, by decide +kernel⟩, List.mem_of_getElem? (i := 11) (by decide +kernel), List.mem_of_getElem? (i := 310) (by decide +kernel), List.mem_of_getElem? (i := 311) (by decide +kernel)⟩
theorem lw_p6 : lw_okq (⟨"PollYard", "taskAt", "(I)LPollYard$Task;"⟩, 14) := ⟨⟨by decide +kernel, by decide +kernel⟩, List.mem_of_getElem? (i := 11) (by decide +kernel), List.mem_of_getElem? (i := 314) (by decide +kernel), List.mem_of_getElem? (i := 315) (by decide +kernel)⟩
theorem lw_p7 : lw_okq (⟨"PollYard", "poll", "(LPollYard$Task;II)I"⟩, 14) := ⟨⟨by decide +kernel, by decide +kernel⟩, List.mem_of_getElem? (i := 11) (by decide +kernel), List.mem_of_getElem? (i := 318) (by decide +kernel), List.mem_of_getElem? (i := 319) (by decide +kernel)⟩
theorem lw_p8 : lw_okq (⟨"PollYard", "pollTurn", "(LPollYard$Task;II)V"⟩, 14) := ⟨⟨by decide +kernel, by decide +kernel⟩, List.mem_of_getElem? (i := 11) (by decide +kernel), List.mem_of_getElem? (i := 327) (by decide +kernel), List.mem_of_getElem? (i := 328) (by decide +kernel)⟩
theorem lw_p9 : lw_okq (⟨"PollYard", "wakeTask", "(LPollYard$Task;)V"⟩, 14) := ⟨⟨by decide +kernel, by decide +kernel⟩, List.mem_of_getElem? (i := 11) (by decide +kernel), List.mem_of_getElem? (i := 332) (by decide +kernel), List.mem_of_getElem? (i := 333) (by decide +kernel)⟩
theorem lw_p10 : lw_okq (⟨"PollYard", "pollSleep", "(LPollYard$Task;II)V"⟩, 14) := ⟨⟨by decide +kernel, by decide +kernel⟩, List.mem_of_getElem? (i := 11) (by decide +kernel), List.mem_of_getElem? (i := 336) (by decide +kernel), List.mem_of_getElem? (i := 337) (by decide +kernel)⟩
theorem lw_p11 : lw_okq (⟨"PollYard", "pollTake", "(LPollYard$Task;II)V"⟩, 14) := ⟨⟨by decide +kernel, by decide +kernel⟩, List.mem_of_getElem? (i := 11) (by decide +kernel), List.mem_of_getElem? (i := 340) (by decide +kernel), List.mem_of_getElem? (i := 341) (by decide +kernel)⟩
theorem lw_p12 : lw_okq (⟨"PollYard", "spendUnit", "(LPollYard$Task;)Z"⟩, 14) := ⟨⟨by decide +kernel, by decide +kernel⟩, List.mem_of_getElem? (i := 11) (by decide +kernel), List.mem_of_getElem? (i := 347) (by decide +kernel), List.mem_of_getElem? (i := 348) (by decide +kernel)⟩
theorem lw_p13 : lw_okq (⟨"PollYard", "addPermits", "(LPollYard$Gate;I)V"⟩, 14) := ⟨⟨by decide +kernel, by decide +kernel⟩, List.mem_of_getElem? (i := 11) (by decide +kernel), List.mem_of_getElem? (i := 355) (by decide +kernel), List.mem_of_getElem? (i := 356) (by decide +kernel)⟩
theorem lw_p14 : lw_okq (⟨"PollYard", "ownerOf", "(I)LPollYard$Task;"⟩, 14) := ⟨⟨by decide +kernel, by decide +kernel⟩, List.mem_of_getElem? (i := 11) (by decide +kernel), List.mem_of_getElem? (i := 359) (by decide +kernel), List.mem_of_getElem? (i := 360) (by decide +kernel)⟩
theorem lw_p15 : lw_okq (⟨"PollYard", "pollWait", "(LPollYard$Task;II)V"⟩, 14) := ⟨⟨by decide +kernel, by decide +kernel⟩, List.mem_of_getElem? (i := 11) (by decide +kernel), List.mem_of_getElem? (i := 366) (by decide +kernel), List.mem_of_getElem? (i := 367) (by decide +kernel)⟩
def lw_privs_1 : List (MethodName × Nat) := [(⟨"PollYard", "makeTask", "(I)I"⟩, 14), (⟨"PollYard", "injectWoken", "()V"⟩, 14), (⟨"PollYard", "takeTurn", "(LPollYard$Worker;)I"⟩, 14), (⟨"PollYard", "nextTask", "(LPollYard$Worker;)I"⟩, 14), (⟨"PollYard$Row", "removeAt", "(I)V"⟩, 2), (⟨"PollYard", "steal", "(LPollYard$Worker;)I"⟩, 14), (⟨"PollYard", "taskAt", "(I)LPollYard$Task;"⟩, 14), (⟨"PollYard", "poll", "(LPollYard$Task;II)I"⟩, 14), (⟨"PollYard", "pollTurn", "(LPollYard$Task;II)V"⟩, 14), (⟨"PollYard", "wakeTask", "(LPollYard$Task;)V"⟩, 14), (⟨"PollYard", "pollSleep", "(LPollYard$Task;II)V"⟩, 14), (⟨"PollYard", "pollTake", "(LPollYard$Task;II)V"⟩, 14), (⟨"PollYard", "spendUnit", "(LPollYard$Task;)Z"⟩, 14), (⟨"PollYard", "addPermits", "(LPollYard$Gate;I)V"⟩, 14), (⟨"PollYard", "ownerOf", "(I)LPollYard$Task;"⟩, 14), (⟨"PollYard", "pollWait", "(LPollYard$Task;II)V"⟩, 14)]
theorem lw_r1 : ∀ q ∈ lw_privs_1, lw_okq q := List.forall_mem_cons.mpr ⟨lw_p0, List.forall_mem_cons.mpr ⟨lw_p1, List.forall_mem_cons.mpr ⟨lw_p2, List.forall_mem_cons.mpr ⟨lw_p3, List.forall_mem_cons.mpr ⟨lw_p4, List.forall_mem_cons.mpr ⟨lw_p5, List.forall_mem_cons.mpr ⟨lw_p6, List.forall_mem_cons.mpr ⟨lw_p7, List.forall_mem_cons.mpr ⟨lw_p8, List.forall_mem_cons.mpr ⟨lw_p9, List.forall_mem_cons.mpr ⟨lw_p10, List.forall_mem_cons.mpr ⟨lw_p11, List.forall_mem_cons.mpr ⟨lw_p12, List.forall_mem_cons.mpr ⟨lw_p13, List.forall_mem_cons.mpr ⟨lw_p14, List.forall_mem_cons.mpr ⟨lw_p15, fun _ h => absurd h List.not_mem_nil⟩⟩⟩⟩⟩⟩⟩⟩⟩⟩⟩⟩⟩⟩⟩⟩
theorem lw_p16 : lw_okq (⟨"PollYard", "giveNotice", "(LPollYard$Notice;)Z"⟩, 14) := ⟨⟨by decide +kernel, by decide +kernel⟩, List.mem_of_getElem? (i := 11) (by decide +kernel), List.mem_of_getElem? (i := 370) (by decide +kernel), List.mem_of_getElem? (i := 371) (by decide +kernel)⟩
theorem lw_p17 : lw_okq (⟨"PollYard", "pollReap", "(LPollYard$Task;II)V"⟩, 14) := ⟨⟨by decide +kernel, by decide +kernel⟩, List.mem_of_getElem? (i := 11) (by decide +kernel), List.mem_of_getElem? (i := 374) (by decide +kernel), List.mem_of_getElem? (i := 375) (by decide +kernel)⟩
theorem lw_p18 : lw_okq (⟨"PollYard", "pollThen", "(LPollYard$Task;II)V"⟩, 14) := ⟨⟨by decide +kernel, by decide +kernel⟩, List.mem_of_getElem? (i := 11) (by decide +kernel), List.mem_of_getElem? (i := 396) (by decide +kernel), List.mem_of_getElem? (i := 397) (by decide +kernel)⟩
theorem lw_p19 : lw_okq (⟨"PollYard", "pollBoth", "(LPollYard$Task;II)V"⟩, 14) := ⟨⟨by decide +kernel, by decide +kernel⟩, List.mem_of_getElem? (i := 11) (by decide +kernel), List.mem_of_getElem? (i := 401) (by decide +kernel), List.mem_of_getElem? (i := 402) (by decide +kernel)⟩
theorem lw_p20 : lw_okq (⟨"PollYard", "drop", "(LPollYard$Task;I)V"⟩, 14) := ⟨⟨by decide +kernel, by decide +kernel⟩, List.mem_of_getElem? (i := 11) (by decide +kernel), List.mem_of_getElem? (i := 405) (by decide +kernel), List.mem_of_getElem? (i := 406) (by decide +kernel)⟩
theorem lw_p21 : lw_okq (⟨"PollYard", "pollFirst", "(LPollYard$Task;II)V"⟩, 14) := ⟨⟨by decide +kernel, by decide +kernel⟩, List.mem_of_getElem? (i := 11) (by decide +kernel), List.mem_of_getElem? (i := 418) (by decide +kernel), List.mem_of_getElem? (i := 419) (by decide +kernel)⟩
theorem lw_p22 : lw_okq (⟨"PollYard", "pollWithin", "(LPollYard$Task;II)V"⟩, 14) := ⟨⟨by decide +kernel, by decide +kernel⟩, List.mem_of_getElem? (i := 11) (by decide +kernel), List.mem_of_getElem? (i := 422) (by decide +kernel), List.mem_of_getElem? (i := 423) (by decide +kernel)⟩
theorem lw_p23 : lw_okq (⟨"PollYard", "pollAdd", "(LPollYard$Task;II)V"⟩, 14) := ⟨⟨by decide +kernel, by decide +kernel⟩, List.mem_of_getElem? (i := 11) (by decide +kernel), List.mem_of_getElem? (i := 426) (by decide +kernel), List.mem_of_getElem? (i := 427) (by decide +kernel)⟩
theorem lw_p24 : lw_okq (⟨"PollYard", "pollCatch", "(LPollYard$Task;II)V"⟩, 14) := ⟨⟨by decide +kernel, by decide +kernel⟩, List.mem_of_getElem? (i := 11) (by decide +kernel), List.mem_of_getElem? (i := 430) (by decide +kernel), List.mem_of_getElem? (i := 431) (by decide +kernel)⟩
theorem lw_p25 : lw_okq (⟨"PollYard", "wakeReapers", "(I)V"⟩, 14) := ⟨⟨by decide +kernel, by decide +kernel⟩, List.mem_of_getElem? (i := 11) (by decide +kernel), List.mem_of_getElem? (i := 438) (by decide +kernel), List.mem_of_getElem? (i := 439) (by decide +kernel)⟩
theorem lw_p26 : lw_okq (⟨"PollYard", "slotWoken", "(LPollYard$Worker;)V"⟩, 14) := ⟨⟨by decide +kernel, by decide +kernel⟩, List.mem_of_getElem? (i := 11) (by decide +kernel), List.mem_of_getElem? (i := 446) (by decide +kernel), List.mem_of_getElem? (i := 447) (by decide +kernel)⟩
theorem lw_p27 : lw_okq (⟨"PollYard", "pushToRing", "(LPollYard$Worker;I)V"⟩, 14) := ⟨⟨by decide +kernel, by decide +kernel⟩, List.mem_of_getElem? (i := 11) (by decide +kernel), List.mem_of_getElem? (i := 450) (by decide +kernel), List.mem_of_getElem? (i := 451) (by decide +kernel)⟩
theorem lw_p28 : lw_okq (⟨"PollYard", "wakeTheDue", "()V"⟩, 14) := ⟨⟨by decide +kernel, by decide +kernel⟩, List.mem_of_getElem? (i := 11) (by decide +kernel), List.mem_of_getElem? (i := 462) (by decide +kernel), List.mem_of_getElem? (i := 463) (by decide +kernel)⟩
theorem lw_p29 : lw_okq (⟨"PollYard", "unqueue", "(I)V"⟩, 14) := ⟨⟨by decide +kernel, by decide +kernel⟩, List.mem_of_getElem? (i := 11) (by decide +kernel), List.mem_of_getElem? (i := 478) (by decide +kernel), List.mem_of_getElem? (i := 479) (by decide +kernel)⟩
theorem lw_p30 : lw_okq (⟨"PollYard", "whereQueued", "(I)I"⟩, 14) := ⟨⟨by decide +kernel, by decide +kernel⟩, List.mem_of_getElem? (i := 11) (by decide +kernel), List.mem_of_getElem? (i := 494) (by decide +kernel), List.mem_of_getElem? (i := 495) (by decide +kernel)⟩
theorem lw_p31 : lw_okq (⟨"PollYard", "gotByFirst", "(LPollYard$Gate;)I"⟩, 14) := ⟨⟨by decide +kernel, by decide +kernel⟩, List.mem_of_getElem? (i := 11) (by decide +kernel), List.mem_of_getElem? (i := 514) (by decide +kernel), List.mem_of_getElem? (i := 515) (by decide +kernel)⟩
def lw_privs_2 : List (MethodName × Nat) := [(⟨"PollYard", "giveNotice", "(LPollYard$Notice;)Z"⟩, 14), (⟨"PollYard", "pollReap", "(LPollYard$Task;II)V"⟩, 14), (⟨"PollYard", "pollThen", "(LPollYard$Task;II)V"⟩, 14), (⟨"PollYard", "pollBoth", "(LPollYard$Task;II)V"⟩, 14), (⟨"PollYard", "drop", "(LPollYard$Task;I)V"⟩, 14), (⟨"PollYard", "pollFirst", "(LPollYard$Task;II)V"⟩, 14), (⟨"PollYard", "pollWithin", "(LPollYard$Task;II)V"⟩, 14), (⟨"PollYard", "pollAdd", "(LPollYard$Task;II)V"⟩, 14), (⟨"PollYard", "pollCatch", "(LPollYard$Task;II)V"⟩, 14), (⟨"PollYard", "wakeReapers", "(I)V"⟩, 14), (⟨"PollYard", "slotWoken", "(LPollYard$Worker;)V"⟩, 14), (⟨"PollYard", "pushToRing", "(LPollYard$Worker;I)V"⟩, 14), (⟨"PollYard", "wakeTheDue", "()V"⟩, 14), (⟨"PollYard", "unqueue", "(I)V"⟩, 14), (⟨"PollYard", "whereQueued", "(I)I"⟩, 14), (⟨"PollYard", "gotByFirst", "(LPollYard$Gate;)I"⟩, 14)]
theorem lw_r2 : ∀ q ∈ lw_privs_2, lw_okq q := List.forall_mem_cons.mpr ⟨lw_p16, List.forall_mem_cons.mpr ⟨lw_p17, List.forall_mem_cons.mpr ⟨lw_p18, List.forall_mem_cons.mpr ⟨lw_p19, List.forall_mem_cons.mpr ⟨lw_p20, List.forall_mem_cons.mpr ⟨lw_p21, List.forall_mem_cons.mpr ⟨lw_p22, List.forall_mem_cons.mpr ⟨lw_p23, List.forall_mem_cons.mpr ⟨lw_p24, List.forall_mem_cons.mpr ⟨lw_p25, List.forall_mem_cons.mpr ⟨lw_p26, List.forall_mem_cons.mpr ⟨lw_p27, List.forall_mem_cons.mpr ⟨lw_p28, List.forall_mem_cons.mpr ⟨lw_p29, List.forall_mem_cons.mpr ⟨lw_p30, List.forall_mem_cons.mpr ⟨lw_p31, fun _ h => absurd h List.not_mem_nil⟩⟩⟩⟩⟩⟩⟩⟩⟩⟩⟩⟩⟩⟩⟩⟩
theorem lw_p32 : lw_okq (⟨"PollYard", "tasksNotEnded", "()I"⟩, 14) := ⟨⟨by decide +kernel, by decide +kernel⟩, List.mem_of_getElem? (i := 11) (by decide +kernel), List.mem_of_getElem? (i := 522) (by decide +kernel), List.mem_of_getElem? (i := 523) (by decide +kernel)⟩
theorem lw_p33 : lw_okq (⟨"PollYardModel", "choose", "(I)I"⟩, 36) := ⟨⟨by decide +kernel, by decide +kernel⟩, List.mem_of_getElem? (i := 526) (by decide +kernel), List.mem_of_getElem? (i := 667) (by decide +kernel), List.mem_of_getElem? (i := 668) (by decide +kernel)⟩
theorem lw_p34 : lw_okq (⟨"PollYardModel", "shiftInjector", "()I"⟩, 36) := ⟨⟨by decide +kernel, by decide +kernel⟩, List.mem_of_getElem? (i := 526) (by decide +kernel), List.mem_of_getElem? (i := 671) (by decide +kernel), List.mem_of_getElem? (i := 672) (by decide +kernel)⟩
theorem lw_p35 : lw_okq (⟨"PollYardModel", "shift", "(I)I"⟩, 36) := ⟨⟨by decide +kernel, by decide +kernel⟩, List.mem_of_getElem? (i := 526) (by decide +kernel), List.mem_of_getElem? (i := 675) (by decide +kernel), List.mem_of_getElem? (i := 676) (by decide +kernel)⟩
theorem lw_p36 : lw_okq (⟨"PollYardModel", "toRing", "(II)V"⟩, 36) := ⟨⟨by decide +kernel, by decide +kernel⟩, List.mem_of_getElem? (i := 526) (by decide +kernel), List.mem_of_getElem? (i := 679) (by decide +kernel), List.mem_of_getElem? (i := 680) (by decide +kernel)⟩
theorem lw_p37 : lw_okq (⟨"PollYardModel", "inject", "(I)V"⟩, 36) := ⟨⟨by decide +kernel, by decide +kernel⟩, List.mem_of_getElem? (i := 526) (by decide +kernel), List.mem_of_getElem? (i := 683) (by decide +kernel), List.mem_of_getElem? (i := 684) (by decide +kernel)⟩
theorem lw_p38 : lw_okq (⟨"PollYardModel", "work", "(II)V"⟩, 36) := ⟨⟨by decide +kernel, by decide +kernel⟩, List.mem_of_getElem? (i := 526) (by decide +kernel), List.mem_of_getElem? (i := 687) (by decide +kernel), List.mem_of_getElem? (i := 688) (by decide +kernel)⟩
theorem lw_p39 : lw_okq (⟨"PollYardModel", "poll", "(I)V"⟩, 36) := ⟨⟨by decide +kernel, by decide +kernel⟩, List.mem_of_getElem? (i := 526) (by decide +kernel), List.mem_of_getElem? (i := 691) (by decide +kernel), List.mem_of_getElem? (i := 692) (by decide +kernel)⟩
theorem lw_p40 : lw_okq (⟨"PollYardModel", "opOf", "(II)I"⟩, 36) := ⟨⟨by decide +kernel, by decide +kernel⟩, List.mem_of_getElem? (i := 526) (by decide +kernel), List.mem_of_getElem? (i := 695) (by decide +kernel), List.mem_of_getElem? (i := 696) (by decide +kernel)⟩
theorem lw_p41 : lw_okq (⟨"PollYardModel", "leaf", "(III)V"⟩, 36) := ⟨⟨by decide +kernel, by decide +kernel⟩, List.mem_of_getElem? (i := 526) (by decide +kernel), List.mem_of_getElem? (i := 699) (by decide +kernel), List.mem_of_getElem? (i := 700) (by decide +kernel)⟩
theorem lw_p42 : lw_okq (⟨"PollYardModel", "argOf", "(II)I"⟩, 36) := ⟨⟨by decide +kernel, by decide +kernel⟩, List.mem_of_getElem? (i := 526) (by decide +kernel), List.mem_of_getElem? (i := 703) (by decide +kernel), List.mem_of_getElem? (i := 704) (by decide +kernel)⟩
theorem lw_p43 : lw_okq (⟨"PollYardModel", "ready", "(II)V"⟩, 36) := ⟨⟨by decide +kernel, by decide +kernel⟩, List.mem_of_getElem? (i := 526) (by decide +kernel), List.mem_of_getElem? (i := 707) (by decide +kernel), List.mem_of_getElem? (i := 708) (by decide +kernel)⟩
theorem lw_p44 : lw_okq (⟨"PollYardModel", "wakeUp", "(I)V"⟩, 36) := ⟨⟨by decide +kernel, by decide +kernel⟩, List.mem_of_getElem? (i := 526) (by decide +kernel), List.mem_of_getElem? (i := 711) (by decide +kernel), List.mem_of_getElem? (i := 712) (by decide +kernel)⟩
theorem lw_p45 : lw_okq (⟨"PollYardModel", "pending", "(I)V"⟩, 36) := ⟨⟨by decide +kernel, by decide +kernel⟩, List.mem_of_getElem? (i := 526) (by decide +kernel), List.mem_of_getElem? (i := 715) (by decide +kernel), List.mem_of_getElem? (i := 716) (by decide +kernel)⟩
theorem lw_p46 : lw_okq (⟨"PollYardModel", "take", "(III)V"⟩, 36) := ⟨⟨by decide +kernel, by decide +kernel⟩, List.mem_of_getElem? (i := 526) (by decide +kernel), List.mem_of_getElem? (i := 719) (by decide +kernel), List.mem_of_getElem? (i := 720) (by decide +kernel)⟩
theorem lw_p47 : lw_okq (⟨"PollYardModel", "firstAt", "(II)I"⟩, 36) := ⟨⟨by decide +kernel, by decide +kernel⟩, List.mem_of_getElem? (i := 526) (by decide +kernel), List.mem_of_getElem? (i := 726) (by decide +kernel), List.mem_of_getElem? (i := 727) (by decide +kernel)⟩
def lw_privs_3 : List (MethodName × Nat) := [(⟨"PollYard", "tasksNotEnded", "()I"⟩, 14), (⟨"PollYardModel", "choose", "(I)I"⟩, 36), (⟨"PollYardModel", "shiftInjector", "()I"⟩, 36), (⟨"PollYardModel", "shift", "(I)I"⟩, 36), (⟨"PollYardModel", "toRing", "(II)V"⟩, 36), (⟨"PollYardModel", "inject", "(I)V"⟩, 36), (⟨"PollYardModel", "work", "(II)V"⟩, 36), (⟨"PollYardModel", "poll", "(I)V"⟩, 36), (⟨"PollYardModel", "opOf", "(II)I"⟩, 36), (⟨"PollYardModel", "leaf", "(III)V"⟩, 36), (⟨"PollYardModel", "argOf", "(II)I"⟩, 36), (⟨"PollYardModel", "ready", "(II)V"⟩, 36), (⟨"PollYardModel", "wakeUp", "(I)V"⟩, 36), (⟨"PollYardModel", "pending", "(I)V"⟩, 36), (⟨"PollYardModel", "take", "(III)V"⟩, 36), (⟨"PollYardModel", "firstAt", "(II)I"⟩, 36)]
theorem lw_r3 : ∀ q ∈ lw_privs_3, lw_okq q := List.forall_mem_cons.mpr ⟨lw_p32, List.forall_mem_cons.mpr ⟨lw_p33, List.forall_mem_cons.mpr ⟨lw_p34, List.forall_mem_cons.mpr ⟨lw_p35, List.forall_mem_cons.mpr ⟨lw_p36, List.forall_mem_cons.mpr ⟨lw_p37, List.forall_mem_cons.mpr ⟨lw_p38, List.forall_mem_cons.mpr ⟨lw_p39, List.forall_mem_cons.mpr ⟨lw_p40, List.forall_mem_cons.mpr ⟨lw_p41, List.forall_mem_cons.mpr ⟨lw_p42, List.forall_mem_cons.mpr ⟨lw_p43, List.forall_mem_cons.mpr ⟨lw_p44, List.forall_mem_cons.mpr ⟨lw_p45, List.forall_mem_cons.mpr ⟨lw_p46, List.forall_mem_cons.mpr ⟨lw_p47, fun _ h => absurd h List.not_mem_nil⟩⟩⟩⟩⟩⟩⟩⟩⟩⟩⟩⟩⟩⟩⟩⟩
theorem lw_p48 : lw_okq (⟨"PollYardModel", "spends", "(I)Z"⟩, 36) := ⟨⟨by decide +kernel, by decide +kernel⟩, List.mem_of_getElem? (i := 526) (by decide +kernel), List.mem_of_getElem? (i := 730) (by decide +kernel), List.mem_of_getElem? (i := 731) (by decide +kernel)⟩
theorem lw_p49 : lw_okq (⟨"PollYardModel", "add", "(II)V"⟩, 36) := ⟨⟨by decide +kernel, by decide +kernel⟩, List.mem_of_getElem? (i := 526) (by decide +kernel), List.mem_of_getElem? (i := 734) (by decide +kernel), List.mem_of_getElem? (i := 735) (by decide +kernel)⟩
theorem lw_p50 : lw_okq (⟨"PollYardModel", "await", "(III)V"⟩, 36) := ⟨⟨by decide +kernel, by decide +kernel⟩, List.mem_of_getElem? (i := 526) (by decide +kernel), List.mem_of_getElem? (i := 738) (by decide +kernel), List.mem_of_getElem? (i := 739) (by decide +kernel)⟩
theorem lw_p51 : lw_okq (⟨"PollYardModel", "give", "(I)Z"⟩, 36) := ⟨⟨by decide +kernel, by decide +kernel⟩, List.mem_of_getElem? (i := 526) (by decide +kernel), List.mem_of_getElem? (i := 742) (by decide +kernel), List.mem_of_getElem? (i := 743) (by decide +kernel)⟩
theorem lw_p52 : lw_okq (⟨"PollYardModel", "make", "(I)I"⟩, 36) := ⟨⟨by decide +kernel, by decide +kernel⟩, List.mem_of_getElem? (i := 526) (by decide +kernel), List.mem_of_getElem? (i := 746) (by decide +kernel), List.mem_of_getElem? (i := 747) (by decide +kernel)⟩
theorem lw_p53 : lw_okq (⟨"PollYardModel", "broken", "(II)V"⟩, 36) := ⟨⟨by decide +kernel, by decide +kernel⟩, List.mem_of_getElem? (i := 526) (by decide +kernel), List.mem_of_getElem? (i := 750) (by decide +kernel), List.mem_of_getElem? (i := 751) (by decide +kernel)⟩
theorem lw_p54 : lw_okq (⟨"PollYardModel", "step", "(IIII)I"⟩, 36) := ⟨⟨by decide +kernel, by decide +kernel⟩, List.mem_of_getElem? (i := 526) (by decide +kernel), List.mem_of_getElem? (i := 754) (by decide +kernel), List.mem_of_getElem? (i := 755) (by decide +kernel)⟩
theorem lw_p55 : lw_okq (⟨"PollYardModel", "end", "(II)I"⟩, 36) := ⟨⟨by decide +kernel, by decide +kernel⟩, List.mem_of_getElem? (i := 526) (by decide +kernel), List.mem_of_getElem? (i := 758) (by decide +kernel), List.mem_of_getElem? (i := 759) (by decide +kernel)⟩
theorem lw_p56 : lw_okq (⟨"PollYardModel", "drop", "(II)V"⟩, 36) := ⟨⟨by decide +kernel, by decide +kernel⟩, List.mem_of_getElem? (i := 526) (by decide +kernel), List.mem_of_getElem? (i := 762) (by decide +kernel), List.mem_of_getElem? (i := 763) (by decide +kernel)⟩
theorem lw_p57 : lw_okq (⟨"PollYardModel", "reap", "(III)V"⟩, 36) := ⟨⟨by decide +kernel, by decide +kernel⟩, List.mem_of_getElem? (i := 526) (by decide +kernel), List.mem_of_getElem? (i := 766) (by decide +kernel), List.mem_of_getElem? (i := 767) (by decide +kernel)⟩
theorem lw_p58 : lw_okq (⟨"PollYardModel", "ends", "(III)V"⟩, 36) := ⟨⟨by decide +kernel, by decide +kernel⟩, List.mem_of_getElem? (i := 526) (by decide +kernel), List.mem_of_getElem? (i := 770) (by decide +kernel), List.mem_of_getElem? (i := 771) (by decide +kernel)⟩
theorem lw_p59 : lw_okq (⟨"PollYardModel", "tellReapers", "(I)V"⟩, 36) := ⟨⟨by decide +kernel, by decide +kernel⟩, List.mem_of_getElem? (i := 526) (by decide +kernel), List.mem_of_getElem? (i := 774) (by decide +kernel), List.mem_of_getElem? (i := 775) (by decide +kernel)⟩
theorem lw_p60 : lw_okq (⟨"PollYardModel", "unqueue", "(I)V"⟩, 36) := ⟨⟨by decide +kernel, by decide +kernel⟩, List.mem_of_getElem? (i := 526) (by decide +kernel), List.mem_of_getElem? (i := 795) (by decide +kernel), List.mem_of_getElem? (i := 796) (by decide +kernel)⟩
theorem lw_p61 : lw_okq (⟨"PollYardModel", "waiting", "(II)I"⟩, 36) := ⟨⟨by decide +kernel, by decide +kernel⟩, List.mem_of_getElem? (i := 526) (by decide +kernel), List.mem_of_getElem? (i := 823) (by decide +kernel), List.mem_of_getElem? (i := 824) (by decide +kernel)⟩
def lw_privs_4 : List (MethodName × Nat) := [(⟨"PollYardModel", "spends", "(I)Z"⟩, 36), (⟨"PollYardModel", "add", "(II)V"⟩, 36), (⟨"PollYardModel", "await", "(III)V"⟩, 36), (⟨"PollYardModel", "give", "(I)Z"⟩, 36), (⟨"PollYardModel", "make", "(I)I"⟩, 36), (⟨"PollYardModel", "broken", "(II)V"⟩, 36), (⟨"PollYardModel", "step", "(IIII)I"⟩, 36), (⟨"PollYardModel", "end", "(II)I"⟩, 36), (⟨"PollYardModel", "drop", "(II)V"⟩, 36), (⟨"PollYardModel", "reap", "(III)V"⟩, 36), (⟨"PollYardModel", "ends", "(III)V"⟩, 36), (⟨"PollYardModel", "tellReapers", "(I)V"⟩, 36), (⟨"PollYardModel", "unqueue", "(I)V"⟩, 36), (⟨"PollYardModel", "waiting", "(II)I"⟩, 36)]
theorem lw_r4 : ∀ q ∈ lw_privs_4, lw_okq q := List.forall_mem_cons.mpr ⟨lw_p48, List.forall_mem_cons.mpr ⟨lw_p49, List.forall_mem_cons.mpr ⟨lw_p50, List.forall_mem_cons.mpr ⟨lw_p51, List.forall_mem_cons.mpr ⟨lw_p52, List.forall_mem_cons.mpr ⟨lw_p53, List.forall_mem_cons.mpr ⟨lw_p54, List.forall_mem_cons.mpr ⟨lw_p55, List.forall_mem_cons.mpr ⟨lw_p56, List.forall_mem_cons.mpr ⟨lw_p57, List.forall_mem_cons.mpr ⟨lw_p58, List.forall_mem_cons.mpr ⟨lw_p59, List.forall_mem_cons.mpr ⟨lw_p60, List.forall_mem_cons.mpr ⟨lw_p61, fun _ h => absurd h List.not_mem_nil⟩⟩⟩⟩⟩⟩⟩⟩⟩⟩⟩⟩⟩⟩
def lw_privs : List (MethodName × Nat) := lw_privs_1 ++ (lw_privs_2 ++ (lw_privs_3 ++ (lw_privs_4)))
def lw_tbl : List Cond := k2_sels lw_privs ++ tables_1
theorem lw_privs_ok : ∀ q ∈ lw_privs, lw_okq q := by
  show ∀ q ∈ lw_privs_1 ++ (lw_privs_2 ++ (lw_privs_3 ++ (lw_privs_4))), lw_okq q
  exact List.forall_mem_append.mpr ⟨lw_r1, List.forall_mem_append.mpr ⟨lw_r2, List.forall_mem_append.mpr ⟨lw_r3, lw_r4⟩⟩⟩
def TS : List Cond := lw_tbl.filter goodWord
theorem ts_in {w : Cond} (h : w ∈ lw_tbl) (g : goodWord w = true) : w ∈ TS := List.mem_filter.mpr ⟨h, g⟩
theorem ts_word {w : Cond} (h : w ∈ TS) : goodWord w = true := (List.mem_filter.mp h).2
theorem ts_tbl {w : Cond} (h : w ∈ TS) : w ∈ lw_tbl := (List.mem_filter.mp h).1
theorem tm_1 {w : Cond} (h : w ∈ tables_1_1) : w ∈ lw_tbl := List.mem_append_right _ (show w ∈ tables_1 from (List.mem_append_left _ h))
theorem tn_1 {w : Cond} (i : Nat) (h : tables_1_1[i]? = some w) (g : goodWord w = true) : w ∈ TS := ts_in (tm_1 (List.mem_of_getElem? h)) g
theorem tm_2 {w : Cond} (h : w ∈ tables_1_2) : w ∈ lw_tbl := List.mem_append_right _ (show w ∈ tables_1 from (List.mem_append_right _ (List.mem_append_left _ h)))
theorem tn_2 {w : Cond} (i : Nat) (h : tables_1_2[i]? = some w) (g : goodWord w = true) : w ∈ TS := ts_in (tm_2 (List.mem_of_getElem? h)) g
theorem tm_3 {w : Cond} (h : w ∈ tables_1_3) : w ∈ lw_tbl := List.mem_append_right _ (show w ∈ tables_1 from (List.mem_append_right _ (List.mem_append_right _ (List.mem_append_left _ h))))
theorem tn_3 {w : Cond} (i : Nat) (h : tables_1_3[i]? = some w) (g : goodWord w = true) : w ∈ TS := ts_in (tm_3 (List.mem_of_getElem? h)) g
theorem tm_4 {w : Cond} (h : w ∈ tables_1_4) : w ∈ lw_tbl := List.mem_append_right _ (show w ∈ tables_1 from (List.mem_append_right _ (List.mem_append_right _ (List.mem_append_right _ h))))
theorem tn_4 {w : Cond} (i : Nat) (h : tables_1_4[i]? = some w) (g : goodWord w = true) : w ∈ TS := ts_in (tm_4 (List.mem_of_getElem? h)) g
theorem tn_p {w : Cond} (i : Nat) (h : (k2_sels lw_privs)[i]? = some w) (g : goodWord w = true) : w ∈ TS := ts_in (List.mem_append_left _ (List.mem_of_getElem? h)) g
end
section
def tx_Y : u_T := fun k => match k with
  | 0 => ("PollYard", "draft", "LPollYard$Program;", false)
  | 1 => ("PollYard", "programs", "[LPollYard$Program;", true)
  | 2 => ("PollYard", "programCount", "I", false)
  | 3 => ("PollYard", "tasks", "[LPollYard$Task;", true)
  | 4 => ("PollYard", "taskCount", "I", false)
  | 5 => ("PollYard", "workers", "[LPollYard$Worker;", true)
  | 6 => ("PollYard", "injector", "LPollYard$Row;", true)
  | 7 => ("PollYard", "woken", "LPollYard$Row;", true)
  | 8 => ("PollYard", "gates", "[LPollYard$Gate;", true)
  | 9 => ("PollYard", "notices", "[LPollYard$Notice;", true)
  | 10 => ("PollYard", "clock", "I", false)
  | 11 => ("PollYard", "pollings", "I", false)
  | 12 => ("PollYard", "thefts", "I", false)
  | _ => ("PollYard", "nextOfRun", "I", false)
def ty_Y : Nat → FieldType := fun k => match k with
  | 0 => .object "PollYard$Program"
  | 1 => .array (.object "PollYard$Program")
  | 2 => .int
  | 3 => .array (.object "PollYard$Task")
  | 4 => .int
  | 5 => .array (.object "PollYard$Worker")
  | 6 => .object "PollYard$Row"
  | 7 => .object "PollYard$Row"
  | 8 => .array (.object "PollYard$Gate")
  | 9 => .array (.object "PollYard$Notice")
  | 10 => .int
  | 11 => .int
  | 12 => .int
  | _ => .int
def tx_P : u_T := fun k => match k with
  | 0 => ("PollYard$Program", "ops", "[I", true)
  | 1 => ("PollYard$Program", "args", "[I", true)
  | 2 => ("PollYard$Program", "ends", "[I", true)
  | _ => ("PollYard$Program", "size", "I", false)
def ty_P : Nat → FieldType := fun k => match k with
  | 0 => .array .int
  | 1 => .array .int
  | 2 => .array .int
  | _ => .int
def tx_T : u_T := fun k => match k with
  | 0 => ("PollYard$Task", "number", "I", true)
  | 1 => ("PollYard$Task", "programNumber", "I", true)
  | 2 => ("PollYard$Task", "program", "LPollYard$Program;", true)
  | 3 => ("PollYard$Task", "standing", "I", false)
  | 4 => ("PollYard$Task", "outcome", "I", false)
  | 5 => ("PollYard$Task", "polls", "I", false)
  | 6 => ("PollYard$Task", "units", "I", false)
  | 7 => ("PollYard$Task", "noted", "Z", false)
  | 8 => ("PollYard$Task", "phase", "[I", true)
  | 9 => ("PollYard$Task", "result", "[I", true)
  | _ => ("PollYard$Task", "mark", "[I", true)
def ty_T : Nat → FieldType := fun k => match k with
  | 0 => .int
  | 1 => .int
  | 2 => .object "PollYard$Program"
  | 3 => .int
  | 4 => .int
  | 5 => .int
  | 6 => .int
  | 7 => .boolean
  | 8 => .array .int
  | 9 => .array .int
  | _ => .array .int
def tx_K : u_T := fun k => match k with
  | 0 => ("PollYard$Worker", "number", "I", true)
  | 1 => ("PollYard$Worker", "ring", "LPollYard$Row;", true)
  | 2 => ("PollYard$Worker", "slot", "I", false)
  | 3 => ("PollYard$Worker", "turns", "I", false)
  | _ => ("PollYard$Worker", "slotTurns", "I", false)
def ty_K : Nat → FieldType := fun k => match k with
  | 0 => .int
  | 1 => .object "PollYard$Row"
  | 2 => .int
  | 3 => .int
  | _ => .int
def tx_R : u_T := fun k => match k with
  | 0 => ("PollYard$Row", "items", "[I", true)
  | _ => ("PollYard$Row", "size", "I", false)
def ty_R : Nat → FieldType := fun k => match k with
  | 0 => .array .int
  | _ => .int
def tx_G : u_T := fun k => match k with
  | 0 => ("PollYard$Gate", "waiting", "LPollYard$Row;", true)
  | _ => ("PollYard$Gate", "permits", "I", false)
def ty_G : Nat → FieldType := fun k => match k with
  | 0 => .object "PollYard$Row"
  | _ => .int
def tx_N : u_T := fun k => match k with
  | 0 => ("PollYard$Notice", "waiting", "LPollYard$Row;", true)
  | _ => ("PollYard$Notice", "kept", "Z", false)
def ty_N : Nat → FieldType := fun k => match k with
  | 0 => .object "PollYard$Row"
  | _ => .boolean
def tx_M : u_T := fun k => match k with
  | 0 => ("PollYardModel", "op", "[I", true)
  | 1 => ("PollYardModel", "arg", "[I", true)
  | 2 => ("PollYardModel", "length", "[I", true)
  | 3 => ("PollYardModel", "programs", "I", false)
  | 4 => ("PollYardModel", "state", "[I", true)
  | 5 => ("PollYardModel", "value", "[I", true)
  | 6 => ("PollYardModel", "polls", "[I", true)
  | 7 => ("PollYardModel", "program", "[I", true)
  | 8 => ("PollYardModel", "units", "[I", true)
  | 9 => ("PollYardModel", "where", "[I", true)
  | 10 => ("PollYardModel", "noted", "[Z", true)
  | 11 => ("PollYardModel", "stands", "[I", true)
  | 12 => ("PollYardModel", "result", "[I", true)
  | 13 => ("PollYardModel", "own", "[I", true)
  | 14 => ("PollYardModel", "came", "[I", true)
  | 15 => ("PollYardModel", "waits", "[Z", true)
  | 16 => ("PollYardModel", "has", "[Z", true)
  | 17 => ("PollYardModel", "at", "[I", true)
  | 18 => ("PollYardModel", "stage", "[I", true)
  | 19 => ("PollYardModel", "slot", "[I", true)
  | 20 => ("PollYardModel", "turns", "[I", true)
  | 21 => ("PollYardModel", "slotRow", "[I", true)
  | 22 => ("PollYardModel", "ring", "[I", true)
  | 23 => ("PollYardModel", "rings", "[I", true)
  | 24 => ("PollYardModel", "injector", "[I", true)
  | 25 => ("PollYardModel", "permits", "[I", true)
  | 26 => ("PollYardModel", "kept", "[Z", true)
  | 27 => ("PollYardModel", "tasks", "I", false)
  | 28 => ("PollYardModel", "injected", "I", false)
  | 29 => ("PollYardModel", "clock", "I", false)
  | 30 => ("PollYardModel", "pollings", "I", false)
  | 31 => ("PollYardModel", "steals", "I", false)
  | 32 => ("PollYardModel", "next", "I", false)
  | 33 => ("PollYardModel", "orders", "I", false)
  | 34 => ("PollYardModel", "last", "I", false)
  | _ => ("PollYardModel", "worker", "I", false)
def ty_M : Nat → FieldType := fun k => match k with
  | 0 => .array .int
  | 1 => .array .int
  | 2 => .array .int
  | 3 => .int
  | 4 => .array .int
  | 5 => .array .int
  | 6 => .array .int
  | 7 => .array .int
  | 8 => .array .int
  | 9 => .array .int
  | 10 => .array .boolean
  | 11 => .array .int
  | 12 => .array .int
  | 13 => .array .int
  | 14 => .array .int
  | 15 => .array .boolean
  | 16 => .array .boolean
  | 17 => .array .int
  | 18 => .array .int
  | 19 => .array .int
  | 20 => .array .int
  | 21 => .array .int
  | 22 => .array .int
  | 23 => .array .int
  | 24 => .array .int
  | 25 => .array .int
  | 26 => .array .boolean
  | 27 => .int
  | 28 => .int
  | 29 => .int
  | 30 => .int
  | 31 => .int
  | 32 => .int
  | 33 => .int
  | 34 => .int
  | _ => .int
abbrev vwCl : List vw_C := [("PollYard", tx_Y, 14), ("PollYard$Program", tx_P, 4), ("PollYard$Task", tx_T, 11), ("PollYard$Worker", tx_K, 5), ("PollYard$Row", tx_R, 2), ("PollYard$Gate", tx_G, 2), ("PollYard$Notice", tx_N, 2), ("PollYardModel", tx_M, 36)]
def nf (ci : Nat) : Nat := match ci with
  | 0 => 14
  | 1 => 4
  | 2 => 11
  | 3 => 5
  | 4 => 2
  | 5 => 2
  | 6 => 2
  | 7 => 36
  | _ => 0
def ty_of (ci : Nat) : Nat → FieldType := match ci with
  | 0 => ty_Y
  | 1 => ty_P
  | 2 => ty_T
  | 3 => ty_K
  | 4 => ty_R
  | 5 => ty_G
  | 6 => ty_N
  | 7 => ty_M
  | _ => fun _ => .int
def fk (ci k : Nat) : Bool := match ty_of ci k with
  | .object _ => true
  | .array _ => true
  | _ => false
def sk (s : Nat) : Nat ⊕ FieldType := match s with
  | 0 => .inl 0
  | 1 => .inl 1
  | 2 => .inl 2
  | 3 => .inl 3
  | 4 => .inl 4
  | 5 => .inl 5
  | 6 => .inl 6
  | 7 => .inl 7
  | 10 => .inr (.int)
  | 11 => .inr (.int)
  | 12 => .inr (.int)
  | 13 => .inr (.int)
  | 14 => .inr (.int)
  | 15 => .inr (.int)
  | 16 => .inr (.int)
  | 17 => .inr (.object "PollYard$Program")
  | 18 => .inr (.object "PollYard$Task")
  | 19 => .inr (.object "PollYard$Worker")
  | 20 => .inr (.object "PollYard$Gate")
  | 21 => .inr (.object "PollYard$Notice")
  | 22 => .inr (.int)
  | 23 => .inr (.int)
  | 24 => .inr (.int)
  | 30 => .inr (.int)
  | 31 => .inr (.int)
  | 32 => .inr (.int)
  | 33 => .inr (.int)
  | 34 => .inr (.int)
  | 35 => .inr (.int)
  | 36 => .inr (.int)
  | 37 => .inr (.int)
  | 38 => .inr (.int)
  | 39 => .inr (.boolean)
  | 40 => .inr (.int)
  | 41 => .inr (.int)
  | 42 => .inr (.int)
  | 43 => .inr (.int)
  | 44 => .inr (.boolean)
  | 45 => .inr (.boolean)
  | 46 => .inr (.int)
  | 47 => .inr (.int)
  | 48 => .inr (.int)
  | 49 => .inr (.int)
  | 50 => .inr (.int)
  | 51 => .inr (.int)
  | 52 => .inr (.int)
  | 53 => .inr (.int)
  | 54 => .inr (.int)
  | 55 => .inr (.boolean)
  | _ => .inl 100
def st_is (s : Nat) : Bool := match s with
  | 22 => true
  | 23 => true
  | 24 => true
  | _ => false
def ar_ty (s : Nat) : Option FieldType := match sk s with
  | .inl _ => none
  | .inr t => some t
def sv_PARTS : List Int32 := [0, 0, 0, 0, 0, 0, 0, 0, 1, 0, 2, 2, 2, 1, 1, 1]
def sv_LOWEST : List Int32 := [-2147483648, 0, 1, 0, 0, 0, 0, 0, -2147483648, 1, -2147483648, -2147483648, -2147483648, 1, -2147483648, -2147483648]
def sv_HIGHEST : List Int32 := [2147483647, 3, 40, 5, 5, 1, 1, 5, 2147483647, 97, 2147483647, 2147483647, 2147483647, 40, 2147483647, 2147483647]
def st_l : List (Nat × String × List Int32) := [(22, "PARTS", sv_PARTS), (23, "LOWEST", sv_LOWEST), (24, "HIGHEST", sv_HIGHEST)]
def nest_w : List Cond := [(Jvm.Cond.methodLinkNest "PollYard" (9 : Nat) ({ cls := "PollYard$Program", name := "<init>", desc := "()V" } : Jvm.MethodName) "PollYard"), (Jvm.Cond.methodLinkNest "PollYard" (54 : Nat) ({ cls := "PollYard$Gate", name := "<init>", desc := "()V" } : Jvm.MethodName) "PollYard"), (Jvm.Cond.methodLinkNest "PollYard" (61 : Nat) ({ cls := "PollYard$Notice", name := "<init>", desc := "()V" } : Jvm.MethodName) "PollYard"), (Jvm.Cond.fieldLinkNest "PollYard$Program" (29 : Nat) "PollYard" "PARTS" "[I" "PollYard")]
def over_c : List String := ["PollYard$Program", "PollYard$Task", "PollYard$Worker", "PollYard$Gate", "PollYard$Notice"]
end
section
abbrev AV : Type := Int32 ⊕ Option (Nat × Nat)
abbrev Me : Type := (Nat → Nat → Nat → Int32) × (Nat → Nat → Nat → Option (Nat × Nat)) × (Nat → Nat → Nat) × (Nat → Nat) × Nat × Nat
abbrev Rh : Type := Nat → Nat → Nat
def me_I (M : Me) : Nat → Nat → Nat → Int32 := M.1
def me_P (M : Me) : Nat → Nat → Nat → Option (Nat × Nat) := M.2.1
def me_L (M : Me) : Nat → Nat → Nat := M.2.2.1
def me_N (M : Me) : Nat → Nat := M.2.2.2.1
def me_C (M : Me) : Nat := M.2.2.2.2.1
def me_S (M : Me) : Nat := M.2.2.2.2.2
def me_sI (M : Me) (s i k : Nat) (v : Int32) : Me := (fun a b c => if a = s ∧ b = i ∧ c = k then v else M.1 a b c, M.2)
def me_sP (M : Me) (s i k : Nat) (v : Option (Nat × Nat)) : Me := (M.1, fun a b c => if a = s ∧ b = i ∧ c = k then v else M.2.1 a b c, M.2.2)
def me_nw (M : Me) (s n sl : Nat) : Me := (fun a b c => if a = s ∧ b = me_N M s then 0 else M.1 a b c, fun a b c => if a = s ∧ b = me_N M s then none else M.2.1 a b c, fun a b => if a = s ∧ b = me_N M s then n else M.2.2.1 a b, fun a => if a = s then me_N M s + 1 else M.2.2.2.1 a, me_C M + 1, me_S M + sl)
def av_r (ρ : Rh) (o : Option (Nat × Nat)) : Option Nat := o.map (fun a => ρ a.1 a.2)
def av_tv (ρ : Rh) (v : AV) : Value := match v with
  | .inl x => .int x
  | .inr o => va_rf (av_r ρ o)
def av_okr (M : Me) (o : Option (Nat × Nat)) : Prop := ∀ a, o = some a → a.2 < me_N M a.1
def av_ok (M : Me) (v : AV) : Prop := ∀ a, v = .inr (some a) → a.2 < me_N M a.1
theorem av_ok_i {M : Me} {x : Int32} : av_ok M (.inl x) := fun _ h => by cases h
theorem av_ok_n {M : Me} : av_ok M (.inr none) := fun _ h => by cases h
theorem av_ok_r {M : Me} {o : Option (Nat × Nat)} (h : av_okr M o) : av_ok M (.inr o) := fun a e => h a (Sum.inr.inj e)
theorem av_cat (ρ : Rh) (v : AV) : (av_tv ρ v).category = 1 := by
  cases v with
  | inl x => rfl
  | inr o => cases o <;> rfl
theorem av_r_eq {ρ ρ' : Rh} {M : Me} {o : Option (Nat × Nat)} (h : av_okr M o) (he : ∀ a b, b < me_N M a → ρ' a b = ρ a b) : av_r ρ' o = av_r ρ o := by
  cases o with
  | none => rfl
  | some a => exact congrArg some (he _ _ (h a rfl))
theorem av_tv_eq {ρ ρ' : Rh} {M : Me} {v : AV} (h : av_ok M v) (he : ∀ a b, b < me_N M a → ρ' a b = ρ a b) : av_tv ρ' v = av_tv ρ v := by
  cases v with
  | inl x => rfl
  | inr o => exact congrArg va_rf (av_r_eq (M := M) (fun a e => h a (congrArg _ e)) he)
theorem av_map_eq {ρ ρ' : Rh} {M : Me} {st : List AV} (h : ∀ v ∈ st, av_ok M v) (he : ∀ a b, b < me_N M a → ρ' a b = ρ a b) : st.map (av_tv ρ') = st.map (av_tv ρ) :=
  List.map_congr_left fun v hv => av_tv_eq (h v hv) he
theorem av_ok_mono {M M' : Me} (hn : ∀ a, me_N M a ≤ me_N M' a) {v : AV} (h : av_ok M v) : av_ok M' v := fun a e => Nat.lt_of_lt_of_le (h a e) (hn _)
theorem av_okr_mono {M M' : Me} (hn : ∀ a, me_N M a ≤ me_N M' a) {o : Option (Nat × Nat)} (h : av_okr M o) : av_okr M' o := fun a e => Nat.lt_of_lt_of_le (h a e) (hn _)
theorem me_N_sI (M : Me) (s i k : Nat) (v : Int32) : me_N (me_sI M s i k v) = me_N M := rfl
theorem me_N_sP (M : Me) (s i k : Nat) (v : Option (Nat × Nat)) : me_N (me_sP M s i k v) = me_N M := rfl
theorem me_L_sI (M : Me) (s i k : Nat) (v : Int32) : me_L (me_sI M s i k v) = me_L M := rfl
theorem me_L_sP (M : Me) (s i k : Nat) (v : Option (Nat × Nat)) : me_L (me_sP M s i k v) = me_L M := rfl
theorem me_I_sP (M : Me) (s i k : Nat) (v : Option (Nat × Nat)) : me_I (me_sP M s i k v) = me_I M := rfl
theorem me_P_sI (M : Me) (s i k : Nat) (v : Int32) : me_P (me_sI M s i k v) = me_P M := rfl
theorem me_C_sI (M : Me) (s i k : Nat) (v : Int32) : me_C (me_sI M s i k v) = me_C M := rfl
theorem me_C_sP (M : Me) (s i k : Nat) (v : Option (Nat × Nat)) : me_C (me_sP M s i k v) = me_C M := rfl
theorem me_S_sI (M : Me) (s i k : Nat) (v : Int32) : me_S (me_sI M s i k v) = me_S M := rfl
theorem me_S_sP (M : Me) (s i k : Nat) (v : Option (Nat × Nat)) : me_S (me_sP M s i k v) = me_S M := rfl
theorem me_I_sI (M : Me) (s i k : Nat) (v : Int32) (a b c : Nat) : me_I (me_sI M s i k v) a b c = if a = s ∧ b = i ∧ c = k then v else me_I M a b c := rfl
theorem me_P_sP (M : Me) (s i k : Nat) (v : Option (Nat × Nat)) (a b c : Nat) : me_P (me_sP M s i k v) a b c = if a = s ∧ b = i ∧ c = k then v else me_P M a b c := rfl
theorem me_I_nw (M : Me) (s n sl a b c : Nat) : me_I (me_nw M s n sl) a b c = if a = s ∧ b = me_N M s then 0 else me_I M a b c := rfl
theorem me_P_nw (M : Me) (s n sl a b c : Nat) : me_P (me_nw M s n sl) a b c = if a = s ∧ b = me_N M s then none else me_P M a b c := rfl
theorem me_L_nw (M : Me) (s n sl a b : Nat) : me_L (me_nw M s n sl) a b = if a = s ∧ b = me_N M s then n else me_L M a b := rfl
theorem me_N_nw (M : Me) (s n sl a : Nat) : me_N (me_nw M s n sl) a = if a = s then me_N M s + 1 else me_N M a := rfl
theorem me_C_nw (M : Me) (s n sl : Nat) : me_C (me_nw M s n sl) = me_C M + 1 := rfl
theorem me_S_nw (M : Me) (s n sl : Nat) : me_S (me_nw M s n sl) = me_S M + sl := rfl
theorem me_N_le_nw (M : Me) (s n sl a : Nat) : me_N M a ≤ me_N (me_nw M s n sl) a := by
  rw [me_N_nw]; split
  · rename_i h; subst h; omega
  · exact Nat.le_refl _
def me_fl (ρ : Rh) (M : Me) (ci s i : Nat) : List Value := (List.range (nf ci)).map (fun k => if fk ci k = true then va_rf (av_r ρ (me_P M s i k)) else .int (me_I M s i k))
def me_ce (cA : Nat → ClassId) (ρ : Rh) (M : Me) (q : Nat × Nat) : va_E := match sk q.1 with
  | .inl ci => .inr (ci, me_fl ρ M ci q.1 q.2)
  | .inr (.object _) => .inl (cA q.1, me_L M q.1 q.2, .inr (.inr (.inr (.inr (fun k => av_r ρ (me_P M q.1 q.2 k))))))
  | .inr _ => .inl (cA q.1, me_L M q.1 q.2, .inl (me_I M q.1 q.2))
def me_wl (cA : Nat → ClassId) (ρ : Rh) (M : Me) (ord : List (Nat × Nat)) : va_W := ord.map (fun q => (ρ q.1 q.2, me_ce cA ρ M q))
abbrev Gt : Type := Nat × va_G × (Nat → ClassId) × List (ClassId × FieldType) × (Nat → Nat)
def me_rl (G : Gt) (ρ : Rh) (M : Me) (H : Heap) : Prop := ∃ ord : List (Nat × Nat), ord.Nodup ∧ (∀ q, q ∈ ord ↔ (q.2 < me_N M q.1 ∧ st_is q.1 = false)) ∧ va_P G.2.1 vwCl (me_wl G.2.2.1 ρ M ord) H ∧ va_D (fun q => G.1 ≤ q) (me_wl G.2.2.1 ρ M ord) ∧ (∀ s i k, i < me_N M s → av_okr M (me_P M s i k)) ∧ (∀ s, st_is s = true → me_N M s = 1 ∧ ρ s 0 = G.2.2.2.2 s)
theorem me_at {cA : Nat → ClassId} {ρ : Rh} {M : Me} {ord : List (Nat × Nat)} {q : Nat × Nat} (hq : q ∈ ord) : ∃ n : Nat, ord[n]? = some q ∧ (me_wl cA ρ M ord)[n]? = some (ρ q.1 q.2, me_ce cA ρ M q) := by
  obtain ⟨n, hn⟩ := List.getElem?_of_mem hq
  exact ⟨n, hn, by rw [me_wl, List.getElem?_map, hn]; rfl⟩
theorem me_inj {ord : List (Nat × Nat)} (hnd : ord.Nodup) {i j : Nat} {q : Nat × Nat} (hi : ord[i]? = some q) (hj : ord[j]? = some q) : i = j := by
  have h1 := (List.getElem?_eq_some_iff.mp hi).1
  exact (List.getElem?_inj h1 hnd).mp (hi.trans hj.symm)
theorem me_wl_set {cA : Nat → ClassId} {ρ : Rh} {M M' : Me} {ord : List (Nat × Nat)} {n : Nat} {q : Nat × Nat} (hnd : ord.Nodup) (hq : ord[n]? = some q) (ho : ∀ q', q' ∈ ord → q' ≠ q → me_ce cA ρ M' q' = me_ce cA ρ M q') :
    (me_wl cA ρ M ord).set n (ρ q.1 q.2, me_ce cA ρ M' q) = me_wl cA ρ M' ord := by
  apply List.ext_getElem?
  intro j
  rw [List.getElem?_set]
  by_cases hj : n = j
  · subst hj
    have hl : n < (me_wl cA ρ M ord).length := by rw [me_wl, List.length_map]; exact (List.getElem?_eq_some_iff.mp hq).1
    rw [if_pos rfl, if_pos hl]
    rw [me_wl, List.getElem?_map, hq]; rfl
  · rw [if_neg hj]
    simp only [me_wl, List.getElem?_map]
    cases h : ord[j]? with
    | none => rfl
    | some q' =>
      have hne : q' ≠ q := fun e => hj (me_inj hnd hq (e ▸ h))
      simp only [Option.map_some, ho q' (List.mem_of_getElem? h) hne]
theorem me_fl_get {ρ : Rh} {M : Me} {ci s i k : Nat} (hk : k < nf ci) : (me_fl ρ M ci s i)[k]? = some (if fk ci k = true then va_rf (av_r ρ (me_P M s i k)) else .int (me_I M s i k)) := by
  simp [me_fl, hk]
theorem me_fl_len {ρ : Rh} {M : Me} {ci s i : Nat} : (me_fl ρ M ci s i).length = nf ci := by simp [me_fl]
theorem me_fl_setI {ρ : Rh} {M : Me} {ci s i k : Nat} (hf : fk ci k = false) (v : Int32) : (me_fl ρ M ci s i).set k (.int v) = me_fl ρ (me_sI M s i k v) ci s i := by
  apply List.ext_getElem?
  intro j
  rw [List.getElem?_set]
  by_cases hj : j < nf ci
  · by_cases hkj : k = j
    · subst hkj
      rw [if_pos rfl, me_fl_len, if_pos hj, me_fl_get hj, hf]
      simp [me_I_sI]
    · rw [if_neg hkj, me_fl_get hj, me_fl_get hj, me_P_sI, me_I_sI, if_neg (c := s = s ∧ i = i ∧ j = k) (fun h => hkj h.2.2.symm)]
  · have h1 : (me_fl ρ M ci s i)[j]? = none := List.getElem?_eq_none (by rw [me_fl_len]; omega)
    have h2 : (me_fl ρ (me_sI M s i k v) ci s i)[j]? = none := List.getElem?_eq_none (by rw [me_fl_len]; omega)
    rw [h1, h2, me_fl_len]
    split
    · rw [if_neg (by omega)]
    · rfl
theorem me_fl_setP {ρ : Rh} {M : Me} {ci s i k : Nat} (hf : fk ci k = true) (v : Option (Nat × Nat)) : (me_fl ρ M ci s i).set k (va_rf (av_r ρ v)) = me_fl ρ (me_sP M s i k v) ci s i := by
  apply List.ext_getElem?
  intro j
  rw [List.getElem?_set]
  by_cases hj : j < nf ci
  · by_cases hkj : k = j
    · subst hkj
      rw [if_pos rfl, me_fl_len, if_pos hj, me_fl_get hj, hf]
      simp [me_P_sP]
    · rw [if_neg hkj, me_fl_get hj, me_fl_get hj, me_I_sP, me_P_sP, if_neg (c := s = s ∧ i = i ∧ j = k) (fun h => hkj h.2.2.symm)]
  · have h1 : (me_fl ρ M ci s i)[j]? = none := List.getElem?_eq_none (by rw [me_fl_len]; omega)
    have h2 : (me_fl ρ (me_sP M s i k v) ci s i)[j]? = none := List.getElem?_eq_none (by rw [me_fl_len]; omega)
    rw [h1, h2, me_fl_len]
    split
    · rw [if_neg (by omega)]
    · rfl
theorem me_fl_off {ρ : Rh} {M M' : Me} {ci s i : Nat} (hI : ∀ k, me_I M' s i k = me_I M s i k) (hP : ∀ k, me_P M' s i k = me_P M s i k) : me_fl ρ M' ci s i = me_fl ρ M ci s i := by
  unfold me_fl
  apply List.map_congr_left
  intro k _
  rw [hI, hP]
theorem me_ce_off {cA : Nat → ClassId} {ρ : Rh} {M M' : Me} {q : Nat × Nat} (hI : ∀ k, me_I M' q.1 q.2 k = me_I M q.1 q.2 k) (hP : ∀ k, me_P M' q.1 q.2 k = me_P M q.1 q.2 k) (hL : me_L M' q.1 q.2 = me_L M q.1 q.2) : me_ce cA ρ M' q = me_ce cA ρ M q := by
  have hI' : me_I M' q.1 q.2 = me_I M q.1 q.2 := funext hI
  unfold me_ce
  cases sk q.1 with
  | inl ci => simp only [me_fl_off hI hP]
  | inr o => cases o <;> simp only [hI', hL, hP]
theorem me_ne {s i : Nat} {q : Nat × Nat} (h : q ≠ (s, i)) : ¬ (q.1 = s ∧ q.2 = i) := fun e => h (Prod.ext e.1 e.2)
/-- a new world behind a write of an int -/
theorem me_putI {G : Gt} {ρ : Rh} {M : Me} {H1 : Heap} {ord : List (Nat × Nat)} {n s i k : Nat} {v : Int32} (hnd : ord.Nodup) (hmem : ∀ q, q ∈ ord ↔ (q.2 < me_N M q.1 ∧ st_is q.1 = false)) (hok : ∀ s i k, i < me_N M s → av_okr M (me_P M s i k)) (hst : ∀ s, st_is s = true → me_N M s = 1 ∧ ρ s 0 = G.2.2.2.2 s) (hn : ord[n]? = some (s, i))
    {e' : va_E} (he : me_ce G.2.2.1 ρ (me_sI M s i k v) (s, i) = e') (hP : va_P G.2.1 vwCl ((me_wl G.2.2.1 ρ M ord).set n (ρ s i, e')) H1) (hD : va_D (fun q => G.1 ≤ q) ((me_wl G.2.2.1 ρ M ord).set n (ρ s i, e'))) : me_rl G ρ (me_sI M s i k v) H1 := by
  subst he
  have hw := me_wl_set (cA := G.2.2.1) (ρ := ρ) (M := M) (M' := me_sI M s i k v) hnd hn (fun q' _ hne => me_ce_off (fun k' => by rw [me_I_sI, if_neg (fun h => me_ne hne ⟨h.1, h.2.1⟩)]) (fun _ => rfl) rfl)
  rw [hw] at hP hD
  exact ⟨ord, hnd, hmem, hP, hD, hok, hst⟩
theorem me_putP {G : Gt} {ρ : Rh} {M : Me} {H1 : Heap} {ord : List (Nat × Nat)} {n s i k : Nat} {v : Option (Nat × Nat)} (hv : av_okr M v) (hnd : ord.Nodup) (hmem : ∀ q, q ∈ ord ↔ (q.2 < me_N M q.1 ∧ st_is q.1 = false)) (hok : ∀ s i k, i < me_N M s → av_okr M (me_P M s i k)) (hst : ∀ s, st_is s = true → me_N M s = 1 ∧ ρ s 0 = G.2.2.2.2 s) (hn : ord[n]? = some (s, i))
    {e' : va_E} (he : me_ce G.2.2.1 ρ (me_sP M s i k v) (s, i) = e') (hP : va_P G.2.1 vwCl ((me_wl G.2.2.1 ρ M ord).set n (ρ s i, e')) H1) (hD : va_D (fun q => G.1 ≤ q) ((me_wl G.2.2.1 ρ M ord).set n (ρ s i, e'))) : me_rl G ρ (me_sP M s i k v) H1 := by
  subst he
  have hw := me_wl_set (cA := G.2.2.1) (ρ := ρ) (M := M) (M' := me_sP M s i k v) hnd hn (fun q' _ hne => me_ce_off (fun _ => rfl) (fun k' => by rw [me_P_sP, if_neg (fun h => me_ne hne ⟨h.1, h.2.1⟩)]) rfl)
  rw [hw] at hP hD
  refine ⟨ord, hnd, hmem, hP, hD, ?_, hst⟩
  intro a b c hb
  show av_okr M (me_P (me_sP M s i k v) a b c)
  rw [me_P_sP]
  split
  · exact hv
  · exact hok a b c hb
def rh_up (ρ : Rh) (s i a : Nat) : Rh := fun s' i' => if s' = s ∧ i' = i then a else ρ s' i'
theorem rh_up_eq {ρ : Rh} {M : Me} {s a : Nat} : ∀ a' b, b < me_N M a' → rh_up ρ s (me_N M s) a a' b = ρ a' b := by
  intro a' b hb
  unfold rh_up
  rw [if_neg]
  rintro ⟨rfl, rfl⟩
  exact Nat.lt_irrefl _ hb
/-- a new world behind a making -/
theorem me_new {G : Gt} {ρ : Rh} {M : Me} {H1 : Heap} {ord : List (Nat × Nat)} {s len sl a : Nat} (hs : st_is s = false) (hnd : ord.Nodup) (hmem : ∀ q, q ∈ ord ↔ (q.2 < me_N M q.1 ∧ st_is q.1 = false)) (hok : ∀ s i k, i < me_N M s → av_okr M (me_P M s i k)) (hst : ∀ s, st_is s = true → me_N M s = 1 ∧ ρ s 0 = G.2.2.2.2 s)
    {e' : va_E} (he : me_ce G.2.2.1 (rh_up ρ s (me_N M s) a) (me_nw M s len sl) (s, me_N M s) = e') (hP : va_P G.2.1 vwCl (me_wl G.2.2.1 ρ M ord ++ [(a, e')]) H1) (hD : va_D (fun q => G.1 ≤ q) (me_wl G.2.2.1 ρ M ord ++ [(a, e')])) : me_rl G (rh_up ρ s (me_N M s) a) (me_nw M s len sl) H1 := by
  subst he
  have hnot : (s, me_N M s) ∉ ord := fun h => Nat.lt_irrefl _ ((hmem _).mp h).1
  have hw : me_wl G.2.2.1 ρ M ord ++ [(a, me_ce G.2.2.1 (rh_up ρ s (me_N M s) a) (me_nw M s len sl) (s, me_N M s))] = me_wl G.2.2.1 (rh_up ρ s (me_N M s) a) (me_nw M s len sl) (ord ++ [(s, me_N M s)]) := by
    unfold me_wl
    rw [List.map_append]
    congr 1
    · apply List.map_congr_left
      intro q hq
      have hlt := ((hmem q).mp hq).1
      have hne : ¬ (q.1 = s ∧ q.2 = me_N M s) := fun h => by rw [h.1, h.2] at hlt; exact Nat.lt_irrefl _ hlt
      have h1 : rh_up ρ s (me_N M s) a q.1 q.2 = ρ q.1 q.2 := rh_up_eq _ _ hlt
      have h2 : me_ce G.2.2.1 (rh_up ρ s (me_N M s) a) (me_nw M s len sl) q = me_ce G.2.2.1 ρ M q := by
        rw [me_ce_off (M := M) (fun k => by rw [me_I_nw, if_neg hne]) (fun k => by rw [me_P_nw, if_neg hne]) (by rw [me_L_nw, if_neg hne])]
        have hr : ∀ k, av_r (rh_up ρ s (me_N M s) a) (me_P M q.1 q.2 k) = av_r ρ (me_P M q.1 q.2 k) := fun k => av_r_eq (hok _ _ k hlt) rh_up_eq
        unfold me_ce
        cases sk q.1 with
        | inl ci => simp only [me_fl, hr]
        | inr o => cases o <;> simp only [hr]
      rw [h1, h2]
    · simp [rh_up]
  rw [hw] at hP hD
  refine ⟨_, ?_, ?_, hP, hD, ?_, ?_⟩
  · rw [List.nodup_append]
    refine ⟨hnd, by simp, ?_⟩
    intro x hx y hy e
    rw [List.mem_singleton] at hy
    subst hy; subst e
    exact hnot hx
  · intro q
    rw [List.mem_append, List.mem_singleton, hmem, me_N_nw]
    constructor
    · rintro (⟨h1, h2⟩ | rfl)
      · refine ⟨?_, h2⟩
        split
        · rename_i h; rw [h] at h1; omega
        · exact h1
      · exact ⟨by simp, hs⟩
    · rintro ⟨h1, h2⟩
      by_cases h : q.1 = s
      · rw [if_pos h] at h1
        by_cases h3 : q.2 = me_N M s
        · exact Or.inr (Prod.ext h h3)
        · exact Or.inl ⟨by rw [h]; omega, h2⟩
      · rw [if_neg h] at h1
        exact Or.inl ⟨h1, h2⟩
  · intro s' i' k' hi
    rw [me_P_nw]
    split
    · intro x hx; cases hx
    · rename_i hne
      refine av_okr_mono (me_N_le_nw M s len sl) (hok s' i' k' ?_)
      rw [me_N_nw] at hi
      split at hi
      · rename_i h; subst h
        have : i' ≠ me_N M s' := fun e => hne ⟨rfl, e⟩
        omega
      · exact hi
  · intro s' h'
    have hne : s' ≠ s := fun e => by rw [e, hs] at h'; cases h'
    obtain ⟨h1, h2⟩ := hst s' h'
    refine ⟨by rw [me_N_nw, if_neg hne]; exact h1, ?_⟩
    unfold rh_up
    rw [if_neg (fun e => hne e.1)]
    exact h2
end
section
def gk_ok (G : Gt) (U : State) (H : Heap) : Prop := va_K G.2.1 vwCl G.2.2.2.1 U ∧ (∀ s ty, ar_ty s = some ty → ∃ t0 : Nat, G.2.2.2.1[t0]? = some (G.2.2.1 s, ty)) ∧ (∀ w ∈ nest_w, va_Nw w U) ∧ (∀ C ∈ over_c, va_AO C U) ∧ (∀ q ∈ st_l, va_Z "PollYard" q.2.1 "[I" (.ref (G.2.2.2.2 q.1)) (fun a => G.1 ≤ a) U H ∧ va_T .int (G.2.2.2.2 q.1) 16 (fun j => .int (q.2.2.getD j 0)) (fun a => G.1 ≤ a) U H)
theorem gk_K {G : Gt} {U : State} {H : Heap} (h : gk_ok G U H) : va_K G.2.1 vwCl G.2.2.2.1 U := h.1
theorem gk_ar {G : Gt} {U : State} {H : Heap} (h : gk_ok G U H) : ∀ s ty, ar_ty s = some ty → ∃ t0 : Nat, G.2.2.2.1[t0]? = some (G.2.2.1 s, ty) := h.2.1
theorem nest_warm {s U : State} (hW : s.WarmedH U.vm) : ∀ w ∈ nest_w, va_Nw w s → va_Nw w U := by
  intro w hw h
  simp only [nest_w, List.mem_cons, List.not_mem_nil, or_false] at hw
  rcases hw with rfl | rfl | rfl | rfl <;> first | exact va_Nw.warmM hW h | exact va_Nw.warmF hW h
theorem nest_tab : ∀ w ∈ nest_w, w.onTables = true := by
  intro w hw
  simp only [nest_w, List.mem_cons, List.not_mem_nil, or_false] at hw
  rcases hw with rfl | rfl | rfl | rfl <;> rfl
theorem gk_warm {G : Gt} {s U : State} (h : gk_ok G s s.heap) (hW : s.WarmedH U.vm) (hh : ∀ q, q < G.1 → U.heap[q]? = s.heap[q]?) : gk_ok G U U.heap :=
  ⟨va_K.moved hW.alike h.1, h.2.1, fun w hw => nest_warm hW w hw (h.2.2.1 w hw), fun C hC => va_AO.moved hW.alike (h.2.2.2.1 C hC), fun q hq => ⟨((h.2.2.2.2 q hq).1.moved hW.alike).kept (fun a _ ha => hh a (Nat.not_le.mp ha)), ((h.2.2.2.2 q hq).2.moved hW.alike).kept (fun a _ ha => hh a (Nat.not_le.mp ha))⟩⟩
theorem gk_same {G : Gt} {u U : State} (hv : u.vm = U.vm) (h : gk_ok G u u.heap) : gk_ok G U u.heap := by
  have ha : u.vm.Alike U.vm := by rw [hv]; exact Vm.Alike.refl _
  exact ⟨va_K.moved ha h.1, h.2.1, fun w hw => va_Nw.same (nest_tab w hw) hv (h.2.2.1 w hw), fun C hC => va_AO.moved ha (h.2.2.2.1 C hC), fun q hq => ⟨(h.2.2.2.2 q hq).1.moved ha, (h.2.2.2.2 q hq).2.moved ha⟩⟩
end
section
abbrev Yt : Type := ByteArray × Nat × String × String × Option FieldType
def fr_ok (G : Gt) (Y : Yt) (p : Program) (s : State) (m : MethodId) (args : Array Value) (meth : Method) (c : Code) : Prop :=
  p.tables.exec = Jvm.exec ∧ c.code = Y.1 ∧ c.maxLocals = Y.2.1 ∧ s.vm.findClass Y.2.2.1 = some m.cls ∧ meth.name = Y.2.2.2.1 ∧ meth.sig.returnType = Y.2.2.2.2 ∧ (∀ w ∈ TS, w.before args s = true) ∧ meth.locks = false ∧ gk_ok G s s.heap ∧ G.1 ≤ s.heap.size
def rm_of (d c s : Nat) : Room := { frames := d, cells := c, slots := s, locals := 64 * d }
def q_of (G : Gt) (ρe : Rh) (ne : Nat → Nat) (r : Option AV) (M' : Me) : Array Value → State → Outcome → State → Prop := fun _ st o t => ∃ ρ' : Rh, o = .returned (r.map (av_tv ρ')) ∧ me_rl G ρ' M' t.heap ∧ (∀ a b, b < ne a → ρ' a b = ρe a b) ∧ (∀ a, ne a ≤ me_N M' a) ∧ (∀ v, r = some v → av_ok M' v) ∧ va_F (fun q => G.1 ≤ q) st t
def lc_ok (nL : Nat) (ρ : Rh) (M : Me) (lc : List (Option AV)) (ls : Array Slot) : Prop := ls.size = nL ∧ lv_wf ls ∧ ∀ (i : Nat) (v : AV), lc[i]? = some (some v) → ls[i]? = some (Slot.val (av_tv ρ v)) ∧ av_ok M v
def jw (G : Gt) (Y : Yt) (d c0 s0 : Nat) (M : Me) (pc : Nat) (lc : List (Option AV)) (st : List AV) (r : Option AV) (M' : Me) : Prop :=
  (me_C M ≤ me_C M' ∧ me_S M ≤ me_S M') ∧
  ∀ (p : Program) (l : Launch) (e : Env) (s : State) (m : MethodId) (args : Array Value) (below : List Frame) (meth : Method) (c : Code) (ρe : Rh) (ne : Nat → Nat) (ρ : Rh) (H : Heap) (locs : List Loc) (cells slots : Nat) (ls : Array Slot),
    fr_ok G Y p s m args meth c → me_rl G ρ M H → va_S (fun q => G.1 ≤ q) s.heap H locs → (∀ a b, b < ne a → ρ a b = ρe a b) → (∀ a, ne a ≤ me_N M a) → cells + c0 = me_C M → slots + s0 = me_S M → lc_ok Y.2.1 ρ M lc ls → (∀ v ∈ st, av_ok M v) →
    W p l e (rm_of d (me_C M' - c0) (me_S M' - s0)) s m args below meth c H locs cells slots (MQ below (q_of G ρe ne r M') args s (me_C M' - c0) (me_S M' - s0) (fun q => G.1 ≤ q)) (F0 m pc ls (st.map (av_tv ρ)))
theorem lc_mono {nL : Nat} {ρ ρ' : Rh} {M M' : Me} {lc : List (Option AV)} {ls : Array Slot} (h : lc_ok nL ρ M lc ls) (hn : ∀ a, me_N M a ≤ me_N M' a) (he : ∀ a b, b < me_N M a → ρ' a b = ρ a b) : lc_ok nL ρ' M' lc ls :=
  ⟨h.1, h.2.1, fun i v hv => ⟨by rw [av_tv_eq (h.2.2 i v hv).2 he]; exact (h.2.2 i v hv).1, av_ok_mono hn (h.2.2 i v hv).2⟩⟩
def lc_li (ρ : Rh) (lc : List (Option AV)) : List (Nat × Value) := lc.zipIdx.filterMap (fun q => q.1.map (fun v => (q.2, av_tv ρ v)))
theorem lc_li_mem {ρ : Rh} {lc : List (Option AV)} {i : Nat} {v : AV} (h : lc[i]? = some (some v)) : (i, av_tv ρ v) ∈ lc_li ρ lc := by
  unfold lc_li
  rw [List.mem_filterMap]
  refine ⟨(some v, i), ?_, rfl⟩
  rw [List.mem_zipIdx_iff_getElem?]
  exact h
theorem lc_li_of {ρ : Rh} {lc : List (Option AV)} {q : Nat × Value} (h : q ∈ lc_li ρ lc) : ∃ v, lc[q.1]? = some (some v) ∧ q.2 = av_tv ρ v := by
  unfold lc_li at h
  rw [List.mem_filterMap] at h
  obtain ⟨⟨o, i⟩, h1, h2⟩ := h
  rw [List.mem_zipIdx_iff_getElem?] at h1
  cases o with
  | none => cases h2
  | some v =>
    cases h2
    exact ⟨v, h1, rfl⟩
theorem lc_has {nL : Nat} {ρ : Rh} {M : Me} {lc : List (Option AV)} {ls : Array Slot} (h : lc_ok nL ρ M lc ls) : lv_has ls nL (lc_li ρ lc) :=
  ⟨h.1, h.2.1, fun q hq => by
    obtain ⟨v, h1, h2⟩ := lc_li_of hq
    rw [h2]; exact (h.2.2 q.1 v h1).1⟩
theorem lc_back {nL i : Nat} {ρ : Rh} {M : Me} {lc : List (Option AV)} {ls ls' : Array Slot} {v : AV} (h : lc_ok nL ρ M lc ls) (hv : av_ok M v) (h' : lv_has ls' nL ((i, av_tv ρ v) :: (lc_li ρ lc).filter (fun q => !(q.1 == i) && !(q.1 + 1 == i && q.2.category == 2)))) : lc_ok nL ρ M (lc.set i (some v)) ls' := by
  refine ⟨h'.1, h'.2.1, fun j w hw => ?_⟩
  rw [List.getElem?_set] at hw
  split at hw
  · rename_i hij; subst hij
    split at hw
    · cases hw
      exact ⟨h'.2.2 _ List.mem_cons_self, hv⟩
    · cases hw
  · rename_i hij
    refine ⟨?_, (h.2.2 j w hw).2⟩
    refine h'.2.2 (j, av_tv ρ w) (List.mem_cons_of_mem _ (List.mem_filter.mpr ⟨lc_li_mem hw, ?_⟩))
    simp [av_cat, Ne.symm hij]
theorem jw_go {G : Gt} {Y : Yt} {d c0 s0 : Nat} {M M' : Me} {pc pc' : Nat} {lc : List (Option AV)} {st st' : List AV} {r : Option AV}
    (h : ∀ {p : Program} {l : Launch} {e : Env} {R : Room} {s : State} {m : MethodId} {args : Array Value} {below : List Frame} {meth : Method} {c : Code} {H : Heap} {locs : List Loc} {cells slots : Nat} {Q : State → Prop} {ls : Array Slot} {ρ : Rh}, p.tables.exec = Jvm.exec → c.code = Y.1 → s.vm.findClass Y.2.2.1 = some m.cls → (∀ w ∈ TS, w.before args s = true) → lc_ok Y.2.1 ρ M lc ls → W p l e R s m args below meth c H locs cells slots Q (F0 m pc' ls (st'.map (av_tv ρ))) → W p l e R s m args below meth c H locs cells slots Q (F0 m pc ls (st.map (av_tv ρ))))
    (ho : (∀ (i : Nat) (v : AV), lc[i]? = some (some v) → av_ok M v) → (∀ v ∈ st, av_ok M v) → ∀ v ∈ st', av_ok M v) (k : jw G Y d c0 s0 M pc' lc st' r M') : jw G Y d c0 s0 M pc lc st r M' :=
  ⟨k.1, fun p l e s m args below meth c ρe ne ρ H locs cells slots ls hF hR hS ha hn hc hs hl hst => h hF.1 hF.2.1 hF.2.2.2.1 hF.2.2.2.2.2.2.1 hl (k.2 p l e s m args below meth c ρe ne ρ H locs cells slots ls hF hR hS ha hn hc hs hl (ho (fun i v hv => (hl.2.2 i v hv).2) hst))⟩
theorem jw_sto {G : Gt} {Y : Yt} {d c0 s0 : Nat} {M M' : Me} {pc pc' i : Nat} {lc : List (Option AV)} {st st' : List AV} {v : AV} {r : Option AV}
    (h : ∀ {p : Program} {l : Launch} {e : Env} {R : Room} {s : State} {m : MethodId} {args : Array Value} {below : List Frame} {meth : Method} {c : Code} {H : Heap} {locs : List Loc} {cells slots : Nat} {Q : State → Prop} {ls : Array Slot} {ρ : Rh}, p.tables.exec = Jvm.exec → c.code = Y.1 → lc_ok Y.2.1 ρ M lc ls → (∀ ls' : Array Slot, lv_has ls' Y.2.1 ((i, av_tv ρ v) :: (lc_li ρ lc).filter (fun q => !(q.1 == i) && !(q.1 + 1 == i && q.2.category == 2))) → W p l e R s m args below meth c H locs cells slots Q (F0 m pc' ls' (st'.map (av_tv ρ)))) → W p l e R s m args below meth c H locs cells slots Q (F0 m pc ls (st.map (av_tv ρ))))
    (ho : (∀ v ∈ st, av_ok M v) → (∀ v ∈ st', av_ok M v) ∧ av_ok M v) (k : jw G Y d c0 s0 M pc' (lc.set i (some v)) st' r M') : jw G Y d c0 s0 M pc lc st r M' :=
  ⟨k.1, fun p l e s m args below meth c ρe ne ρ H locs cells slots ls hF hR hS ha hn hc hs hl hst => h hF.1 hF.2.1 hl (fun ls' hl' => k.2 p l e s m args below meth c ρe ne ρ H locs cells slots ls' hF hR hS ha hn hc hs (lc_back hl (ho hst).2 hl') (ho hst).1)⟩
section RowsA
variable {G : Gt} {Y : Yt} {d c0 s0 : Nat} {M M' : Me} {pc : Nat} {lc : List (Option AV)} {st : List AV} {r : Option AV}
theorem jw_iconst {n : Int} (v : Int32) (hd : decode Y.1 pc = .ok (.iconst n, 1)) (hv : Int32.ofInt n = v) (k : jw G Y d c0 s0 M (pc + 1) lc (.inl v :: st) r M') : jw G Y d c0 s0 M pc lc st r M' :=
  jw_go (fun hx hb _ _ _ k => lv_iconst hx hb hd hv k) (fun _ h v hv => by rcases List.mem_cons.mp hv with rfl | hv; exact av_ok_i; exact h v hv) k
theorem jw_bipush {n : Int} (v : Int32) (hd : decode Y.1 pc = .ok (.bipush n, 2)) (hv : (Int8.ofInt n).toInt32 = v) (k : jw G Y d c0 s0 M (pc + 2) lc (.inl v :: st) r M') : jw G Y d c0 s0 M pc lc st r M' :=
  jw_go (fun hx hb _ _ _ k => lv_bipush hx hb hd hv k) (fun _ h v hv => by rcases List.mem_cons.mp hv with rfl | hv; exact av_ok_i; exact h v hv) k
theorem jw_sipush {n : Int} (v : Int32) (hd : decode Y.1 pc = .ok (.sipush n, 3)) (hv : (Int16.ofInt n).toInt32 = v) (k : jw G Y d c0 s0 M (pc + 3) lc (.inl v :: st) r M') : jw G Y d c0 s0 M pc lc st r M' :=
  jw_go (fun hx hb _ _ _ k => lv_sipush hx hb hd hv k) (fun _ h v hv => by rcases List.mem_cons.mp hv with rfl | hv; exact av_ok_i; exact h v hv) k
theorem jw_null (hd : decode Y.1 pc = .ok (.aconst_null, 1)) (k : jw G Y d c0 s0 M (pc + 1) lc (.inr none :: st) r M') : jw G Y d c0 s0 M pc lc st r M' :=
  jw_go (fun hx hb _ _ _ k => lv_null hx hb hd k) (fun _ h v hv => by rcases List.mem_cons.mp hv with rfl | hv; exact av_ok_n; exact h v hv) k
theorem jw_iload_n {n : Fin 4} (i : Nat) {x : Int32} (hd : decode Y.1 pc = .ok (.iload_n n, 1)) (hi : (n : Nat) = i) (hl : lc[i]? = some (some (.inl x))) (k : jw G Y d c0 s0 M (pc + 1) lc (.inl x :: st) r M') : jw G Y d c0 s0 M pc lc st r M' :=
  jw_go (fun hx hb _ _ hlc k => lv_iload_n hx hb hd hi (hlc.2.2 i _ hl).1 k) (fun _ h v hv => by rcases List.mem_cons.mp hv with rfl | hv; exact av_ok_i; exact h v hv) k
theorem jw_iload {i : Nat} {x : Int32} (hd : decode Y.1 pc = .ok (.iload i, 2)) (hl : lc[i]? = some (some (.inl x))) (k : jw G Y d c0 s0 M (pc + 2) lc (.inl x :: st) r M') : jw G Y d c0 s0 M pc lc st r M' :=
  jw_go (fun hx hb _ _ hlc k => lv_iload hx hb hd (hlc.2.2 i _ hl).1 k) (fun _ h v hv => by rcases List.mem_cons.mp hv with rfl | hv; exact av_ok_i; exact h v hv) k
theorem jw_aload_n {n : Fin 4} (i : Nat) {o : Option (Nat × Nat)} (hd : decode Y.1 pc = .ok (.aload_n n, 1)) (hi : (n : Nat) = i) (hl : lc[i]? = some (some (.inr o))) (k : jw G Y d c0 s0 M (pc + 1) lc (.inr o :: st) r M') : jw G Y d c0 s0 M pc lc st r M' :=
  jw_go (fun hx hb _ _ hlc k => by
    have h1 := (hlc.2.2 i _ hl).1
    cases o with
    | none => exact lv_aload_nN hx hb hd hi h1 k
    | some a => exact lv_aload_n hx hb hd hi h1 k) (fun hl' h v hv => by rcases List.mem_cons.mp hv with rfl | hv; exact hl' i _ hl; exact h v hv) k
theorem jw_aload {i : Nat} {o : Option (Nat × Nat)} (hd : decode Y.1 pc = .ok (.aload i, 2)) (hl : lc[i]? = some (some (.inr o))) (k : jw G Y d c0 s0 M (pc + 2) lc (.inr o :: st) r M') : jw G Y d c0 s0 M pc lc st r M' :=
  jw_go (fun hx hb _ _ hlc k => by
    have h1 := (hlc.2.2 i _ hl).1
    cases o with
    | none => exact lv_aloadN hx hb hd h1 k
    | some a => exact lv_aload hx hb hd h1 k) (fun hl' h v hv => by rcases List.mem_cons.mp hv with rfl | hv; exact hl' i _ hl; exact h v hv) k
theorem jw_istore_n {n : Fin 4} (i : Nat) {x : Int32} (hd : decode Y.1 pc = .ok (.istore_n n, 1)) (hi : (n : Nat) = i) (hn : i < Y.2.1) (k : jw G Y d c0 s0 M (pc + 1) (lc.set i (some (.inl x))) st r M') : jw G Y d c0 s0 M pc lc (.inl x :: st) r M' :=
  jw_sto (fun hx hb hlc k => lv_istore_n hx hb hd hi (lc_has hlc) hn rfl k) (fun h => ⟨fun v hv => h v (List.mem_cons_of_mem _ hv), av_ok_i⟩) k
theorem jw_istore {i : Nat} {x : Int32} (hd : decode Y.1 pc = .ok (.istore i, 2)) (hn : i < Y.2.1) (k : jw G Y d c0 s0 M (pc + 2) (lc.set i (some (.inl x))) st r M') : jw G Y d c0 s0 M pc lc (.inl x :: st) r M' :=
  jw_sto (fun hx hb hlc k => lv_istore hx hb hd (lc_has hlc) hn rfl k) (fun h => ⟨fun v hv => h v (List.mem_cons_of_mem _ hv), av_ok_i⟩) k
theorem jw_astore_n {n : Fin 4} (i : Nat) {o : Option (Nat × Nat)} (hd : decode Y.1 pc = .ok (.astore_n n, 1)) (hi : (n : Nat) = i) (hn : i < Y.2.1) (k : jw G Y d c0 s0 M (pc + 1) (lc.set i (some (.inr o))) st r M') : jw G Y d c0 s0 M pc lc (.inr o :: st) r M' :=
  jw_sto (v := .inr o) (fun hx hb hlc k => by
    cases o with
    | none => exact lv_astore_nN hx hb hd hi (lc_has hlc) hn rfl k
    | some a => exact lv_astore_n hx hb hd hi (lc_has hlc) hn rfl k) (fun h => ⟨fun v hv => h v (List.mem_cons_of_mem _ hv), h _ List.mem_cons_self⟩) k
theorem jw_astore {i : Nat} {o : Option (Nat × Nat)} (hd : decode Y.1 pc = .ok (.astore i, 2)) (hn : i < Y.2.1) (k : jw G Y d c0 s0 M (pc + 2) (lc.set i (some (.inr o))) st r M') : jw G Y d c0 s0 M pc lc (.inr o :: st) r M' :=
  jw_sto (v := .inr o) (fun hx hb hlc k => by
    cases o with
    | none => exact lv_astoreN hx hb hd (lc_has hlc) hn rfl k
    | some a => exact lv_astore hx hb hd (lc_has hlc) hn rfl k) (fun h => ⟨fun v hv => h v (List.mem_cons_of_mem _ hv), h _ List.mem_cons_self⟩) k
theorem jw_iinc {i : Nat} {n : Int} {x : Int32} (v : Int32) (hd : decode Y.1 pc = .ok (.iinc i n, 3)) (hl : lc[i]? = some (some (.inl x))) (hv : x + Int32.ofInt n = v) (hn : i < Y.2.1) (k : jw G Y d c0 s0 M (pc + 3) (lc.set i (some (.inl v))) st r M') : jw G Y d c0 s0 M pc lc st r M' :=
  jw_sto (v := .inl v) (fun {p l e R s m args below meth c H locs cells slots Q ls ρ} hx hb hlc k => by
    obtain ⟨j, hj⟩ := List.getElem?_of_mem (lc_li_mem (ρ := ρ) hl)
    exact lv_iinc hx hb hd (lc_has hlc) hj hv hn rfl k) (fun h => ⟨h, av_ok_i⟩) k
theorem jw_iadd {x y : Int32} (hd : decode Y.1 pc = .ok (.iadd, 1)) (k : jw G Y d c0 s0 M (pc + 1) lc (.inl (x + y) :: st) r M') : jw G Y d c0 s0 M pc lc (.inl y :: .inl x :: st) r M' :=
  jw_go (fun hx hb _ _ _ k => lv_iadd hx hb hd k) (fun _ h v hv => by rcases List.mem_cons.mp hv with rfl | hv; exact av_ok_i; exact h v (List.mem_cons_of_mem _ (List.mem_cons_of_mem _ hv))) k
theorem jw_isub {x y : Int32} (hd : decode Y.1 pc = .ok (.isub, 1)) (k : jw G Y d c0 s0 M (pc + 1) lc (.inl (x - y) :: st) r M') : jw G Y d c0 s0 M pc lc (.inl y :: .inl x :: st) r M' :=
  jw_go (fun hx hb _ _ _ k => lv_isub hx hb hd k) (fun _ h v hv => by rcases List.mem_cons.mp hv with rfl | hv; exact av_ok_i; exact h v (List.mem_cons_of_mem _ (List.mem_cons_of_mem _ hv))) k
theorem jw_imul {x y : Int32} (hd : decode Y.1 pc = .ok (.imul, 1)) (k : jw G Y d c0 s0 M (pc + 1) lc (.inl (x * y) :: st) r M') : jw G Y d c0 s0 M pc lc (.inl y :: .inl x :: st) r M' :=
  jw_go (fun hx hb _ _ _ k => lv_imul hx hb hd k) (fun _ h v hv => by rcases List.mem_cons.mp hv with rfl | hv; exact av_ok_i; exact h v (List.mem_cons_of_mem _ (List.mem_cons_of_mem _ hv))) k
theorem jw_iand {x y : Int32} (hd : decode Y.1 pc = .ok (.iand, 1)) (k : jw G Y d c0 s0 M (pc + 1) lc (.inl (x &&& y) :: st) r M') : jw G Y d c0 s0 M pc lc (.inl y :: .inl x :: st) r M' :=
  jw_go (fun hx hb _ _ _ k => lv_iand hx hb hd k) (fun _ h v hv => by rcases List.mem_cons.mp hv with rfl | hv; exact av_ok_i; exact h v (List.mem_cons_of_mem _ (List.mem_cons_of_mem _ hv))) k
theorem jw_ior {x y : Int32} (hd : decode Y.1 pc = .ok (.ior, 1)) (k : jw G Y d c0 s0 M (pc + 1) lc (.inl (x ||| y) :: st) r M') : jw G Y d c0 s0 M pc lc (.inl y :: .inl x :: st) r M' :=
  jw_go (fun hx hb _ _ _ k => lv_ior hx hb hd k) (fun _ h v hv => by rcases List.mem_cons.mp hv with rfl | hv; exact av_ok_i; exact h v (List.mem_cons_of_mem _ (List.mem_cons_of_mem _ hv))) k
theorem jw_ixor {x y : Int32} (hd : decode Y.1 pc = .ok (.ixor, 1)) (k : jw G Y d c0 s0 M (pc + 1) lc (.inl (x ^^^ y) :: st) r M') : jw G Y d c0 s0 M pc lc (.inl y :: .inl x :: st) r M' :=
  jw_go (fun hx hb _ _ _ k => lv_ixor hx hb hd k) (fun _ h v hv => by rcases List.mem_cons.mp hv with rfl | hv; exact av_ok_i; exact h v (List.mem_cons_of_mem _ (List.mem_cons_of_mem _ hv))) k
theorem jw_idiv {x y : Int32} (hd : decode Y.1 pc = .ok (.idiv, 1)) (hne : ¬ y = 0) (k : jw G Y d c0 s0 M (pc + 1) lc (.inl (x / y) :: st) r M') : jw G Y d c0 s0 M pc lc (.inl y :: .inl x :: st) r M' :=
  jw_go (fun hx hb _ _ _ k => lv_idiv hx hb hd hne k) (fun _ h v hv => by rcases List.mem_cons.mp hv with rfl | hv; exact av_ok_i; exact h v (List.mem_cons_of_mem _ (List.mem_cons_of_mem _ hv))) k
theorem jw_irem {x y : Int32} (hd : decode Y.1 pc = .ok (.irem, 1)) (hne : ¬ y = 0) (k : jw G Y d c0 s0 M (pc + 1) lc (.inl (x - x / y * y) :: st) r M') : jw G Y d c0 s0 M pc lc (.inl y :: .inl x :: st) r M' :=
  jw_go (fun hx hb _ _ _ k => lv_irem hx hb hd hne k) (fun _ h v hv => by rcases List.mem_cons.mp hv with rfl | hv; exact av_ok_i; exact h v (List.mem_cons_of_mem _ (List.mem_cons_of_mem _ hv))) k
theorem jw_ineg {x : Int32} (hd : decode Y.1 pc = .ok (.ineg, 1)) (k : jw G Y d c0 s0 M (pc + 1) lc (.inl (-x) :: st) r M') : jw G Y d c0 s0 M pc lc (.inl x :: st) r M' :=
  jw_go (fun hx hb _ _ _ k => lv_ineg hx hb hd k) (fun _ h v hv => by rcases List.mem_cons.mp hv with rfl | hv; exact av_ok_i; exact h v (List.mem_cons_of_mem _ hv)) k
theorem jw_dup {a : AV} (hd : decode Y.1 pc = .ok (.dup, 1)) (k : jw G Y d c0 s0 M (pc + 1) lc (a :: a :: st) r M') : jw G Y d c0 s0 M pc lc (a :: st) r M' :=
  jw_go (fun hx hb _ _ _ k => lv_dup hx hb hd (av_cat _ _) k) (fun _ h v hv => h v (by simp only [List.mem_cons] at hv ⊢; rcases hv with h1 | h1 | h1 <;> simp [h1])) k
theorem jw_pop {a : AV} (hd : decode Y.1 pc = .ok (.pop, 1)) (k : jw G Y d c0 s0 M (pc + 1) lc st r M') : jw G Y d c0 s0 M pc lc (a :: st) r M' :=
  jw_go (fun hx hb _ _ _ k => lv_pop hx hb hd (av_cat _ _) k) (fun _ h v hv => h v (List.mem_cons_of_mem _ hv)) k
theorem jw_dup_x1 {a b : AV} (hd : decode Y.1 pc = .ok (.dup_x1, 1)) (k : jw G Y d c0 s0 M (pc + 1) lc (a :: b :: a :: st) r M') : jw G Y d c0 s0 M pc lc (a :: b :: st) r M' :=
  jw_go (fun hx hb _ _ _ k => lv_dup_x1 hx hb hd (av_cat _ _) (av_cat _ _) k) (fun _ h v hv => h v (by simp only [List.mem_cons] at hv ⊢; rcases hv with h1 | h1 | h1 | h1 <;> simp [h1])) k
theorem jw_dup_x2 {a b a2 : AV} (hd : decode Y.1 pc = .ok (.dup_x2, 1)) (k : jw G Y d c0 s0 M (pc + 1) lc (a :: b :: a2 :: a :: st) r M') : jw G Y d c0 s0 M pc lc (a :: b :: a2 :: st) r M' :=
  jw_go (fun hx hb _ _ _ k => lv_dup_x2 hx hb hd (av_cat _ _) (av_cat _ _) (av_cat _ _) k) (fun _ h v hv => h v (by simp only [List.mem_cons] at hv ⊢; rcases hv with h1 | h1 | h1 | h1 | h1 <;> simp [h1])) k
theorem jw_dup2 {a b : AV} (hd : decode Y.1 pc = .ok (.dup2, 1)) (k : jw G Y d c0 s0 M (pc + 1) lc (a :: b :: a :: b :: st) r M') : jw G Y d c0 s0 M pc lc (a :: b :: st) r M' :=
  jw_go (fun hx hb _ _ _ k => lv_dup2_11 hx hb hd (av_cat _ _) (av_cat _ _) k) (fun _ h v hv => h v (by simp only [List.mem_cons] at hv ⊢; rcases hv with h1 | h1 | h1 | h1 | h1 <;> simp [h1])) k
theorem jw_goto {off : Int} (tgt : Nat) (hd : decode Y.1 pc = .ok (.goto off, 3)) (ht : (pc : Int) + off = (tgt : Int)) (k : jw G Y d c0 s0 M tgt lc st r M') : jw G Y d c0 s0 M pc lc st r M' :=
  jw_go (fun hx hb _ _ _ k => lv_goto hx hb hd ht k) (fun _ h => h) k
theorem jw_if_eq {x : Int32} {off : Int} (tgt : Nat) (hd : decode Y.1 pc = .ok (.ifCond .eq off, 3)) (ht : (pc : Int) + off = (tgt : Int)) (kt : x = 0 → jw G Y d c0 s0 M tgt lc st r M') (kf : ¬ x = 0 → jw G Y d c0 s0 M (pc + 3) lc st r M') : jw G Y d c0 s0 M pc lc (.inl x :: st) r M' := by
  rcases Classical.em (x = 0) with h | h
  · exact jw_go (fun hx hb _ _ _ k => lv_if_eq hx hb hd ht (fun _ => k) (fun q => absurd h q)) (fun _ h v hv => h v (List.mem_cons_of_mem _ hv)) (kt h)
  · exact jw_go (fun hx hb _ _ _ k => lv_if_eq hx hb hd ht (fun q => absurd q h) (fun _ => k)) (fun _ h v hv => h v (List.mem_cons_of_mem _ hv)) (kf h)
theorem jw_if_ne {x : Int32} {off : Int} (tgt : Nat) (hd : decode Y.1 pc = .ok (.ifCond .ne off, 3)) (ht : (pc : Int) + off = (tgt : Int)) (kt : ¬ x = 0 → jw G Y d c0 s0 M tgt lc st r M') (kf : x = 0 → jw G Y d c0 s0 M (pc + 3) lc st r M') : jw G Y d c0 s0 M pc lc (.inl x :: st) r M' := by
  rcases Classical.em (x = 0) with h | h
  · exact jw_go (fun hx hb _ _ _ k => lv_if_ne hx hb hd ht (fun q => absurd h q) (fun _ => k)) (fun _ h v hv => h v (List.mem_cons_of_mem _ hv)) (kf h)
  · exact jw_go (fun hx hb _ _ _ k => lv_if_ne hx hb hd ht (fun _ => k) (fun q => absurd q h)) (fun _ h v hv => h v (List.mem_cons_of_mem _ hv)) (kt h)
theorem jw_if_lt {x : Int32} {off : Int} (tgt : Nat) (hd : decode Y.1 pc = .ok (.ifCond .lt off, 3)) (ht : (pc : Int) + off = (tgt : Int)) (kt : x < 0 → jw G Y d c0 s0 M tgt lc st r M') (kf : ¬ x < 0 → jw G Y d c0 s0 M (pc + 3) lc st r M') : jw G Y d c0 s0 M pc lc (.inl x :: st) r M' := by
  rcases Classical.em (x < 0) with h | h
  · exact jw_go (fun hx hb _ _ _ k => lv_if_lt hx hb hd ht (fun _ => k) (fun q => absurd h q)) (fun _ h v hv => h v (List.mem_cons_of_mem _ hv)) (kt h)
  · exact jw_go (fun hx hb _ _ _ k => lv_if_lt hx hb hd ht (fun q => absurd q h) (fun _ => k)) (fun _ h v hv => h v (List.mem_cons_of_mem _ hv)) (kf h)
theorem jw_if_ge {x : Int32} {off : Int} (tgt : Nat) (hd : decode Y.1 pc = .ok (.ifCond .ge off, 3)) (ht : (pc : Int) + off = (tgt : Int)) (kt : 0 ≤ x → jw G Y d c0 s0 M tgt lc st r M') (kf : ¬ 0 ≤ x → jw G Y d c0 s0 M (pc + 3) lc st r M') : jw G Y d c0 s0 M pc lc (.inl x :: st) r M' := by
  rcases Classical.em (0 ≤ x) with h | h
  · exact jw_go (fun hx hb _ _ _ k => lv_if_ge hx hb hd ht (fun _ => k) (fun q => absurd h q)) (fun _ h v hv => h v (List.mem_cons_of_mem _ hv)) (kt h)
  · exact jw_go (fun hx hb _ _ _ k => lv_if_ge hx hb hd ht (fun q => absurd q h) (fun _ => k)) (fun _ h v hv => h v (List.mem_cons_of_mem _ hv)) (kf h)
theorem jw_if_gt {x : Int32} {off : Int} (tgt : Nat) (hd : decode Y.1 pc = .ok (.ifCond .gt off, 3)) (ht : (pc : Int) + off = (tgt : Int)) (kt : 0 < x → jw G Y d c0 s0 M tgt lc st r M') (kf : ¬ 0 < x → jw G Y d c0 s0 M (pc + 3) lc st r M') : jw G Y d c0 s0 M pc lc (.inl x :: st) r M' := by
  rcases Classical.em (0 < x) with h | h
  · exact jw_go (fun hx hb _ _ _ k => lv_if_gt hx hb hd ht (fun _ => k) (fun q => absurd h q)) (fun _ h v hv => h v (List.mem_cons_of_mem _ hv)) (kt h)
  · exact jw_go (fun hx hb _ _ _ k => lv_if_gt hx hb hd ht (fun q => absurd q h) (fun _ => k)) (fun _ h v hv => h v (List.mem_cons_of_mem _ hv)) (kf h)
theorem jw_if_le {x : Int32} {off : Int} (tgt : Nat) (hd : decode Y.1 pc = .ok (.ifCond .le off, 3)) (ht : (pc : Int) + off = (tgt : Int)) (kt : x ≤ 0 → jw G Y d c0 s0 M tgt lc st r M') (kf : ¬ x ≤ 0 → jw G Y d c0 s0 M (pc + 3) lc st r M') : jw G Y d c0 s0 M pc lc (.inl x :: st) r M' := by
  rcases Classical.em (x ≤ 0) with h | h
  · exact jw_go (fun hx hb _ _ _ k => lv_if_le hx hb hd ht (fun _ => k) (fun q => absurd h q)) (fun _ h v hv => h v (List.mem_cons_of_mem _ hv)) (kt h)
  · exact jw_go (fun hx hb _ _ _ k => lv_if_le hx hb hd ht (fun q => absurd q h) (fun _ => k)) (fun _ h v hv => h v (List.mem_cons_of_mem _ hv)) (kf h)
theorem jw_icmp_eq {x y : Int32} {off : Int} (tgt : Nat) (hd : decode Y.1 pc = .ok (.if_icmp .eq off, 3)) (ht : (pc : Int) + off = (tgt : Int)) (kt : x = y → jw G Y d c0 s0 M tgt lc st r M') (kf : ¬ x = y → jw G Y d c0 s0 M (pc + 3) lc st r M') : jw G Y d c0 s0 M pc lc (.inl y :: .inl x :: st) r M' := by
  rcases Classical.em (x = y) with h | h
  · exact jw_go (fun hx hb _ _ _ k => lv_icmp_eq hx hb hd ht (fun _ => k) (fun q => absurd h q)) (fun _ h v hv => h v (List.mem_cons_of_mem _ (List.mem_cons_of_mem _ hv))) (kt h)
  · exact jw_go (fun hx hb _ _ _ k => lv_icmp_eq hx hb hd ht (fun q => absurd q h) (fun _ => k)) (fun _ h v hv => h v (List.mem_cons_of_mem _ (List.mem_cons_of_mem _ hv))) (kf h)
theorem jw_icmp_ne {x y : Int32} {off : Int} (tgt : Nat) (hd : decode Y.1 pc = .ok (.if_icmp .ne off, 3)) (ht : (pc : Int) + off = (tgt : Int)) (kt : ¬ x = y → jw G Y d c0 s0 M tgt lc st r M') (kf : x = y → jw G Y d c0 s0 M (pc + 3) lc st r M') : jw G Y d c0 s0 M pc lc (.inl y :: .inl x :: st) r M' := by
  rcases Classical.em (x = y) with h | h
  · exact jw_go (fun hx hb _ _ _ k => lv_icmp_ne hx hb hd ht (fun q => absurd h q) (fun _ => k)) (fun _ h v hv => h v (List.mem_cons_of_mem _ (List.mem_cons_of_mem _ hv))) (kf h)
  · exact jw_go (fun hx hb _ _ _ k => lv_icmp_ne hx hb hd ht (fun _ => k) (fun q => absurd q h)) (fun _ h v hv => h v (List.mem_cons_of_mem _ (List.mem_cons_of_mem _ hv))) (kt h)
theorem jw_icmp_lt {x y : Int32} {off : Int} (tgt : Nat) (hd : decode Y.1 pc = .ok (.if_icmp .lt off, 3)) (ht : (pc : Int) + off = (tgt : Int)) (kt : x < y → jw G Y d c0 s0 M tgt lc st r M') (kf : ¬ x < y → jw G Y d c0 s0 M (pc + 3) lc st r M') : jw G Y d c0 s0 M pc lc (.inl y :: .inl x :: st) r M' := by
  rcases Classical.em (x < y) with h | h
  · exact jw_go (fun hx hb _ _ _ k => lv_icmp_lt hx hb hd ht (fun _ => k) (fun q => absurd h q)) (fun _ h v hv => h v (List.mem_cons_of_mem _ (List.mem_cons_of_mem _ hv))) (kt h)
  · exact jw_go (fun hx hb _ _ _ k => lv_icmp_lt hx hb hd ht (fun q => absurd q h) (fun _ => k)) (fun _ h v hv => h v (List.mem_cons_of_mem _ (List.mem_cons_of_mem _ hv))) (kf h)
theorem jw_icmp_ge {x y : Int32} {off : Int} (tgt : Nat) (hd : decode Y.1 pc = .ok (.if_icmp .ge off, 3)) (ht : (pc : Int) + off = (tgt : Int)) (kt : y ≤ x → jw G Y d c0 s0 M tgt lc st r M') (kf : ¬ y ≤ x → jw G Y d c0 s0 M (pc + 3) lc st r M') : jw G Y d c0 s0 M pc lc (.inl y :: .inl x :: st) r M' := by
  rcases Classical.em (y ≤ x) with h | h
  · exact jw_go (fun hx hb _ _ _ k => lv_icmp_ge hx hb hd ht (fun _ => k) (fun q => absurd h q)) (fun _ h v hv => h v (List.mem_cons_of_mem _ (List.mem_cons_of_mem _ hv))) (kt h)
  · exact jw_go (fun hx hb _ _ _ k => lv_icmp_ge hx hb hd ht (fun q => absurd q h) (fun _ => k)) (fun _ h v hv => h v (List.mem_cons_of_mem _ (List.mem_cons_of_mem _ hv))) (kf h)
theorem jw_icmp_gt {x y : Int32} {off : Int} (tgt : Nat) (hd : decode Y.1 pc = .ok (.if_icmp .gt off, 3)) (ht : (pc : Int) + off = (tgt : Int)) (kt : y < x → jw G Y d c0 s0 M tgt lc st r M') (kf : ¬ y < x → jw G Y d c0 s0 M (pc + 3) lc st r M') : jw G Y d c0 s0 M pc lc (.inl y :: .inl x :: st) r M' := by
  rcases Classical.em (y < x) with h | h
  · exact jw_go (fun hx hb _ _ _ k => lv_icmp_gt hx hb hd ht (fun _ => k) (fun q => absurd h q)) (fun _ h v hv => h v (List.mem_cons_of_mem _ (List.mem_cons_of_mem _ hv))) (kt h)
  · exact jw_go (fun hx hb _ _ _ k => lv_icmp_gt hx hb hd ht (fun q => absurd q h) (fun _ => k)) (fun _ h v hv => h v (List.mem_cons_of_mem _ (List.mem_cons_of_mem _ hv))) (kf h)
theorem jw_icmp_le {x y : Int32} {off : Int} (tgt : Nat) (hd : decode Y.1 pc = .ok (.if_icmp .le off, 3)) (ht : (pc : Int) + off = (tgt : Int)) (kt : x ≤ y → jw G Y d c0 s0 M tgt lc st r M') (kf : ¬ x ≤ y → jw G Y d c0 s0 M (pc + 3) lc st r M') : jw G Y d c0 s0 M pc lc (.inl y :: .inl x :: st) r M' := by
  rcases Classical.em (x ≤ y) with h | h
  · exact jw_go (fun hx hb _ _ _ k => lv_icmp_le hx hb hd ht (fun _ => k) (fun q => absurd h q)) (fun _ h v hv => h v (List.mem_cons_of_mem _ (List.mem_cons_of_mem _ hv))) (kt h)
  · exact jw_go (fun hx hb _ _ _ k => lv_icmp_le hx hb hd ht (fun q => absurd q h) (fun _ => k)) (fun _ h v hv => h v (List.mem_cons_of_mem _ (List.mem_cons_of_mem _ hv))) (kf h)
theorem jw_ifnull {o : Option (Nat × Nat)} {off : Int} (tgt : Nat) (hd : decode Y.1 pc = .ok (.ifnull off, 3)) (ht : (pc : Int) + off = (tgt : Int)) (kt : o = none → jw G Y d c0 s0 M tgt lc st r M') (kf : ∀ a, o = some a → jw G Y d c0 s0 M (pc + 3) lc st r M') : jw G Y d c0 s0 M pc lc (.inr o :: st) r M' := by
  cases o with
  | none => exact jw_go (fun hx hb _ _ _ k => lv_ifnullN hx hb hd ht k) (fun _ h v hv => h v (List.mem_cons_of_mem _ hv)) (kt rfl)
  | some a => exact jw_go (fun hx hb _ _ _ k => lv_ifnull hx hb hd k) (fun _ h v hv => h v (List.mem_cons_of_mem _ hv)) (kf a rfl)
theorem jw_ifnonnull {o : Option (Nat × Nat)} {off : Int} (tgt : Nat) (hd : decode Y.1 pc = .ok (.ifnonnull off, 3)) (ht : (pc : Int) + off = (tgt : Int)) (kt : ∀ a, o = some a → jw G Y d c0 s0 M tgt lc st r M') (kf : o = none → jw G Y d c0 s0 M (pc + 3) lc st r M') : jw G Y d c0 s0 M pc lc (.inr o :: st) r M' := by
  cases o with
  | none => exact jw_go (fun hx hb _ _ _ k => lv_ifnonnullN hx hb hd k) (fun _ h v hv => h v (List.mem_cons_of_mem _ hv)) (kf rfl)
  | some a => exact jw_go (fun hx hb _ _ _ k => lv_ifnonnull hx hb hd ht k) (fun _ h v hv => h v (List.mem_cons_of_mem _ hv)) (kt a rfl)
theorem jw_tabOut {dflt lo hi : Int} {offs : Array Int} {len : Nat} {x : Int32} (tgt : Nat) (hd : decode Y.1 pc = .ok (.tableswitch dflt lo hi offs, len)) (h : x.toInt < lo ∨ hi < x.toInt) (ht : (pc : Int) + dflt = (tgt : Int)) (k : jw G Y d c0 s0 M tgt lc st r M') : jw G Y d c0 s0 M pc lc (.inl x :: st) r M' :=
  jw_go (fun hx hb _ _ _ k => lv_tableOut hx hb hd h ht k) (fun _ h v hv => h v (List.mem_cons_of_mem _ hv)) k
theorem jw_tabIn {dflt lo hi off : Int} {offs : Array Int} {len : Nat} {x : Int32} (tgt : Nat) (hd : decode Y.1 pc = .ok (.tableswitch dflt lo hi offs, len)) (h1 : ¬ x.toInt < lo) (h2 : ¬ hi < x.toInt) (ho : offs[(x.toInt - lo).toNat]? = some off) (ht : (pc : Int) + off = (tgt : Int)) (k : jw G Y d c0 s0 M tgt lc st r M') : jw G Y d c0 s0 M pc lc (.inl x :: st) r M' :=
  jw_go (fun hx hb _ _ _ k => lv_tableIn hx hb hd h1 h2 ho ht k) (fun _ h v hv => h v (List.mem_cons_of_mem _ hv)) k
end RowsA
end
section
def cf_ok (ci : Nat) (C : String) (T : u_T) (N : Nat) (ty : Nat → FieldType) : Prop := vwCl[ci]? = some (C, T, N) ∧ (∀ w ∈ u_ws C T N, w ∈ TS) ∧ nf ci = N ∧ (∀ k, k < N → parseFieldDescriptor (T k).2.2.1 = some (ty k)) ∧ (∀ a, a < N → ∀ b, b < N → a ≠ b → (T a).2.1 ≠ (T b).2.1)
def fl_ok (own : String) (index : Nat) (ci k : Nat) (C : String) (T : u_T) (N : Nat) (ty : Nat → FieldType) (rf : Bool) : Prop := cf_ok ci C T N ty ∧ k < N ∧ fk ci k = rf ∧ Cond.fieldLink own index (T k).1 (T k).2.1 (T k).2.2.1 ∈ TS
theorem me_ce_o {cA : Nat → ClassId} {ρ : Rh} {M : Me} {s i ci : Nat} (hs : sk s = .inl ci) : me_ce cA ρ M (s, i) = .inr (ci, me_fl ρ M ci s i) := by simp only [me_ce, hs]
theorem me_ce_i {cA : Nat → ClassId} {ρ : Rh} {M : Me} {s i : Nat} (hs : sk s = .inr .int) : me_ce cA ρ M (s, i) = .inl (cA s, me_L M s i, .inl (me_I M s i)) := by simp only [me_ce, hs]
theorem me_ce_q {cA : Nat → ClassId} {ρ : Rh} {M : Me} {s i : Nat} {C : String} (hs : sk s = .inr (.object C)) : me_ce cA ρ M (s, i) = .inl (cA s, me_L M s i, .inr (.inr (.inr (.inr (fun k => av_r ρ (me_P M s i k)))))) := by simp only [me_ce, hs]
theorem jw_mem {G : Gt} {Y : Yt} {d c0 s0 : Nat} {M M' : Me} {pc pc' : Nat} {lc : List (Option AV)} {st st' : List AV} {r : Option AV}
    (h : ∀ {p : Program} {l : Launch} {e : Env} {R : Room} {s : State} {m : MethodId} {args : Array Value} {below : List Frame} {meth : Method} {c : Code} {H : Heap} {locs : List Loc} {cells slots : Nat} {Q : State → Prop} {ls : Array Slot} {ρ : Rh}, fr_ok G Y p s m args meth c → me_rl G ρ M H → va_S (fun q => G.1 ≤ q) s.heap H locs → (∀ v ∈ st, av_ok M v) → W p l e R s m args below meth c H locs cells slots Q (F0 m pc' ls (st'.map (av_tv ρ))) → W p l e R s m args below meth c H locs cells slots Q (F0 m pc ls (st.map (av_tv ρ))))
    (ho : (∀ s i k, i < me_N M s → av_okr M (me_P M s i k)) → (∀ s, st_is s = true → me_N M s = 1) → (∀ v ∈ st, av_ok M v) → ∀ v ∈ st', av_ok M v) (k : jw G Y d c0 s0 M pc' lc st' r M') : jw G Y d c0 s0 M pc lc st r M' :=
  ⟨k.1, fun p l e s m args below meth c ρe ne ρ H locs cells slots ls hF hR hS ha hn hc hs hl hst => h hF hR hS hst (k.2 p l e s m args below meth c ρe ne ρ H locs cells slots ls hF hR hS ha hn hc hs hl (ho hR.choose_spec.2.2.2.2.1 (fun s h => (hR.choose_spec.2.2.2.2.2 s h).1) hst))⟩
theorem jw_wr {G : Gt} {Y : Yt} {d c0 s0 : Nat} {M M2 M' : Me} {pc pc' : Nat} {lc : List (Option AV)} {st st' : List AV} {r : Option AV}
    (hN : me_N M2 = me_N M) (hC : me_C M2 = me_C M) (hSl : me_S M2 = me_S M)
    (h : ∀ {p : Program} {l : Launch} {e : Env} {R : Room} {s : State} {m : MethodId} {args : Array Value} {below : List Frame} {meth : Method} {c : Code} {H : Heap} {locs : List Loc} {cells slots : Nat} {Q : State → Prop} {ls : Array Slot} {ρ : Rh}, fr_ok G Y p s m args meth c → me_rl G ρ M H → va_S (fun q => G.1 ≤ q) s.heap H locs → (∀ v ∈ st, av_ok M v) → (∀ (H1 : Heap) (locs1 : List Loc), me_rl G ρ M2 H1 → va_S (fun q => G.1 ≤ q) s.heap H1 locs1 → W p l e R s m args below meth c H1 locs1 cells slots Q (F0 m pc' ls (st'.map (av_tv ρ)))) → W p l e R s m args below meth c H locs cells slots Q (F0 m pc ls (st.map (av_tv ρ))))
    (ho : ∀ v ∈ st', v ∈ st) (k : jw G Y d c0 s0 M2 pc' lc st' r M') : jw G Y d c0 s0 M pc lc st r M' := by
  have hle : ∀ a, me_N M a ≤ me_N M2 a := fun a => by rw [hN]; exact Nat.le_refl _
  refine ⟨by rw [← hC, ← hSl]; exact k.1, fun p l e s m args below meth c ρe ne ρ H locs cells slots ls hF hR hS ha hn hc hs hl hst => h hF hR hS hst (fun H1 locs1 hR1 hS1 => k.2 p l e s m args below meth c ρe ne ρ H1 locs1 cells slots ls hF hR1 hS1 ha (fun a => Nat.le_trans (hn a) (hle a)) (by rw [hC]; exact hc) (by rw [hSl]; exact hs) (lc_mono hl hle (fun _ _ _ => rfl)) (fun v hv => av_ok_mono hle (hst v (ho v hv))))⟩
section RowsB
variable {G : Gt} {Y : Yt} {d c0 s0 : Nat} {M M' : Me} {pc : Nat} {lc : List (Option AV)} {st : List AV} {r : Option AV}
theorem jw_getI {s i index ci k : Nat} {C : String} {T : u_T} {N : Nat} {ty : Nat → FieldType} (hf : fl_ok Y.2.2.1 index ci k C T N ty false) (hd : decode Y.1 pc = .ok (.getfield index, 3)) (hs : sk s = .inl ci) (ht : st_is s = false) (kk : jw G Y d c0 s0 M (pc + 3) lc (.inl (me_I M s i k) :: st) r M') : jw G Y d c0 s0 M pc lc (.inr (some (s, i)) :: st) r M' := by
  obtain ⟨⟨h1, h2, h3, h4, h5⟩, hk, hfk, hl⟩ := hf
  refine jw_mem ?_ (fun _ _ h v hv => by rcases List.mem_cons.mp hv with rfl | hv; exact av_ok_i; exact h v (List.mem_cons_of_mem _ hv)) kk
  intro p l e R s' m args below meth c H locs cells slots Q ls ρ hF hR hS hst kW
  obtain ⟨ord, hnd, hmem, hP, hD, hok, hsx⟩ := hR
  have hi : i < me_N M s := hst _ List.mem_cons_self (s, i) rfl
  obtain ⟨n, hn, he⟩ := me_at (cA := G.2.2.1) (ρ := ρ) (M := M) ((hmem (s, i)).mpr ⟨hi, ht⟩)
  rw [me_ce_o hs] at he
  refine va_get hF.1 hF.2.1 hF.2.2.2.2.2.2.1 h2 hF.2.2.2.1 (gk_K hF.2.2.2.2.2.2.2.2.1) hP n he h1 k hk (hF.2.2.2.2.2.2.1 _ hl) (fun _ h9 => h9) (v := .int (me_I M s i k)) ?_ hd kW
  rw [me_fl_get (by rw [h3]; exact hk), hfk]; rfl
theorem jw_getP {s i index ci k : Nat} {C : String} {T : u_T} {N : Nat} {ty : Nat → FieldType} (hf : fl_ok Y.2.2.1 index ci k C T N ty true) (hd : decode Y.1 pc = .ok (.getfield index, 3)) (hs : sk s = .inl ci) (ht : st_is s = false) (kk : jw G Y d c0 s0 M (pc + 3) lc (.inr (me_P M s i k) :: st) r M') : jw G Y d c0 s0 M pc lc (.inr (some (s, i)) :: st) r M' := by
  obtain ⟨⟨h1, h2, h3, h4, h5⟩, hk, hfk, hl⟩ := hf
  refine jw_mem ?_ (fun hq _ h v hv => by rcases List.mem_cons.mp hv with rfl | hv; exact av_ok_r (hq s i k (h _ List.mem_cons_self (s, i) rfl)); exact h v (List.mem_cons_of_mem _ hv)) kk
  intro p l e R s' m args below meth c H locs cells slots Q ls ρ hF hR hS hst kW
  obtain ⟨ord, hnd, hmem, hP, hD, hok, hsx⟩ := hR
  have hi : i < me_N M s := hst _ List.mem_cons_self (s, i) rfl
  obtain ⟨n, hn, he⟩ := me_at (cA := G.2.2.1) (ρ := ρ) (M := M) ((hmem (s, i)).mpr ⟨hi, ht⟩)
  rw [me_ce_o hs] at he
  refine va_get hF.1 hF.2.1 hF.2.2.2.2.2.2.1 h2 hF.2.2.2.1 (gk_K hF.2.2.2.2.2.2.2.2.1) hP n he h1 k hk (hF.2.2.2.2.2.2.1 _ hl) (fun _ h9 => h9) (v := va_rf (av_r ρ (me_P M s i k))) ?_ hd kW
  rw [me_fl_get (by rw [h3]; exact hk), hfk]; rfl
theorem jw_putI {s i index ci k : Nat} {C : String} {T : u_T} {N : Nat} {ty : Nat → FieldType} {x : Int32} (hf : fl_ok Y.2.2.1 index ci k C T N ty false) (hfin : (T k).2.2.2 = false ∨ (Y.2.2.2.1 = "<init>" ∧ (T k).1 = Y.2.2.1)) (hn : narrow (ty k) (.int x) = .int x) (hfit : fits (ty k) (.int x) = true) (hd : decode Y.1 pc = .ok (.putfield index, 3)) (hs : sk s = .inl ci) (ht : st_is s = false) (kk : jw G Y d c0 s0 (me_sI M s i k x) (pc + 3) lc st r M') : jw G Y d c0 s0 M pc lc (.inl x :: .inr (some (s, i)) :: st) r M' := by
  obtain ⟨⟨h1, h2, h3, h4, h5⟩, hk, hfk, hl⟩ := hf
  refine jw_wr (M2 := me_sI M s i k x) rfl rfl rfl ?_ (fun v hv => List.mem_cons_of_mem _ (List.mem_cons_of_mem _ hv)) kk
  intro p l e R s' m args below meth c H locs cells slots Q ls ρ hF hR hS hst kW
  obtain ⟨ord, hnd, hmem, hP, hD, hok, hsx⟩ := hR
  have hi : i < me_N M s := hst _ (List.mem_cons_of_mem _ List.mem_cons_self) (s, i) rfl
  obtain ⟨n, hn', he⟩ := me_at (cA := G.2.2.1) (ρ := ρ) (M := M) ((hmem (s, i)).mpr ⟨hi, ht⟩)
  rw [me_ce_o hs] at he
  have hce : me_ce G.2.2.1 ρ (me_sI M s i k x) (s, i) = .inr (ci, (me_fl ρ M ci s i).set k (.int x)) := by rw [me_ce_o hs, me_fl_setI hfk]
  rcases hfin with hfin | hfin
  · exact va_put hF.1 hF.2.1 hF.2.2.2.2.2.2.1 h2 ty h4 h5 hF.2.2.2.1 (gk_K hF.2.2.2.2.2.2.2.2.1) hP hD hS n he h1 k hk (hF.2.2.2.2.2.2.1 _ hl) (fun _ h9 => h9) hfin (h4 k hk) hn hfit (by rw [me_fl_len, h3]; exact hk) hd (fun H1 locs1 hP1 hD1 hS1 => kW H1 locs1 (me_putI hnd hmem hok hsx hn' hce hP1 hD1) hS1)
  · cases hf2 : (T k).2.2.2 with
    | false => exact va_put hF.1 hF.2.1 hF.2.2.2.2.2.2.1 h2 ty h4 h5 hF.2.2.2.1 (gk_K hF.2.2.2.2.2.2.2.2.1) hP hD hS n he h1 k hk (hF.2.2.2.2.2.2.1 _ hl) (fun _ h9 => h9) hf2 (h4 k hk) hn hfit (by rw [me_fl_len, h3]; exact hk) hd (fun H1 locs1 hP1 hD1 hS1 => kW H1 locs1 (me_putI hnd hmem hok hsx hn' hce hP1 hD1) hS1)
    | true => exact va_putF hF.1 hF.2.1 hF.2.2.2.2.2.2.1 h2 ty h4 h5 hF.2.2.2.1 (gk_K hF.2.2.2.2.2.2.2.2.1) hP hD hS n he h1 k hk (hF.2.2.2.2.2.2.1 _ hl) (fun _ h9 => h9) hf2 (hF.2.2.2.2.1.trans hfin.1) hfin.2 (h4 k hk) hn hfit (by rw [me_fl_len, h3]; exact hk) hd (fun H1 locs1 hP1 hD1 hS1 => kW H1 locs1 (me_putI hnd hmem hok hsx hn' hce hP1 hD1) hS1)
theorem jw_putP {s i index ci k : Nat} {C : String} {T : u_T} {N : Nat} {ty : Nat → FieldType} {x : Option (Nat × Nat)} (hf : fl_ok Y.2.2.1 index ci k C T N ty true) (hfin : (T k).2.2.2 = false ∨ (Y.2.2.2.1 = "<init>" ∧ (T k).1 = Y.2.2.1)) (hn : ∀ z : Option Nat, narrow (ty k) (va_rf z) = va_rf z) (hfit : ∀ z : Option Nat, fits (ty k) (va_rf z) = true) (hd : decode Y.1 pc = .ok (.putfield index, 3)) (hs : sk s = .inl ci) (ht : st_is s = false) (kk : jw G Y d c0 s0 (me_sP M s i k x) (pc + 3) lc st r M') : jw G Y d c0 s0 M pc lc (.inr x :: .inr (some (s, i)) :: st) r M' := by
  obtain ⟨⟨h1, h2, h3, h4, h5⟩, hk, hfk, hl⟩ := hf
  refine jw_wr (M2 := me_sP M s i k x) rfl rfl rfl ?_ (fun v hv => List.mem_cons_of_mem _ (List.mem_cons_of_mem _ hv)) kk
  intro p l e R s' m args below meth c H locs cells slots Q ls ρ hF hR hS hst kW
  obtain ⟨ord, hnd, hmem, hP, hD, hok, hsx⟩ := hR
  have hi : i < me_N M s := hst _ (List.mem_cons_of_mem _ List.mem_cons_self) (s, i) rfl
  have hxo : av_okr M x := fun a e => hst _ List.mem_cons_self a (congrArg _ e)
  obtain ⟨n, hn', he⟩ := me_at (cA := G.2.2.1) (ρ := ρ) (M := M) ((hmem (s, i)).mpr ⟨hi, ht⟩)
  rw [me_ce_o hs] at he
  have hce : me_ce G.2.2.1 ρ (me_sP M s i k x) (s, i) = .inr (ci, (me_fl ρ M ci s i).set k (va_rf (av_r ρ x))) := by rw [me_ce_o hs, me_fl_setP hfk]
  have hput : (T k).2.2.2 = false → W p l e R s' m args below meth c H locs cells slots Q (F0 m pc ls (va_rf (av_r ρ x) :: .ref (ρ s i) :: st.map (av_tv ρ))) := fun hf2 => va_put hF.1 hF.2.1 hF.2.2.2.2.2.2.1 h2 ty h4 h5 hF.2.2.2.1 (gk_K hF.2.2.2.2.2.2.2.2.1) hP hD hS n he h1 k hk (hF.2.2.2.2.2.2.1 _ hl) (fun _ h9 => h9) hf2 (h4 k hk) (hn _) (hfit _) (by rw [me_fl_len, h3]; exact hk) hd (fun H1 locs1 hP1 hD1 hS1 => kW H1 locs1 (me_putP hxo hnd hmem hok hsx hn' hce hP1 hD1) hS1)
  rcases hfin with hfin | hfin
  · exact hput hfin
  · cases hf2 : (T k).2.2.2 with
    | false => exact hput hf2
    | true => exact va_putF hF.1 hF.2.1 hF.2.2.2.2.2.2.1 h2 ty h4 h5 hF.2.2.2.1 (gk_K hF.2.2.2.2.2.2.2.2.1) hP hD hS n he h1 k hk (hF.2.2.2.2.2.2.1 _ hl) (fun _ h9 => h9) hf2 (hF.2.2.2.2.1.trans hfin.1) hfin.2 (h4 k hk) (hn _) (hfit _) (by rw [me_fl_len, h3]; exact hk) hd (fun H1 locs1 hP1 hD1 hS1 => kW H1 locs1 (me_putP hxo hnd hmem hok hsx hn' hce hP1 hD1) hS1)
theorem jw_iald {s i : Nat} {x : Int32} (hd : decode Y.1 pc = .ok (.iaload, 1)) (hs : sk s = .inr .int) (ht : st_is s = false) (hin : vp_in x (me_L M s i)) (kk : jw G Y d c0 s0 M (pc + 1) lc (.inl (me_I M s i x.toNatClampNeg) :: st) r M') : jw G Y d c0 s0 M pc lc (.inl x :: .inr (some (s, i)) :: st) r M' := by
  refine jw_mem ?_ (fun _ _ h v hv => by rcases List.mem_cons.mp hv with rfl | hv; exact av_ok_i; exact h v (List.mem_cons_of_mem _ (List.mem_cons_of_mem _ hv))) kk
  intro p l e R s' m args below meth c H locs cells slots Q ls ρ hF hR hS hst kW
  obtain ⟨ord, hnd, hmem, hP, hD, hok, hsx⟩ := hR
  have hi : i < me_N M s := hst _ (List.mem_cons_of_mem _ List.mem_cons_self) (s, i) rfl
  obtain ⟨n, hn', he⟩ := me_at (cA := G.2.2.1) (ρ := ρ) (M := M) ((hmem (s, i)).mpr ⟨hi, ht⟩)
  rw [me_ce_i hs] at he
  obtain ⟨t0, ht0⟩ := gk_ar hF.2.2.2.2.2.2.2.2.1 s .int (by rw [ar_ty, hs])
  exact va_iald hF.1 hF.2.1 (gk_K hF.2.2.2.2.2.2.2.2.1) hP n t0 he ht0 hin hd kW
theorem jw_iast {s i : Nat} {x y : Int32} (hd : decode Y.1 pc = .ok (.iastore, 1)) (hs : sk s = .inr .int) (ht : st_is s = false) (hin : vp_in x (me_L M s i)) (kk : jw G Y d c0 s0 (me_sI M s i x.toNatClampNeg y) (pc + 1) lc st r M') : jw G Y d c0 s0 M pc lc (.inl y :: .inl x :: .inr (some (s, i)) :: st) r M' := by
  refine jw_wr (M2 := me_sI M s i x.toNatClampNeg y) rfl rfl rfl ?_ (fun v hv => List.mem_cons_of_mem _ (List.mem_cons_of_mem _ (List.mem_cons_of_mem _ hv))) kk
  intro p l e R s' m args below meth c H locs cells slots Q ls ρ hF hR hS hst kW
  obtain ⟨ord, hnd, hmem, hP, hD, hok, hsx⟩ := hR
  have hi : i < me_N M s := hst _ (List.mem_cons_of_mem _ (List.mem_cons_of_mem _ List.mem_cons_self)) (s, i) rfl
  obtain ⟨n, hn', he⟩ := me_at (cA := G.2.2.1) (ρ := ρ) (M := M) ((hmem (s, i)).mpr ⟨hi, ht⟩)
  rw [me_ce_i hs] at he
  obtain ⟨t0, ht0⟩ := gk_ar hF.2.2.2.2.2.2.2.2.1 s .int (by rw [ar_ty, hs])
  have hce : me_ce G.2.2.1 ρ (me_sI M s i x.toNatClampNeg y) (s, i) = .inl (G.2.2.1 s, me_L M s i, .inl (upd (me_I M s i) x.toNatClampNeg y)) := by
    rw [me_ce_i hs]
    have : me_I (me_sI M s i x.toNatClampNeg y) s i = upd (me_I M s i) x.toNatClampNeg y := funext fun j => by
      rw [me_I_sI]; unfold upd; simp
    rw [this]; rfl
  exact va_iast hF.1 hF.2.1 (gk_K hF.2.2.2.2.2.2.2.2.1) hP hD hS n t0 he ht0 hin hd (fun H1 locs1 hP1 hD1 hS1 => kW H1 locs1 (me_putI hnd hmem hok hsx hn' hce hP1 hD1) hS1)
theorem jw_aald {s i : Nat} {x : Int32} {C : String} (hd : decode Y.1 pc = .ok (.aaload, 1)) (hs : sk s = .inr (.object C)) (ht : st_is s = false) (hin : vp_in x (me_L M s i)) (kk : jw G Y d c0 s0 M (pc + 1) lc (.inr (me_P M s i x.toNatClampNeg) :: st) r M') : jw G Y d c0 s0 M pc lc (.inl x :: .inr (some (s, i)) :: st) r M' := by
  refine jw_mem ?_ (fun hq _ h v hv => by rcases List.mem_cons.mp hv with rfl | hv; exact av_ok_r (hq s i _ (h _ (List.mem_cons_of_mem _ List.mem_cons_self) (s, i) rfl)); exact h v (List.mem_cons_of_mem _ (List.mem_cons_of_mem _ hv))) kk
  intro p l e R s' m args below meth c H locs cells slots Q ls ρ hF hR hS hst kW
  obtain ⟨ord, hnd, hmem, hP, hD, hok, hsx⟩ := hR
  have hi : i < me_N M s := hst _ (List.mem_cons_of_mem _ List.mem_cons_self) (s, i) rfl
  obtain ⟨n, hn', he⟩ := me_at (cA := G.2.2.1) (ρ := ρ) (M := M) ((hmem (s, i)).mpr ⟨hi, ht⟩)
  rw [me_ce_q hs] at he
  obtain ⟨t0, ht0⟩ := gk_ar hF.2.2.2.2.2.2.2.2.1 s (.object C) (by rw [ar_ty, hs])
  exact va_aldq hF.1 hF.2.1 (gk_K hF.2.2.2.2.2.2.2.2.1) hP n t0 he ht0 hin hd kW
theorem jw_aast {s i s2 i2 ci : Nat} {x : Int32} {C : String} {T : u_T} {N : Nat} {ty : Nat → FieldType} (hcf : cf_ok ci C T N ty) (hd : decode Y.1 pc = .ok (.aastore, 1)) (hs : sk s = .inr (.object C)) (ht : st_is s = false) (hs2 : sk s2 = .inl ci) (ht2 : st_is s2 = false) (hin : vp_in x (me_L M s i)) (kk : jw G Y d c0 s0 (me_sP M s i x.toNatClampNeg (some (s2, i2))) (pc + 1) lc st r M') : jw G Y d c0 s0 M pc lc (.inr (some (s2, i2)) :: .inl x :: .inr (some (s, i)) :: st) r M' := by
  obtain ⟨h1, h2, h3, h4, h5⟩ := hcf
  refine jw_wr (M2 := me_sP M s i x.toNatClampNeg (some (s2, i2))) rfl rfl rfl ?_ (fun v hv => List.mem_cons_of_mem _ (List.mem_cons_of_mem _ (List.mem_cons_of_mem _ hv))) kk
  intro p l e R s' m args below meth c H locs cells slots Q ls ρ hF hR hS hst kW
  obtain ⟨ord, hnd, hmem, hP, hD, hok, hsx⟩ := hR
  have hi : i < me_N M s := hst _ (List.mem_cons_of_mem _ (List.mem_cons_of_mem _ List.mem_cons_self)) (s, i) rfl
  have hi2 : i2 < me_N M s2 := hst _ List.mem_cons_self (s2, i2) rfl
  have hxo : av_okr M (some (s2, i2)) := fun a e => by cases e; exact hi2
  obtain ⟨n, hn', he⟩ := me_at (cA := G.2.2.1) (ρ := ρ) (M := M) ((hmem (s, i)).mpr ⟨hi, ht⟩)
  obtain ⟨n2, hn2, he2⟩ := me_at (cA := G.2.2.1) (ρ := ρ) (M := M) ((hmem (s2, i2)).mpr ⟨hi2, ht2⟩)
  rw [me_ce_q hs] at he
  rw [me_ce_o hs2] at he2
  obtain ⟨t0, ht0⟩ := gk_ar hF.2.2.2.2.2.2.2.2.1 s (.object C) (by rw [ar_ty, hs])
  have hce : me_ce G.2.2.1 ρ (me_sP M s i x.toNatClampNeg (some (s2, i2))) (s, i) = .inl (G.2.2.1 s, me_L M s i, .inr (.inr (.inr (.inr (va_up (fun k => av_r ρ (me_P M s i k)) x.toNatClampNeg (some (ρ s2 i2))))))) := by
    rw [me_ce_q hs]
    have : (fun k => av_r ρ (me_P (me_sP M s i x.toNatClampNeg (some (s2, i2))) s i k)) = va_up (fun k => av_r ρ (me_P M s i k)) x.toNatClampNeg (some (ρ s2 i2)) := funext fun j => by
      rw [me_P_sP]; unfold va_up; by_cases hj : j = x.toNatClampNeg <;> simp [hj, av_r]
    rw [this]; rfl
  exact va_astq hF.1 hF.2.1 (gk_K hF.2.2.2.2.2.2.2.2.1) hP hD hS n t0 n2 ci (r := (C, T, N)) he ht0 he2 h1 hin hd (fun H1 locs1 hP1 hD1 hS1 => kW H1 locs1 (me_putP hxo hnd hmem hok hsx hn' hce hP1 hD1) hS1)
theorem jw_alen {s i : Nat} {ty : FieldType} (v : Int32) (hd : decode Y.1 pc = .ok (.arraylength, 1)) (hs : ar_ty s = some ty) (ht : st_is s = false) (hv : Int32.ofNat (me_L M s i) = v) (kk : jw G Y d c0 s0 M (pc + 1) lc (.inl v :: st) r M') : jw G Y d c0 s0 M pc lc (.inr (some (s, i)) :: st) r M' := by
  refine jw_mem ?_ (fun _ _ h v hv => by rcases List.mem_cons.mp hv with rfl | hv; exact av_ok_i; exact h v (List.mem_cons_of_mem _ hv)) kk
  intro p l e R s' m args below meth c H locs cells slots Q ls ρ hF hR hS hst kW
  obtain ⟨ord, hnd, hmem, hP, hD, hok, hsx⟩ := hR
  have hi : i < me_N M s := hst _ List.mem_cons_self (s, i) rfl
  obtain ⟨n, hn', he⟩ := me_at (cA := G.2.2.1) (ρ := ρ) (M := M) ((hmem (s, i)).mpr ⟨hi, ht⟩)
  obtain ⟨t0, ht0⟩ := gk_ar hF.2.2.2.2.2.2.2.2.1 s ty hs
  have h1 : ∃ x : vp_A, me_ce G.2.2.1 ρ M (s, i) = .inl (G.2.2.1 s, x) ∧ x.1 = me_L M s i := by
    cases hsk : sk s with
    | inl ci => rw [ar_ty, hsk] at hs; cases hs
    | inr o => cases o <;> (simp only [me_ce, hsk]; exact ⟨_, rfl, rfl⟩)
  obtain ⟨x, hx1, hx2⟩ := h1
  rw [hx1] at he
  exact va_alen hF.1 hF.2.1 (gk_K hF.2.2.2.2.2.2.2.2.1) hP n t0 he ht0 (by rw [hx2]; exact hv) hd kW
theorem me_ce_z {cA : Nat → ClassId} {ρ : Rh} {M : Me} {s i : Nat} (hs : sk s = .inr .boolean) : me_ce cA ρ M (s, i) = .inl (cA s, me_L M s i, .inl (me_I M s i)) := by simp only [me_ce, hs]
theorem jw_zald {s i : Nat} {x : Int32} (hd : decode Y.1 pc = .ok (.baload, 1)) (hs : sk s = .inr .boolean) (ht : st_is s = false) (hin : vp_in x (me_L M s i)) (kk : jw G Y d c0 s0 M (pc + 1) lc (.inl (me_I M s i x.toNatClampNeg) :: st) r M') : jw G Y d c0 s0 M pc lc (.inl x :: .inr (some (s, i)) :: st) r M' := by
  refine jw_mem ?_ (fun _ _ h v hv => by rcases List.mem_cons.mp hv with rfl | hv; exact av_ok_i; exact h v (List.mem_cons_of_mem _ (List.mem_cons_of_mem _ hv))) kk
  intro p l e R s' m args below meth c H locs cells slots Q ls ρ hF hR hS hst kW
  obtain ⟨ord, hnd, hmem, hP, hD, hok, hsx⟩ := hR
  have hi : i < me_N M s := hst _ (List.mem_cons_of_mem _ List.mem_cons_self) (s, i) rfl
  obtain ⟨n, hn', he⟩ := me_at (cA := G.2.2.1) (ρ := ρ) (M := M) ((hmem (s, i)).mpr ⟨hi, ht⟩)
  rw [me_ce_z hs] at he
  obtain ⟨t0, ht0⟩ := gk_ar hF.2.2.2.2.2.2.2.2.1 s .boolean (by rw [ar_ty, hs])
  exact va_zald hF.1 hF.2.1 (gk_K hF.2.2.2.2.2.2.2.2.1) hP n t0 he ht0 hin hd kW
theorem jw_zast {s i : Nat} {x y : Int32} (hd : decode Y.1 pc = .ok (.bastore, 1)) (hs : sk s = .inr .boolean) (ht : st_is s = false) (hin : vp_in x (me_L M s i)) (hy : y = 0 ∨ y = 1) (kk : jw G Y d c0 s0 (me_sI M s i x.toNatClampNeg y) (pc + 1) lc st r M') : jw G Y d c0 s0 M pc lc (.inl y :: .inl x :: .inr (some (s, i)) :: st) r M' := by
  refine jw_wr (M2 := me_sI M s i x.toNatClampNeg y) rfl rfl rfl ?_ (fun v hv => List.mem_cons_of_mem _ (List.mem_cons_of_mem _ (List.mem_cons_of_mem _ hv))) kk
  intro p l e R s' m args below meth c H locs cells slots Q ls ρ hF hR hS hst kW
  obtain ⟨ord, hnd, hmem, hP, hD, hok, hsx⟩ := hR
  have hi : i < me_N M s := hst _ (List.mem_cons_of_mem _ (List.mem_cons_of_mem _ List.mem_cons_self)) (s, i) rfl
  obtain ⟨n, hn', he⟩ := me_at (cA := G.2.2.1) (ρ := ρ) (M := M) ((hmem (s, i)).mpr ⟨hi, ht⟩)
  rw [me_ce_z hs] at he
  obtain ⟨t0, ht0⟩ := gk_ar hF.2.2.2.2.2.2.2.2.1 s .boolean (by rw [ar_ty, hs])
  have hyn : vp_nar .boolean y = y := by rcases hy with rfl | rfl <;> rfl
  have hce : me_ce G.2.2.1 ρ (me_sI M s i x.toNatClampNeg y) (s, i) = .inl (G.2.2.1 s, me_L M s i, .inl (upd (me_I M s i) x.toNatClampNeg (vp_nar .boolean y))) := by
    rw [me_ce_z hs, hyn]
    have : me_I (me_sI M s i x.toNatClampNeg y) s i = upd (me_I M s i) x.toNatClampNeg y := funext fun j => by
      rw [me_I_sI]; unfold upd; simp
    rw [this]; rfl
  exact va_zast hF.1 hF.2.1 (gk_K hF.2.2.2.2.2.2.2.2.1) hP hD hS n t0 he ht0 hin hd (fun H1 locs1 hP1 hD1 hS1 => kW H1 locs1 (me_putI hnd hmem hok hsx hn' hce hP1 hD1) hS1)
theorem st_all : ∀ q ∈ st_l, st_is q.1 = true := by decide
theorem jw_gets {index : Nat} {q : Nat × String × List Int32} (hq : q ∈ st_l) (hl : Cond.fieldLink Y.2.2.1 index "PollYard" q.2.1 "[I" ∈ TS) (hd : decode Y.1 pc = .ok (.getstatic index, 3)) (kk : jw G Y d c0 s0 M (pc + 3) lc (.inr (some (q.1, 0)) :: st) r M') : jw G Y d c0 s0 M pc lc st r M' := by
  refine jw_mem ?_ (fun _ h1 h v hv => by
    rcases List.mem_cons.mp hv with rfl | hv
    · intro a e; cases e; rw [h1 _ (st_all q hq)]; exact Nat.zero_lt_one
    · exact h v hv) kk
  intro p l e R s' m args below meth c H locs cells slots Q ls ρ hF hR hS hst kW
  have h2 := (hR.choose_spec.2.2.2.2.2 q.1 (st_all q hq)).2
  refine va_gets (v := .ref (ρ q.1 0)) hF.1 hF.2.1 (A := fun a => G.1 ≤ a) ?_ hS hF.2.2.2.1 (hF.2.2.2.2.2.2.1 _ hl) (fun _ h9 => h9) hd kW
  rw [h2]; exact (hF.2.2.2.2.2.2.2.2.1.2.2.2.2 q hq).1
theorem jw_getsN {index : Nat} {q : Nat × String × List Int32} {host : String} (hq : q ∈ st_l) (hl : Cond.fieldLinkNest Y.2.2.1 index "PollYard" q.2.1 "[I" host ∈ nest_w) (hd : decode Y.1 pc = .ok (.getstatic index, 3)) (kk : jw G Y d c0 s0 M (pc + 3) lc (.inr (some (q.1, 0)) :: st) r M') : jw G Y d c0 s0 M pc lc st r M' := by
  refine jw_mem ?_ (fun _ h1 h v hv => by
    rcases List.mem_cons.mp hv with rfl | hv
    · intro a e; cases e; rw [h1 _ (st_all q hq)]; exact Nat.zero_lt_one
    · exact h v hv) kk
  intro p l e R s' m args below meth c H locs cells slots Q ls ρ hF hR hS hst kW
  have h2 := (hR.choose_spec.2.2.2.2.2 q.1 (st_all q hq)).2
  refine va_getsN (v := .ref (ρ q.1 0)) hF.1 hF.2.1 (A := fun a => G.1 ≤ a) ?_ hS hF.2.2.2.1 (va_Nw.use rfl (hF.2.2.2.2.2.2.2.2.1.2.2.1 _ hl)) (fun _ h9 => h9) hd kW
  rw [h2]; exact (hF.2.2.2.2.2.2.2.2.1.2.2.2.2 q hq).1
theorem jw_ialdS {q : Nat × String × List Int32} {x : Int32} (hq : q ∈ st_l) (hd : decode Y.1 pc = .ok (.iaload, 1)) (hin : vp_in x 16) (kk : jw G Y d c0 s0 M (pc + 1) lc (.inl (q.2.2.getD x.toNatClampNeg 0) :: st) r M') : jw G Y d c0 s0 M pc lc (.inl x :: .inr (some (q.1, 0)) :: st) r M' := by
  refine jw_mem ?_ (fun _ _ h v hv => by rcases List.mem_cons.mp hv with rfl | hv; exact av_ok_i; exact h v (List.mem_cons_of_mem _ (List.mem_cons_of_mem _ hv))) kk
  intro p l e R s' m args below meth c H locs cells slots Q ls ρ hF hR hS hst kW
  have h2 := (hR.choose_spec.2.2.2.2.2 q.1 (st_all q hq)).2
  have hT := (hF.2.2.2.2.2.2.2.2.1.2.2.2.2 q hq).2
  rw [← h2] at hT
  exact va_ti hF.1 hF.2.1 hT hS hin rfl hd kW
end RowsB
end
section
theorem gk_cA {G : Gt} {U : State} {H : Heap} (h : gk_ok G U H) {s : Nat} {ty : FieldType} (hs : ar_ty s = some ty) {cA : ClassId} (hR : va_RA U cA ty) : cA = G.2.2.1 s := by
  obtain ⟨t0, ht0⟩ := gk_ar h s ty hs
  have h2 := ((gk_K h).2 t0 _ ht0).2
  cases ty with
  | object C =>
    obtain ⟨_, _, _, _, _, e1⟩ := hR
    obtain ⟨_, _, _, _, _, e2⟩ := h2
    exact Option.some.inj (e1.symm.trans e2)
  | _ => exact Option.some.inj (Eq.trans (Eq.symm hR) h2)
section RowsC
variable {G : Gt} {Y : Yt} {d c0 s0 : Nat} {M M' : Me} {pc : Nat} {lc : List (Option AV)} {st : List AV} {r : Option AV}
theorem jw_mk {pc' s len sl : Nat} {st0 : List AV} (hst0 : ∀ v ∈ st, v ∈ st0)
    (h : ∀ {p : Program} {l : Launch} {e : Env} {R : Room} {s' : State} {m : MethodId} {args : Array Value} {below : List Frame} {meth : Method} {c : Code} {H : Heap} {locs : List Loc} {cells slots : Nat} {Q : State → Prop} {ls : Array Slot} {ρ : Rh}, fr_ok G Y p s' m args meth c → me_rl G ρ M H → va_S (fun q => G.1 ≤ q) s'.heap H locs → cells + 1 ≤ R.cells → slots + sl ≤ R.slots → (∀ (q : Nat) (H1 : Heap), me_rl G (rh_up ρ s (me_N M s) q) (me_nw M s len sl) H1 → va_S (fun q => G.1 ≤ q) s'.heap H1 locs → W p l e R s' m args below meth c H1 locs (cells + 1) (slots + sl) Q (F0 m pc' ls (.ref q :: st.map (av_tv ρ)))) → W p l e R s' m args below meth c H locs cells slots Q (F0 m pc ls (st0.map (av_tv ρ))))
    (kk : jw G Y d c0 s0 (me_nw M s len sl) pc' lc (.inr (some (s, me_N M s)) :: st) r M') : jw G Y d c0 s0 M pc lc st0 r M' := by
  have k1 := kk.1
  rw [me_C_nw, me_S_nw] at k1
  refine ⟨⟨by omega, by omega⟩, fun p l e s' m args below meth c ρe ne ρ H locs cells slots ls hF hR hS ha hn hc hs hl hst => ?_⟩
  refine h hF hR hS (show cells + 1 ≤ me_C M' - c0 by omega) (show slots + sl ≤ me_S M' - s0 by omega) (fun q H1 hR1 hS1 => ?_)
  have he : Value.ref q :: st.map (av_tv ρ) = ((.inr (some (s, me_N M s)) : AV) :: st).map (av_tv (rh_up ρ s (me_N M s) q)) := by
    rw [List.map_cons, av_map_eq (M := M) (ρ := ρ) (fun v hv => hst v (hst0 v hv)) rh_up_eq]
    congr 1
    show Value.ref q = Value.ref (rh_up ρ s (me_N M s) q s (me_N M s))
    simp [rh_up]
  rw [he]
  refine kk.2 p l e s' m args below meth c ρe ne _ H1 locs (cells + 1) (slots + sl) ls hF hR1 hS1 (fun a b hb => (rh_up_eq (M := M) a b (Nat.lt_of_lt_of_le hb (hn a))).trans (ha a b hb)) (fun a => Nat.le_trans (hn a) (me_N_le_nw M s len sl a)) (by rw [me_C_nw]; omega) (by rw [me_S_nw]; omega) (lc_mono hl (me_N_le_nw M s len sl) rh_up_eq) ?_
  intro v hv
  rcases List.mem_cons.mp hv with rfl | hv
  · intro a e
    cases e
    rw [me_N_nw, if_pos rfl]
    exact Nat.lt_succ_self _
  · exact av_ok_mono (me_N_le_nw M s len sl) (hst v (hst0 v hv))
theorem jw_new {s index ci : Nat} {C : String} {T : u_T} {N : Nat} {ty : Nat → FieldType} (hcf : cf_ok ci C T N ty) (hdf : ∀ j, j < N → defaultValue (ty j) = if fk ci j = true then .null else .int 0) (hcl : Cond.classLink Y.2.2.1 index C ∈ TS) (hinst : Cond.instantiable C N ∈ TS) (hini : Cond.initialized C ∈ TS) (hd : decode Y.1 pc = .ok (.new index, 3)) (hs : sk s = .inl ci) (ht : st_is s = false)
    (kk : jw G Y d c0 s0 (me_nw M s 0 N) (pc + 3) lc (.inr (some (s, me_N M s)) :: st) r M') : jw G Y d c0 s0 M pc lc st r M' := by
  obtain ⟨h1, h2, h3, h4, h5⟩ := hcf
  refine jw_mk (fun v hv => hv) ?_ kk
  intro p l e R s' m args below meth c H locs cells slots Q ls ρ hF hR hS hc1 hs1 kW
  obtain ⟨ord, hnd, hmem, hP, hD, hok, hsx⟩ := hR
  have hts := hF.2.2.2.2.2.2.1
  refine va_new (fs := (List.range (nf ci)).map (fun k => if fk ci k = true then Value.null else .int 0)) hF.1 hF.2.1 hts h2 ty h4 hF.2.2.2.1 (hts _ hcl) (hts _ hinst) (hts _ hini) (gk_K hF.2.2.2.2.2.2.2.2.1) hP hD hS (fun q hq => Nat.le_trans hF.2.2.2.2.2.2.2.2.2 hq) h1 ?_ hc1 hs1 hd (fun q H1 hP1 hD1 hS1 => kW q H1 (me_new ht hnd hmem hok hsx ?_ hP1 hD1) hS1)
  · intro j hj
    rw [hdf j hj]
    simp [vp_V, h3, hj]
  · rw [me_ce_o hs]
    unfold me_fl
    congr 2
    apply List.map_congr_left
    intro k _
    rw [me_P_nw, me_I_nw]
    simp [av_r, va_rf]
theorem jw_newI {s n : Nat} {x : Int32} (hcl : Cond.arrayClass .int ∈ TS) (hd : decode Y.1 pc = .ok (.newarray .int, 2)) (hs : sk s = .inr .int) (ht : st_is s = false) (hx : ¬ x < 0) (hn : x.toNatClampNeg = n) (hb : n ≤ 1000000)
    (kk : jw G Y d c0 s0 (me_nw M s n n) (pc + 2) lc (.inr (some (s, me_N M s)) :: st) r M') : jw G Y d c0 s0 M pc lc (.inl x :: st) r M' := by
  refine jw_mk (fun v hv => List.mem_cons_of_mem _ hv) ?_ kk
  intro p l e R s' m args below meth c H locs cells slots Q ls ρ hF hR hS hc1 hs1 kW
  obtain ⟨ord, hnd, hmem, hP, hD, hok, hsx⟩ := hR
  have hts := hF.2.2.2.2.2.2.1
  have hgk := hF.2.2.2.2.2.2.2.2.1
  refine va_newa (atype := .int) (ty := .int) (a0 := (n, .inl (fun _ => 0))) hF.1 hF.2.1 (hts _ hcl) rfl (gk_K hgk) hP hD hS (fun q hq => Nat.le_trans hF.2.2.2.2.2.2.2.2.2 hq) (fun cA => rfl) hx hn (by show n * 4 ≤ 536870912; omega) hc1 hs1 hd (fun q cA H1 hK1 hP1 hD1 hS1 => ?_)
  have hcA : cA = G.2.2.1 s := gk_cA hgk (ty := .int) (by rw [ar_ty, hs]) ((hK1.2 G.2.2.2.1.length (cA, .int) (by simp)).2)
  subst hcA
  refine kW q H1 (me_new ht hnd hmem hok hsx ?_ hP1 hD1) hS1
  rw [me_ce_i hs]
  have h1 : me_L (me_nw M s n n) s (me_N M s) = n := by rw [me_L_nw, if_pos ⟨rfl, rfl⟩]
  have h2 : me_I (me_nw M s n n) s (me_N M s) = fun _ => 0 := funext fun j => by rw [me_I_nw, if_pos ⟨rfl, rfl⟩]
  rw [h1, h2]
theorem jw_newZ {s n : Nat} {x : Int32} (hcl : Cond.arrayClass .boolean ∈ TS) (hd : decode Y.1 pc = .ok (.newarray .boolean, 2)) (hs : sk s = .inr .boolean) (ht : st_is s = false) (hx : ¬ x < 0) (hn : x.toNatClampNeg = n) (hb : n ≤ 1000000)
    (kk : jw G Y d c0 s0 (me_nw M s n n) (pc + 2) lc (.inr (some (s, me_N M s)) :: st) r M') : jw G Y d c0 s0 M pc lc (.inl x :: st) r M' := by
  refine jw_mk (fun v hv => List.mem_cons_of_mem _ hv) ?_ kk
  intro p l e R s' m args below meth c H locs cells slots Q ls ρ hF hR hS hc1 hs1 kW
  obtain ⟨ord, hnd, hmem, hP, hD, hok, hsx⟩ := hR
  have hts := hF.2.2.2.2.2.2.1
  have hgk := hF.2.2.2.2.2.2.2.2.1
  refine va_newa (atype := .boolean) (ty := .boolean) (a0 := (n, .inl (fun _ => 0))) hF.1 hF.2.1 (hts _ hcl) rfl (gk_K hgk) hP hD hS (fun q hq => Nat.le_trans hF.2.2.2.2.2.2.2.2.2 hq) (fun cA => rfl) hx hn (by show n * 1 ≤ 536870912; omega) hc1 hs1 hd (fun q cA H1 hK1 hP1 hD1 hS1 => ?_)
  have hcA : cA = G.2.2.1 s := gk_cA hgk (ty := .boolean) (by rw [ar_ty, hs]) ((hK1.2 G.2.2.2.1.length (cA, .boolean) (by simp)).2)
  subst hcA
  refine kW q H1 (me_new ht hnd hmem hok hsx ?_ hP1 hD1) hS1
  rw [me_ce_z hs]
  have h1 : me_L (me_nw M s n n) s (me_N M s) = n := by rw [me_L_nw, if_pos ⟨rfl, rfl⟩]
  have h2 : me_I (me_nw M s n n) s (me_N M s) = fun _ => 0 := funext fun j => by rw [me_I_nw, if_pos ⟨rfl, rfl⟩]
  rw [h1, h2]
theorem jw_newQ {s n index : Nat} {x : Int32} {C : String} (hcl : Cond.classLink Y.2.2.1 index C ∈ TS) (hao : ∀ U H, gk_ok G U H → va_AO C U) (hd : decode Y.1 pc = .ok (.anewarray index, 3)) (hs : sk s = .inr (.object C)) (ht : st_is s = false) (hx : ¬ x < 0) (hn : x.toNatClampNeg = n) (hb : n ≤ 1000000)
    (kk : jw G Y d c0 s0 (me_nw M s n n) (pc + 3) lc (.inr (some (s, me_N M s)) :: st) r M') : jw G Y d c0 s0 M pc lc (.inl x :: st) r M' := by
  refine jw_mk (fun v hv => List.mem_cons_of_mem _ hv) ?_ kk
  intro p l e R s' m args below meth c H locs cells slots Q ls ρ hF hR hS hc1 hs1 kW
  obtain ⟨ord, hnd, hmem, hP, hD, hok, hsx⟩ := hR
  have hts := hF.2.2.2.2.2.2.1
  have hgk := hF.2.2.2.2.2.2.2.2.1
  refine va_newq (C := C) hF.1 hF.2.1 hF.2.2.2.1 (hts _ hcl) (hao _ _ hgk) (gk_K hgk) hP hD hS (fun q hq => Nat.le_trans hF.2.2.2.2.2.2.2.2.2 hq) hx hn (by omega) hc1 hs1 hd (fun q cA H1 hK1 hP1 hD1 hS1 => ?_)
  have hcA : cA = G.2.2.1 s := gk_cA hgk (ty := .object C) (by rw [ar_ty, hs]) ((hK1.2 G.2.2.2.1.length (cA, .object C) (by simp)).2)
  subst hcA
  refine kW q H1 (me_new ht hnd hmem hok hsx ?_ hP1 hD1) hS1
  rw [me_ce_q hs]
  have h1 : me_L (me_nw M s n n) s (me_N M s) = n := by rw [me_L_nw, if_pos ⟨rfl, rfl⟩]
  have h2 : (fun k => av_r (rh_up ρ s (me_N M s) q) (me_P (me_nw M s n n) s (me_N M s) k)) = fun _ => none := funext fun j => by rw [me_P_nw, if_pos ⟨rfl, rfl⟩]; rfl
  rw [h1, h2]
end RowsC
def sp (G : Gt) (Y : Yt) (y : MethodName) (d : Nat) (as : List AV) (M : Me) (r : Option AV) (M' : Me) : Prop :=
  (me_C M ≤ me_C M' ∧ me_S M ≤ me_S M') ∧ ∀ (l : Launch) (ρ : Rh), (∀ v ∈ as, av_ok M v) →
    Met l y (Cond.code y Y.1 Y.2.1 Y.2.2.2.2 :: TS) (rm_of d (me_C M' - me_C M) (me_S M' - me_S M)) (va_Pc (as.map (av_tv ρ)) (fun U => gk_ok G U U.heap ∧ G.1 ≤ U.heap.size ∧ me_rl G ρ M U.heap)) (q_of G ρ (me_N M) r M') (me_C M' - me_C M) (me_S M' - me_S M) (fun q => G.1 ≤ q)
def mt_ok (Y : Yt) (y : MethodName) (n : Nat) : Prop := (Cond.code y Y.1 Y.2.1 Y.2.2.2.2 ∈ TS ∧ Cond.initialized y.cls ∈ TS) ∧ (y.cls ≠ "java/lang/invoke/MethodHandle" ∧ y.cls ≠ "java/lang/invoke/VarHandle" ∧ (parseMethodDescriptor y.desc).map (fun d => d.parameters.length) = some n) ∧ Y.2.1 ≤ 45 ∧ plainName y.cls = true ∧ Y.2.2.1 = y.cls ∧ Y.2.2.2.1 = y.name
theorem ts_good {w : Cond} (h : w ∈ TS) : w ∈ TS ∧ ((w.onTables && w.keeps) = true ∨ ∃ ty, w = .arrayClass ty) := ⟨h, good_of_word (ts_word h)⟩
theorem ts_goodIn {w : Cond} (h : w ∈ TS) : GoodIn TS (w :: TS) := fun x hx => by
  rcases List.mem_cons.mp hx with rfl | hx
  · exact ts_good h
  · exact ts_good hx
theorem lc_args {vs : List Value} (hc : ∀ v ∈ vs, v.category = 1) : ∀ (i j : Nat) (v : Value), vs[i]? = some v → (j + i, v) ∈ lv_args j vs := by
  induction vs with
  | nil => intro i j v h; simp at h
  | cons a vs ih =>
    intro i j v h
    unfold lv_args
    have ha : ¬ a.category = 2 := by rw [hc a List.mem_cons_self]; decide
    rw [if_neg ha]
    cases i with
    | zero =>
      simp at h; subst h
      exact List.mem_cons_self
    | succ i =>
      refine List.mem_cons_of_mem _ ?_
      have := ih (fun w hw => hc w (List.mem_cons_of_mem _ hw)) i (j + 1) v (by simpa using h)
      rwa [show j + 1 + i = j + (i + 1) by omega] at this
theorem lc_sl {vs : List Value} (hc : ∀ v ∈ vs, v.category = 1) : (lg_sl vs).length = vs.length := by
  induction vs with
  | nil => rfl
  | cons a vs ih =>
    have ha : ¬ a.category = 2 := by rw [hc a List.mem_cons_self]; decide
    have h1 := ih (fun w hw => hc w (List.mem_cons_of_mem _ hw))
    unfold lg_sl at h1 ⊢
    rw [List.flatMap_cons, if_neg ha, List.length_append, h1]
    simp; omega
theorem sp_of {G : Gt} {Y : Yt} {y : MethodName} {d n : Nat} {as : List AV} {M M' : Me} {r : Option AV} (lc : List (Option AV)) (hm : mt_ok Y y n) (hlen : as.length ≤ Y.2.1) (hlc : ∀ (i : Nat) (v : AV), lc[i]? = some (some v) → as[i]? = some v) (h : jw G Y d (me_C M) (me_S M) M 0 lc [] r M') : sp G Y y d as M r M' := by
  refine ⟨h.1, fun l ρ hok => ?_⟩
  refine Met.ofW (cc := Y.1) (maxL := Y.2.1) (ret := Y.2.2.2.2) hm.2.2.2.1 rfl ?_
  intro p e s m args below meth c s₁ B hml hv
  obtain ⟨rfl, hgk, hbs, hR⟩ := hv
  have hts := atoms_spec (ws := Cond.code y Y.1 Y.2.1 Y.2.2.2.2 :: TS) B.pre
  have hown : s.vm.findClass Y.2.2.1 = some m.cls := by rw [hm.2.2.2.2.1]; exact findClass_of_methodNamed B.named
  have hnm : meth.name = Y.2.2.2.1 := by rw [hm.2.2.2.2.2]; exact (name_of_methodNamed B.named B.method).1
  have hcat : ∀ v ∈ as.map (av_tv ρ), v.category = 1 := fun v hv => by
    obtain ⟨a, _, rfl⟩ := List.mem_map.mp hv
    exact av_cat ρ a
  have hl := lv_entry (as.map (av_tv ρ)) (n := Y.2.1) (by rw [lc_sl hcat, List.length_map]; exact hlen)
  rw [lg_entry_eq]
  generalize (lg_sl (as.map (av_tv ρ)) ++ List.replicate (Y.2.1 - (lg_sl (as.map (av_tv ρ))).length) Slot.unset).toArray = ls at hl ⊢
  refine h.2 p l e s m _ below meth c ρ (me_N M) ρ s.heap [] 0 0 ls ⟨B.exec, B.bytes, hml, hown, hnm, B.returns, fun w hw => hts w (List.mem_cons_of_mem _ hw), B.notSynchronized, hgk, hbs⟩ hR va_S.rf (fun _ _ _ => rfl) (fun _ => Nat.le_refl _) (Nat.zero_add _) (Nat.zero_add _) ⟨hl.1, hl.2.1, fun i v hv => ?_⟩ (fun v hv => by cases hv)
  have h1 := hlc i v hv
  refine ⟨?_, hok v (List.mem_of_getElem? h1)⟩
  have h2 := lc_args hcat i 0 (av_tv ρ v) (by rw [List.getElem?_map, h1]; rfl)
  rw [Nat.zero_add] at h2
  exact hl.2.2 _ h2
section RowsD
variable {G : Gt} {Y : Yt} {d c0 s0 : Nat} {M M1 M' : Me} {pc : Nat} {lc : List (Option AV)} {st stk : List AV} {r r1 : Option AV} {Yz : Yt} {z : MethodName} {as : List AV}
theorem av_rev (ρ : Rh) (as st : List AV) : (as.reverse ++ st).map (av_tv ρ) = (as.map (av_tv ρ)).reverse ++ st.map (av_tv ρ) := by
  rw [List.map_append, List.map_reverse]
theorem gk_blind {ρ : Rh} {vs : List Value} : FrameBlind (va_Pc vs (fun U => gk_ok G U U.heap ∧ G.1 ≤ U.heap.size ∧ me_rl G ρ M U.heap)) := by
  intro a U g mk q
  obtain ⟨q0, q1, q2, q3⟩ := q
  exact ⟨q0, gk_same (u := U) (U := U.calling g mk a) rfl q1, q2, q3⟩
theorem jw_ret_to {p : Program} {l : Launch} {e : Env} {s : State} {m : MethodId} {args : Array Value} {below : List Frame} {meth : Method} {c : Code} {ρe : Rh} {ne : Nat → Nat} {ρ : Rh} {H : Heap} {locs : List Loc} {cells slots : Nat} {ls : Array Slot}
    (hsp : sp G Yz z d as M r1 M1) (kk : jw G Y (d + 1) c0 s0 M1 (pc + 3) lc (r1.toList ++ st) r M')
    (hF : fr_ok G Y p s m args meth c) (hR : me_rl G ρ M H) (hS : va_S (fun q => G.1 ≤ q) s.heap H locs) (ha : ∀ a b, b < ne a → ρ a b = ρe a b) (hn : ∀ a, ne a ≤ me_N M a) (hc : cells + c0 = me_C M) (hs : slots + s0 = me_S M) (hl : lc_ok Y.2.1 ρ M lc ls) (hst : ∀ v ∈ st, av_ok M v) {a : Array Value}
    (hrun : va_Run p l e (rm_of (d + 1) (me_C M' - c0) (me_S M' - s0)) s m args below meth c H locs cells slots (me_C M1 - me_C M) (me_S M1 - me_S M) (F0 m pc ls (stk.map (av_tv ρ))) (st.map (av_tv ρ)) (q_of G ρ (me_N M) r1 M1 a) (fun q => G.1 ≤ q)) :
    W p l e (rm_of (d + 1) (me_C M' - c0) (me_S M' - s0)) s m args below meth c H locs cells slots (MQ below (q_of G ρe ne r M') args s (me_C M' - c0) (me_S M' - s0) (fun q => G.1 ≤ q)) (F0 m pc ls (stk.map (av_tv ρ))) := by
  intro T hT X
  obtain ⟨v, st₀, t, T', L, h0, X', hL, e1, e2, ⟨ρ', ho, hR', hag, hne, hok, hFf⟩, hgo⟩ := hrun T hT X
  have hv : v = r1.map (av_tv ρ') := Outcome.returned.inj ho
  subst hv
  have hsz := hsp.1
  have hS' : va_S (fun q => G.1 ≤ q) s.heap T'.heap (locs ++ L) := by
    refine ⟨?_, ?_, ?_⟩
    · rw [e1]; exact Nat.le_trans hS.1 (by rw [← h0]; exact hFf.1)
    · intro q hq hA
      rw [e1, hFf.2 q (by rw [h0]; exact Nat.lt_of_lt_of_le hq hS.1) hA, h0]
      exact hS.2.1 q hq hA
    · intro q hq
      rcases List.mem_append.mp hq with hq | hq
      · exact hS.2.2 q hq
      · exact hL q hq
  have hle : ∀ a, me_N M a ≤ me_N M1 a := hne
  have K := kk.2 p l e s m args below meth c ρe ne ρ' T'.heap (locs ++ L) (cells + (me_C M1 - me_C M)) (slots + (me_S M1 - me_S M)) ls hF (by rw [e1]; exact hR') hS' (fun a b hb => (hag a b (Nat.lt_of_lt_of_le hb (hn a))).trans (ha a b hb)) (fun a => Nat.le_trans (hn a) (hle a)) (by omega) (by omega) (lc_mono hl hle hag) (by
    intro v hv
    rcases List.mem_append.mp hv with hv | hv
    · exact hok v (by cases r1 with
        | none => cases hv
        | some w => rw [Option.toList_some, List.mem_singleton] at hv; rw [hv])
    · exact av_ok_mono hle (hst v hv))
  have hstk : (r1.toList ++ st).map (av_tv ρ') = (r1.map (av_tv ρ')).toList ++ st.map (av_tv ρ) := by
    rw [List.map_append, av_map_eq hst hag]
    cases r1 <;> rfl
  rw [hstk] at K
  obtain ⟨t2, a1, b1⟩ := K T' rfl X'
  exact ⟨t2, hgo t2 a1, b1⟩
theorem jw_calls (hsp : sp G Yz z d as M r1 M1) (kk : jw G Y (d + 1) c0 s0 M1 (pc + 3) lc (r1.toList ++ st) r M') : me_C M ≤ me_C M' ∧ me_S M ≤ me_S M' := ⟨Nat.le_trans hsp.1.1 kk.1.1, Nat.le_trans hsp.1.2 kk.1.2⟩
theorem jw_callB {R : Room} {s : State} {args : Array Value} {index n mc ms d' : Nat} {own : String} (hts : ∀ w ∈ TS, w.before args s = true) (hm : mt_ok Yz z n) (hl : Cond.methodLink own index z ∈ TS) (hR : R.frames = d' + 1 ∧ R.locals = 64 * (d' + 1)) : CallB R s args own index z Yz.1 Yz.2.1 Yz.2.2.2.2 (Cond.code z Yz.1 Yz.2.1 Yz.2.2.2.2 :: TS) (rm_of d' mc ms) mc ms n :=
  callB_of n hts (ts_goodIn hm.1.1) rfl rfl rfl (hts _ hm.1.2) (hts _ hl) hm.2.1 ⟨by rw [hR.1]; exact Nat.le_refl _, by rw [hR.2]; have := hm.2.2.1; show 8 + (Yz.2.1 + 11) + 64 * d' ≤ 64 * (d' + 1); omega⟩
theorem jw_callS {index n : Nat} (hsp : sp G Yz z d as M r1 M1) (hm : mt_ok Yz z n) (hl : Cond.methodLink Y.2.2.1 index z ∈ TS) (hst2 : Cond.static z ∈ TS) (hd : decode Y.1 pc = .ok (.invokestatic index, 3)) (hn : as.length = n) (hstk : stk = as.reverse ++ st) (hw : st.length ≤ 8)
    (kk : jw G Y (d + 1) c0 s0 M1 (pc + 3) lc (r1.toList ++ st) r M') : jw G Y (d + 1) c0 s0 M pc lc stk r M' := by
  refine ⟨jw_calls hsp kk, fun p l e s m args below meth c ρe ne ρ H locs cells slots ls hF hR hS ha hn' hc hs hlc hst => ?_⟩
  subst hstk
  have hts := hF.2.2.2.2.2.2.1
  have hst' : ∀ v ∈ st, av_ok M v := fun v hv => hst v (List.mem_append_right _ hv)
  have has : ∀ v ∈ as, av_ok M v := fun v hv => hst v (List.mem_append_left _ (List.mem_reverse.mpr hv))
  have k1 := kk.1
  have k2 := hsp.1
  refine jw_ret_to hsp kk hF hR hS ha hn' hc hs hlc hst' (a := (as.map (av_tv ρ)).toArray) ?_
  refine va_runS (As := as.map (av_tv ρ)) (rest := st.map (av_tv ρ)) ⟨hF.1, hF.2.1, hF.2.2.1, hF.2.2.2.1, hts⟩ (hsp.2 l ρ has) ⟨jw_callB hts hm hl ⟨rfl, rfl⟩, hts _ hst2⟩ ⟨gk_blind, fun U hU hW => ⟨rfl, ?_, ?_, ?_⟩⟩ rfl (by rw [List.length_map]; exact hn) hlc.1 (av_rev ρ as st) (lv_room ?_) hd ⟨?_, ?_⟩
  · exact gk_warm hF.2.2.2.2.2.2.2.2.1 hW (fun q hq => by rw [hU]; exact hS.2.1 q (Nat.lt_of_lt_of_le hq hF.2.2.2.2.2.2.2.2.2) (Nat.not_le.mpr hq)) 
  · rw [hU]; exact Nat.le_trans hF.2.2.2.2.2.2.2.2.2 hS.1
  · rw [hU]; exact hR
  · rw [List.map_map]
    have : (st.map ((fun v => v.category) ∘ av_tv ρ)) = st.map (fun _ => 1) := List.map_congr_left fun v _ => av_cat ρ v
    rw [this, List.map_const', List.sum_replicate_nat]; omega
  · show cells + (me_C M1 - me_C M) ≤ me_C M' - c0; omega
  · show slots + (me_S M1 - me_S M) ≤ me_S M' - s0; omega
theorem jw_callI {index n s1 i1 : Nat} {As : List AV} (hsp : sp G Yz z d (.inr (some (s1, i1)) :: As) M none M1) (hm : mt_ok Yz z n) (hrt : Yz.2.2.2.2 = none) (hnm : z.name = "<init>") (hl : Cond.methodLink Y.2.2.1 index z ∈ TS) (hin : Cond.instanceMethod z ∈ TS) (hd : decode Y.1 pc = .ok (.invokespecial index, 3)) (hn : As.length = n) (hstk : stk = As.reverse ++ .inr (some (s1, i1)) :: st) (hw : st.length ≤ 8)
    (kk : jw G Y (d + 1) c0 s0 M1 (pc + 3) lc st r M') : jw G Y (d + 1) c0 s0 M pc lc stk r M' := by
  refine ⟨jw_calls (r1 := none) hsp kk, fun p l e s m args below meth c ρe ne ρ H locs cells slots ls hF hR hS ha hn' hc hs hlc hst => ?_⟩
  subst hstk
  have hts := hF.2.2.2.2.2.2.1
  have hst' : ∀ v ∈ st, av_ok M v := fun v hv => hst v (List.mem_append_right _ (List.mem_cons_of_mem _ hv))
  have has : ∀ v ∈ (.inr (some (s1, i1)) : AV) :: As, av_ok M v := fun v hv => by
    rcases List.mem_cons.mp hv with rfl | hv
    · exact hst _ (List.mem_append_right _ List.mem_cons_self)
    · exact hst v (List.mem_append_left _ (List.mem_reverse.mpr hv))
  have k1 := kk.1
  have k2 := hsp.1
  have hcb := jw_callB (R := rm_of (d + 1) (me_C M' - c0) (me_S M' - s0)) (mc := me_C M1 - me_C M) (ms := me_S M1 - me_S M) hts hm hl ⟨rfl, rfl⟩
  have hM := hsp.2 l ρ has
  rw [hrt] at hcb hM
  refine jw_ret_to (r1 := none) hsp kk hF hR hS ha hn' hc hs hlc hst' (a := (((.inr (some (s1, i1)) : AV) :: As).map (av_tv ρ)).toArray) ?_
  refine va_runI (b := ρ s1 i1) (As := As.map (av_tv ρ)) (rest := st.map (av_tv ρ)) ⟨hF.1, hF.2.1, hF.2.2.1, hF.2.2.2.1, hts⟩ hM ⟨hcb, hnm, hts _ hin⟩ ⟨gk_blind, fun U hU hW => ⟨rfl, ?_, ?_, ?_⟩⟩ rfl (by rw [List.length_map]; exact hn) hlc.1 ?_ (lv_room ?_) hd ⟨?_, ?_⟩
  · exact gk_warm hF.2.2.2.2.2.2.2.2.1 hW (fun q hq => by rw [hU]; exact hS.2.1 q (Nat.lt_of_lt_of_le hq hF.2.2.2.2.2.2.2.2.2) (Nat.not_le.mpr hq))
  · rw [hU]; exact Nat.le_trans hF.2.2.2.2.2.2.2.2.2 hS.1
  · rw [hU]; exact hR
  · show (As.reverse ++ .inr (some (s1, i1)) :: st).map (av_tv ρ) = _
    rw [av_rev]; rfl
  · rw [List.map_map]
    have : (st.map ((fun v => v.category) ∘ av_tv ρ)) = st.map (fun _ => 1) := List.map_congr_left fun v _ => av_cat ρ v
    rw [this, List.map_const', List.sum_replicate_nat]; omega
  · show cells + (me_C M1 - me_C M) ≤ me_C M' - c0; omega
  · show slots + (me_S M1 - me_S M) ≤ me_S M' - s0; omega
theorem jw_callV {index n s1 i1 ci : Nat} {As : List AV} {T : u_T} {N : Nat} {ty : Nat → FieldType} (hsp : sp G Yz z d (.inr (some (s1, i1)) :: As) M r1 M1) (hm : mt_ok Yz z n) (hcf : cf_ok ci z.cls T N ty) (hs1 : sk s1 = .inl ci) (ht1 : st_is s1 = false) (hl : Cond.methodLink Y.2.2.1 index z ∈ TS) (hin : Cond.instanceMethod z ∈ TS) (hse : Cond.selects z.cls z z ∈ TS) (hd : decode Y.1 pc = .ok (.invokevirtual index, 3)) (hn : As.length = n) (hstk : stk = As.reverse ++ .inr (some (s1, i1)) :: st) (hw : st.length ≤ 8)
    (kk : jw G Y (d + 1) c0 s0 M1 (pc + 3) lc (r1.toList ++ st) r M') : jw G Y (d + 1) c0 s0 M pc lc stk r M' := by
  refine ⟨jw_calls hsp kk, fun p l e s m args below meth c ρe ne ρ H locs cells slots ls hF hR hS ha hn' hc hs hlc hst => ?_⟩
  subst hstk
  have hts := hF.2.2.2.2.2.2.1
  have hst' : ∀ v ∈ st, av_ok M v := fun v hv => hst v (List.mem_append_right _ (List.mem_cons_of_mem _ hv))
  have has : ∀ v ∈ (.inr (some (s1, i1)) : AV) :: As, av_ok M v := fun v hv => by
    rcases List.mem_cons.mp hv with rfl | hv
    · exact hst _ (List.mem_append_right _ List.mem_cons_self)
    · exact hst v (List.mem_append_left _ (List.mem_reverse.mpr hv))
  have k1 := kk.1
  have k2 := hsp.1
  have hgk := hF.2.2.2.2.2.2.2.2.1
  have hi : i1 < me_N M s1 := hst _ (List.mem_append_right _ List.mem_cons_self) (s1, i1) rfl
  refine jw_ret_to hsp kk hF hR hS ha hn' hc hs hlc hst' (a := (((.inr (some (s1, i1)) : AV) :: As).map (av_tv ρ)).toArray) ?_
  have hrec : ∃ cell : Cell, H[ρ s1 i1]? = some cell ∧ cell.vm.isStatics = false ∧ s.vm.findClass z.cls = some cell.cls := by
    obtain ⟨ord, hnd, hmem, hP, hD, hok, hsx⟩ := hR
    obtain ⟨n', hn2, he⟩ := me_at (cA := G.2.2.1) (ρ := ρ) (M := M) ((hmem (s1, i1)).mpr ⟨hi, ht1⟩)
    rw [me_ce_o hs1] at he
    exact va_recv (gk_K hgk) hP hcf.1 he
  refine va_runV (C := z.cls) (b := ρ s1 i1) (As := As.map (av_tv ρ)) (rest := st.map (av_tv ρ)) ⟨hF.1, hF.2.1, hF.2.2.1, hF.2.2.2.1, hts⟩ (hsp.2 l ρ has) ⟨jw_callB hts hm hl ⟨rfl, rfl⟩, hts _ hin, hts _ hse⟩ ⟨gk_blind, hrec, fun U hU hW => ⟨rfl, ?_, ?_, ?_⟩⟩ rfl (by rw [List.length_map]; exact hn) hlc.1 ?_ (lv_room ?_) hd ⟨?_, ?_⟩
  · exact gk_warm hgk hW (fun q hq => by rw [hU]; exact hS.2.1 q (Nat.lt_of_lt_of_le hq hF.2.2.2.2.2.2.2.2.2) (Nat.not_le.mpr hq))
  · rw [hU]; exact Nat.le_trans hF.2.2.2.2.2.2.2.2.2 hS.1
  · rw [hU]; exact hR
  · show (As.reverse ++ .inr (some (s1, i1)) :: st).map (av_tv ρ) = _
    rw [av_rev]; rfl
  · rw [List.map_map]
    have : (st.map ((fun v => v.category) ∘ av_tv ρ)) = st.map (fun _ => 1) := List.map_congr_left fun v _ => av_cat ρ v
    rw [this, List.map_const', List.sum_replicate_nat]; omega
  · show cells + (me_C M1 - me_C M) ≤ me_C M' - c0; omega
  · show slots + (me_S M1 - me_S M) ≤ me_S M' - s0; omega
theorem jw_callIN {index n s1 i1 : Nat} {host : String} {As : List AV} (hsp : sp G Yz z d (.inr (some (s1, i1)) :: As) M none M1) (hm : mt_ok Yz z n) (hrt : Yz.2.2.2.2 = none) (hnm : z.name = "<init>") (hl : Cond.methodLinkNest Y.2.2.1 index z host ∈ nest_w) (hin : Cond.instanceMethod z ∈ TS) (hd : decode Y.1 pc = .ok (.invokespecial index, 3)) (hn : As.length = n) (hstk : stk = As.reverse ++ .inr (some (s1, i1)) :: st) (hw : st.length ≤ 8)
    (kk : jw G Y (d + 1) c0 s0 M1 (pc + 3) lc st r M') : jw G Y (d + 1) c0 s0 M pc lc stk r M' := by
  refine ⟨jw_calls (r1 := none) hsp kk, fun p l e s m args below meth c ρe ne ρ H locs cells slots ls hF hR hS ha hn' hc hs hlc hst => ?_⟩
  subst hstk
  have hts := hF.2.2.2.2.2.2.1
  have hst' : ∀ v ∈ st, av_ok M v := fun v hv => hst v (List.mem_append_right _ (List.mem_cons_of_mem _ hv))
  have has : ∀ v ∈ (.inr (some (s1, i1)) : AV) :: As, av_ok M v := fun v hv => by
    rcases List.mem_cons.mp hv with rfl | hv
    · exact hst _ (List.mem_append_right _ List.mem_cons_self)
    · exact hst v (List.mem_append_left _ (List.mem_reverse.mpr hv))
  have k1 := kk.1
  have k2 := hsp.1
  have hM := hsp.2 l ρ has
  have hgk := hF.2.2.2.2.2.2.2.2.1
  have hcb : va_CN (rm_of (d + 1) (me_C M' - c0) (me_S M' - s0)) s args Y.2.2.1 index z host Yz.1 Yz.2.1 Yz.2.2.2.2 (Cond.code z Yz.1 Yz.2.1 Yz.2.2.2.2 :: TS) (rm_of d (me_C M1 - me_C M) (me_S M1 - me_S M)) (me_C M1 - me_C M) (me_S M1 - me_S M) n := va_cnB n hts (ts_goodIn hm.1.1) rfl rfl rfl (hgk.2.2.1 _ hl) (hts _ hm.1.2) hm.2.1 ⟨Nat.le_refl _, by have := hm.2.2.1; show 8 + (Yz.2.1 + 11) + 64 * d ≤ 64 * (d + 1); omega⟩
  rw [hrt] at hcb hM
  refine jw_ret_to (r1 := none) hsp kk hF hR hS ha hn' hc hs hlc hst' (a := (((.inr (some (s1, i1)) : AV) :: As).map (av_tv ρ)).toArray) ?_
  refine va_runIN (b := ρ s1 i1) (As := As.map (av_tv ρ)) (rest := st.map (av_tv ρ)) ⟨hF.1, hF.2.1, hF.2.2.1, hF.2.2.2.1, hts⟩ hM ⟨hcb, hnm, hts _ hin⟩ ⟨gk_blind, fun U hU hW => ⟨rfl, ?_, ?_, ?_⟩⟩ rfl (by rw [List.length_map]; exact hn) hlc.1 ?_ (lv_room ?_) hd ⟨?_, ?_⟩
  · exact gk_warm hgk hW (fun q hq => by rw [hU]; exact hS.2.1 q (Nat.lt_of_lt_of_le hq hF.2.2.2.2.2.2.2.2.2) (Nat.not_le.mpr hq))
  · rw [hU]; exact Nat.le_trans hF.2.2.2.2.2.2.2.2.2 hS.1
  · rw [hU]; exact hR
  · show (As.reverse ++ .inr (some (s1, i1)) :: st).map (av_tv ρ) = _
    rw [av_rev]; rfl
  · rw [List.map_map]
    have : (st.map ((fun v => v.category) ∘ av_tv ρ)) = st.map (fun _ => 1) := List.map_congr_left fun v _ => av_cat ρ v
    rw [this, List.map_const', List.sum_replicate_nat]; omega
  · show cells + (me_C M1 - me_C M) ≤ me_C M' - c0; omega
  · show slots + (me_S M1 - me_S M) ≤ me_S M' - s0; omega
theorem jw_mmax {index : Nat} {x y : Int32} (hl : Cond.methodLink Y.2.2.1 index Lib.Math.max.name ∈ TS) (hsm : Cond.static Lib.Math.max.name ∈ TS) (hin : Cond.initialized "java/lang/Math" ∈ TS) (hco : Cond.code Lib.Math.max.name Lib.Math.max.code 2 (some .int) ∈ TS) (hd : decode Y.1 pc = .ok (.invokestatic index, 3)) (hw : st.length ≤ 8) (kk : jw G Y (d + 1) c0 s0 M (pc + 3) lc (.inl (if x < y then y else x) :: st) r M') : jw G Y (d + 1) c0 s0 M pc lc (.inl y :: .inl x :: st) r M' := by
  refine ⟨kk.1, fun p l e s m args below meth c ρe ne ρ H locs cells slots ls hF hR hS ha hn' hc hs hlc hst => ?_⟩
  have hts := hF.2.2.2.2.2.2.1
  have k1 := kk.1
  have h1 : ((st.map (av_tv ρ)).map (fun v => v.category)).sum = st.length := by
    have h2 : (st.map (av_tv ρ)).map (fun v => v.category) = st.map (fun _ => 1) := by
      rw [List.map_map]; exact List.map_congr_left fun v _ => av_cat ρ v
    rw [h2, List.map_const', List.sum_replicate_nat]; omega
  refine va_mmax (rest := st.map (av_tv ρ)) hF.1 hF.2.1 (hF.2.2.1.trans hlc.1.symm) hF.2.2.2.1 (hts _ hl) (hts _ hsm) (hts _ hin) (hts _ hco) (show 1 ≤ d + 1 by omega) (by rw [h1]; show st.length + 13 ≤ 64 * (d + 1); omega) (show cells ≤ me_C M' - c0 by omega) (show slots ≤ me_S M' - s0 by omega) hd ?_
  exact kk.2 p l e s m args below meth c ρe ne ρ H locs cells slots ls hF hR hS ha hn' hc hs hlc (fun v hv => by
    rcases List.mem_cons.mp hv with rfl | hv
    · exact av_ok_i
    · exact hst v (List.mem_cons_of_mem _ (List.mem_cons_of_mem _ hv)))
theorem jw_mmin {index : Nat} {x y : Int32} (hl : Cond.methodLink Y.2.2.1 index Lib.Math.min.name ∈ TS) (hsm : Cond.static Lib.Math.min.name ∈ TS) (hin : Cond.initialized "java/lang/Math" ∈ TS) (hco : Cond.code Lib.Math.min.name Lib.Math.min.code 2 (some .int) ∈ TS) (hd : decode Y.1 pc = .ok (.invokestatic index, 3)) (hw : st.length ≤ 8) (kk : jw G Y (d + 1) c0 s0 M (pc + 3) lc (.inl (if y < x then y else x) :: st) r M') : jw G Y (d + 1) c0 s0 M pc lc (.inl y :: .inl x :: st) r M' := by
  refine ⟨kk.1, fun p l e s m args below meth c ρe ne ρ H locs cells slots ls hF hR hS ha hn' hc hs hlc hst => ?_⟩
  have hts := hF.2.2.2.2.2.2.1
  have k1 := kk.1
  have h1 : ((st.map (av_tv ρ)).map (fun v => v.category)).sum = st.length := by
    have h2 : (st.map (av_tv ρ)).map (fun v => v.category) = st.map (fun _ => 1) := by
      rw [List.map_map]; exact List.map_congr_left fun v _ => av_cat ρ v
    rw [h2, List.map_const', List.sum_replicate_nat]; omega
  refine va_mmin (rest := st.map (av_tv ρ)) hF.1 hF.2.1 (hF.2.2.1.trans hlc.1.symm) hF.2.2.2.1 (hts _ hl) (hts _ hsm) (hts _ hin) (hts _ hco) (show 1 ≤ d + 1 by omega) (by rw [h1]; show st.length + 13 ≤ 64 * (d + 1); omega) (show cells ≤ me_C M' - c0 by omega) (show slots ≤ me_S M' - s0 by omega) hd ?_
  exact kk.2 p l e s m args below meth c ρe ne ρ H locs cells slots ls hF hR hS ha hn' hc hs hlc (fun v hv => by
    rcases List.mem_cons.mp hv with rfl | hv
    · exact av_ok_i
    · exact hst v (List.mem_cons_of_mem _ (List.mem_cons_of_mem _ hv)))
theorem jw_objInit {index : Nat} {o : Nat × Nat} (hl : Cond.methodLink Y.2.2.1 index Lib.objectInit ∈ TS) (hin : Cond.instanceMethod Lib.objectInit ∈ TS) (hco : Cond.code Lib.objectInit ⟨#[0xb1]⟩ 1 none ∈ TS) (hd : decode Y.1 pc = .ok (.invokespecial index, 3)) (hw : st.length ≤ 8) (kk : jw G Y (d + 1) c0 s0 M (pc + 3) lc st r M') : jw G Y (d + 1) c0 s0 M pc lc (.inr (some o) :: st) r M' := by
  refine ⟨kk.1, fun p l e s m args below meth c ρe ne ρ H locs cells slots ls hF hR hS ha hn' hc hs hlc hst => ?_⟩
  have hts := hF.2.2.2.2.2.2.1
  refine W.objInit (a := ρ o.1 o.2) (rest := st.map (av_tv ρ)) hF.1 hF.2.1 hF.2.2.2.1 (hts _ hl) (hts _ hin) (hts _ hco) rfl (hlc.1.trans hF.2.2.1.symm) rfl hd (show 1 ≤ d + 1 by omega) ?_ ?_
  · have h1 : (st.map (av_tv ρ)).map (fun v => v.category) = st.map (fun _ => 1) := by
      rw [List.map_map]; exact List.map_congr_left fun v _ => av_cat ρ v
    rw [h1, List.map_const', List.sum_replicate_nat]
    show 2 * 0 + st.length * 1 + 12 ≤ 64 * (d + 1)
    omega
  · exact kk.2 p l e s m args below meth c ρe ne ρ H locs cells slots ls hF hR hS ha hn' hc hs hlc (fun v hv => hst v (List.mem_cons_of_mem _ hv))
theorem jw_iret {x : Int32} (hd : decode Y.1 pc = .ok (.ireturn, 1)) (hr : Y.2.2.2.2 = some .int) : jw G Y d c0 s0 M pc lc [.inl x] (some (.inl x)) M := by
  refine ⟨⟨Nat.le_refl _, Nat.le_refl _⟩, fun p l e s m args below meth c ρe ne ρ H locs cells slots ls hF hR hS ha hn' hc hs hlc hst => ?_⟩
  have e1 : me_C M - c0 = cells := by omega
  have e2 : me_S M - s0 = slots := by omega
  rw [e1, e2]
  exact W.iret hF.1 hF.2.1 (hF.2.2.2.2.2.1.trans hr) (fun t ht hW => ⟨ρ, rfl, by rw [ht]; exact hR, ha, hn', fun v hv => by cases hv; exact av_ok_i, hS.F ht⟩) hS.2.2 hd hF.2.2.2.2.2.2.2.1
theorem jw_zret {x : Int32} (hd : decode Y.1 pc = .ok (.ireturn, 1)) (hr : Y.2.2.2.2 = some .boolean) (hx : x = 0 ∨ x = 1) : jw G Y d c0 s0 M pc lc [.inl x] (some (.inl x)) M := by
  refine ⟨⟨Nat.le_refl _, Nat.le_refl _⟩, fun p l e s m args below meth c ρe ne ρ H locs cells slots ls hF hR hS ha hn' hc hs hlc hst => ?_⟩
  have e1 : me_C M - c0 = cells := by omega
  have e2 : me_S M - s0 = slots := by omega
  rw [e1, e2]
  exact W.zret hF.1 hF.2.1 (hF.2.2.2.2.2.1.trans hr) (by rcases hx with rfl | rfl <;> rfl) (fun t ht hW => ⟨ρ, rfl, by rw [ht]; exact hR, ha, hn', fun v hv => by cases hv; exact av_ok_i, hS.F ht⟩) hS.2.2 hd hF.2.2.2.2.2.2.2.1
theorem jw_vret (hd : decode Y.1 pc = .ok (.return_, 1)) (hr : Y.2.2.2.2 = none) : jw G Y d c0 s0 M pc lc [] none M := by
  refine ⟨⟨Nat.le_refl _, Nat.le_refl _⟩, fun p l e s m args below meth c ρe ne ρ H locs cells slots ls hF hR hS ha hn' hc hs hlc hst => ?_⟩
  have e1 : me_C M - c0 = cells := by omega
  have e2 : me_S M - s0 = slots := by omega
  rw [e1, e2]
  exact W.vret hF.1 hF.2.1 (hF.2.2.2.2.2.1.trans hr) (fun t ht hW => ⟨ρ, rfl, by rw [ht]; exact hR, ha, hn', fun v hv => by (cases hv), hS.F ht⟩) hS.2.2 hd hF.2.2.2.2.2.2.2.1
theorem jw_aret {o : Option (Nat × Nat)} {C : String} (hd : decode Y.1 pc = .ok (.areturn, 1)) (hr : Y.2.2.2.2 = some (.object C)) : jw G Y d c0 s0 M pc lc [.inr o] (some (.inr o)) M := by
  refine ⟨⟨Nat.le_refl _, Nat.le_refl _⟩, fun p l e s m args below meth c ρe ne ρ H locs cells slots ls hF hR hS ha hn' hc hs hlc hst => ?_⟩
  have e1 : me_C M - c0 = cells := by omega
  have e2 : me_S M - s0 = slots := by omega
  rw [e1, e2]
  exact W.aret hF.1 hF.2.1 (hF.2.2.2.2.2.1.trans hr) (Or.inl ⟨C, rfl⟩) (va_rf_or _) (fun t ht hW => ⟨ρ, rfl, by rw [ht]; exact hR, ha, hn', fun v hv => by cases hv; exact hst _ List.mem_cons_self, hS.F ht⟩) hS.2.2 hd hF.2.2.2.2.2.2.2.1
end RowsD
end
section
theorem ic_Y : ∀ w ∈ u_ws "PollYard" tx_Y 14, w ∈ lw_tbl ∧ goodWord w = true := by decide +kernel
theorem cf_Y : cf_ok 0 "PollYard" tx_Y 14 ty_Y := ⟨rfl, fun w hw => ts_in (ic_Y w hw).1 (ic_Y w hw).2, rfl, by decide +kernel, by decide +kernel⟩
theorem df_Y : ∀ j, j < 14 → defaultValue (ty_Y j) = if fk 0 j = true then .null else .int 0 := by decide +kernel
theorem it_Y : Cond.instantiable "PollYard" 14 ∈ TS := tn_1 11 rfl rfl
theorem ii_Y : Cond.initialized "PollYard" ∈ TS := tn_1 1 rfl rfl
theorem ic_P : ∀ w ∈ u_ws "PollYard$Program" tx_P 4, w ∈ lw_tbl ∧ goodWord w = true := by decide +kernel
theorem cf_P : cf_ok 1 "PollYard$Program" tx_P 4 ty_P := ⟨rfl, fun w hw => ts_in (ic_P w hw).1 (ic_P w hw).2, rfl, by decide +kernel, by decide +kernel⟩
theorem df_P : ∀ j, j < 4 → defaultValue (ty_P j) = if fk 1 j = true then .null else .int 0 := by decide +kernel
theorem it_P : Cond.instantiable "PollYard$Program" 4 ∈ TS := tn_1 19 rfl rfl
theorem ii_P : Cond.initialized "PollYard$Program" ∈ TS := tn_1 2 rfl rfl
theorem ic_T : ∀ w ∈ u_ws "PollYard$Task" tx_T 11, w ∈ lw_tbl ∧ goodWord w = true := by decide +kernel
theorem cf_T : cf_ok 2 "PollYard$Task" tx_T 11 ty_T := ⟨rfl, fun w hw => ts_in (ic_T w hw).1 (ic_T w hw).2, rfl, by decide +kernel, by decide +kernel⟩
theorem df_T : ∀ j, j < 11 → defaultValue (ty_T j) = if fk 2 j = true then .null else .int 0 := by decide +kernel
theorem it_T : Cond.instantiable "PollYard$Task" 11 ∈ TS := tn_1 219 rfl rfl
theorem ii_T : Cond.initialized "PollYard$Task" ∈ TS := tn_1 9 rfl rfl
theorem ic_K : ∀ w ∈ u_ws "PollYard$Worker" tx_K 5, w ∈ lw_tbl ∧ goodWord w = true := by decide +kernel
theorem cf_K : cf_ok 3 "PollYard$Worker" tx_K 5 ty_K := ⟨rfl, fun w hw => ts_in (ic_K w hw).1 (ic_K w hw).2, rfl, by decide +kernel, by decide +kernel⟩
theorem df_K : ∀ j, j < 5 → defaultValue (ty_K j) = if fk 3 j = true then .null else .int 0 := by decide +kernel
theorem it_K : Cond.instantiable "PollYard$Worker" 5 ∈ TS := tn_1 49 rfl rfl
theorem ii_K : Cond.initialized "PollYard$Worker" ∈ TS := tn_1 3 rfl rfl
theorem ic_R : ∀ w ∈ u_ws "PollYard$Row" tx_R 2, w ∈ lw_tbl ∧ goodWord w = true := by decide +kernel
theorem cf_R : cf_ok 4 "PollYard$Row" tx_R 2 ty_R := ⟨rfl, fun w hw => ts_in (ic_R w hw).1 (ic_R w hw).2, rfl, by decide +kernel, by decide +kernel⟩
theorem df_R : ∀ j, j < 2 → defaultValue (ty_R j) = if fk 4 j = true then .null else .int 0 := by decide +kernel
theorem it_R : Cond.instantiable "PollYard$Row" 2 ∈ TS := tn_1 55 rfl rfl
theorem ii_R : Cond.initialized "PollYard$Row" ∈ TS := tn_1 4 rfl rfl
theorem ic_G : ∀ w ∈ u_ws "PollYard$Gate" tx_G 2, w ∈ lw_tbl ∧ goodWord w = true := by decide +kernel
theorem cf_G : cf_ok 5 "PollYard$Gate" tx_G 2 ty_G := ⟨rfl, fun w hw => ts_in (ic_G w hw).1 (ic_G w hw).2, rfl, by decide +kernel, by decide +kernel⟩
theorem df_G : ∀ j, j < 2 → defaultValue (ty_G j) = if fk 5 j = true then .null else .int 0 := by decide +kernel
theorem it_G : Cond.instantiable "PollYard$Gate" 2 ∈ TS := tn_1 96 rfl rfl
theorem ii_G : Cond.initialized "PollYard$Gate" ∈ TS := tn_1 6 rfl rfl
theorem ic_N : ∀ w ∈ u_ws "PollYard$Notice" tx_N 2, w ∈ lw_tbl ∧ goodWord w = true := by decide +kernel
theorem cf_N : cf_ok 6 "PollYard$Notice" tx_N 2 ty_N := ⟨rfl, fun w hw => ts_in (ic_N w hw).1 (ic_N w hw).2, rfl, by decide +kernel, by decide +kernel⟩
theorem df_N : ∀ j, j < 2 → defaultValue (ty_N j) = if fk 6 j = true then .null else .int 0 := by decide +kernel
theorem it_N : Cond.instantiable "PollYard$Notice" 2 ∈ TS := tn_1 114 rfl rfl
theorem ii_N : Cond.initialized "PollYard$Notice" ∈ TS := tn_1 7 rfl rfl
theorem ic_M : ∀ w ∈ u_ws "PollYardModel" tx_M 36, w ∈ lw_tbl ∧ goodWord w = true := by decide +kernel
theorem cf_M : cf_ok 7 "PollYardModel" tx_M 36 ty_M := ⟨rfl, fun w hw => ts_in (ic_M w hw).1 (ic_M w hw).2, rfl, by decide +kernel, by decide +kernel⟩
theorem df_M : ∀ j, j < 36 → defaultValue (ty_M j) = if fk 7 j = true then .null else .int 0 := by decide +kernel
theorem it_M : Cond.instantiable "PollYardModel" 36 ∈ TS := tn_3 46 rfl rfl
theorem ii_M : Cond.initialized "PollYardModel" ∈ TS := tn_1 8 rfl rfl
theorem cl_L_7 : Cond.classLink "PollYardLaw" 7 "PollYard" ∈ TS := tn_1 10 rfl rfl
theorem cl_Y_7 : Cond.classLink "PollYard" 7 "PollYard$Program" ∈ TS := tn_1 18 rfl rfl
theorem fl_P_9 : fl_ok "PollYard$Program" 9 1 0 "PollYard$Program" tx_P 4 ty_P true := ⟨cf_P, by decide, rfl, tn_1 24 rfl rfl⟩
theorem fl_T_64 : fl_ok "PollYard$Task" 64 1 0 "PollYard$Program" tx_P 4 ty_P true := ⟨cf_P, by decide, rfl, tn_1 25 rfl rfl⟩
theorem fl_Y_269 : fl_ok "PollYard" 269 1 0 "PollYard$Program" tx_P 4 ty_P true := ⟨cf_P, by decide, rfl, tn_1 26 rfl rfl⟩
theorem fl_P_15 : fl_ok "PollYard$Program" 15 1 1 "PollYard$Program" tx_P 4 ty_P true := ⟨cf_P, by decide, rfl, tn_1 27 rfl rfl⟩
theorem fl_T_67 : fl_ok "PollYard$Task" 67 1 1 "PollYard$Program" tx_P 4 ty_P true := ⟨cf_P, by decide, rfl, tn_1 28 rfl rfl⟩
theorem fl_Y_266 : fl_ok "PollYard" 266 1 1 "PollYard$Program" tx_P 4 ty_P true := ⟨cf_P, by decide, rfl, tn_1 29 rfl rfl⟩
theorem fl_P_18 : fl_ok "PollYard$Program" 18 1 2 "PollYard$Program" tx_P 4 ty_P true := ⟨cf_P, by decide, rfl, tn_1 30 rfl rfl⟩
theorem fl_P_21 : fl_ok "PollYard$Program" 21 1 3 "PollYard$Program" tx_P 4 ty_P false := ⟨cf_P, by decide, rfl, tn_1 31 rfl rfl⟩
theorem fl_Y_89 : fl_ok "PollYard" 89 1 3 "PollYard$Program" tx_P 4 ty_P false := ⟨cf_P, by decide, rfl, tn_1 32 rfl rfl⟩
theorem fl_T_61 : fl_ok "PollYard$Task" 61 1 3 "PollYard$Program" tx_P 4 ty_P false := ⟨cf_P, by decide, rfl, tn_1 33 rfl rfl⟩
theorem cl_Y_24 : Cond.classLink "PollYard" 24 "PollYard$Task" ∈ TS := tn_1 45 rfl rfl
theorem cl_Y_33 : Cond.classLink "PollYard" 33 "PollYard$Worker" ∈ TS := tn_1 47 rfl rfl
theorem cl_K_9 : Cond.classLink "PollYard$Worker" 9 "PollYard$Row" ∈ TS := tn_1 54 rfl rfl
theorem fl_R_21 : fl_ok "PollYard$Row" 21 4 0 "PollYard$Row" tx_R 2 ty_R true := ⟨cf_R, by decide, rfl, tn_1 63 rfl rfl⟩
theorem fl_R_9 : fl_ok "PollYard$Row" 9 4 1 "PollYard$Row" tx_R 2 ty_R false := ⟨cf_R, by decide, rfl, tn_1 64 rfl rfl⟩
theorem fl_Y_168 : fl_ok "PollYard" 168 4 1 "PollYard$Row" tx_R 2 ty_R false := ⟨cf_R, by decide, rfl, tn_1 65 rfl rfl⟩
theorem fl_K_30 : fl_ok "PollYard$Worker" 30 3 0 "PollYard$Worker" tx_K 5 ty_K false := ⟨cf_K, by decide, rfl, tn_1 71 rfl rfl⟩
theorem fl_Y_195 : fl_ok "PollYard" 195 3 0 "PollYard$Worker" tx_K 5 ty_K false := ⟨cf_K, by decide, rfl, tn_1 72 rfl rfl⟩
theorem fl_K_14 : fl_ok "PollYard$Worker" 14 3 1 "PollYard$Worker" tx_K 5 ty_K true := ⟨cf_K, by decide, rfl, tn_1 73 rfl rfl⟩
theorem fl_Y_165 : fl_ok "PollYard" 165 3 1 "PollYard$Worker" tx_K 5 ty_K true := ⟨cf_K, by decide, rfl, tn_1 74 rfl rfl⟩
theorem fl_K_20 : fl_ok "PollYard$Worker" 20 3 2 "PollYard$Worker" tx_K 5 ty_K false := ⟨cf_K, by decide, rfl, tn_1 75 rfl rfl⟩
theorem fl_Y_159 : fl_ok "PollYard" 159 3 2 "PollYard$Worker" tx_K 5 ty_K false := ⟨cf_K, by decide, rfl, tn_1 76 rfl rfl⟩
theorem fl_K_24 : fl_ok "PollYard$Worker" 24 3 3 "PollYard$Worker" tx_K 5 ty_K false := ⟨cf_K, by decide, rfl, tn_1 77 rfl rfl⟩
theorem fl_Y_162 : fl_ok "PollYard" 162 3 3 "PollYard$Worker" tx_K 5 ty_K false := ⟨cf_K, by decide, rfl, tn_1 78 rfl rfl⟩
theorem fl_K_27 : fl_ok "PollYard$Worker" 27 3 4 "PollYard$Worker" tx_K 5 ty_K false := ⟨cf_K, by decide, rfl, tn_1 79 rfl rfl⟩
theorem fl_Y_172 : fl_ok "PollYard" 172 3 4 "PollYard$Worker" tx_K 5 ty_K false := ⟨cf_K, by decide, rfl, tn_1 80 rfl rfl⟩
theorem cl_Y_42 : Cond.classLink "PollYard" 42 "PollYard$Row" ∈ TS := tn_1 92 rfl rfl
theorem cl_Y_52 : Cond.classLink "PollYard" 52 "PollYard$Gate" ∈ TS := tn_1 94 rfl rfl
theorem cl_G_9 : Cond.classLink "PollYard$Gate" 9 "PollYard$Row" ∈ TS := tn_1 101 rfl rfl
theorem fl_G_14 : fl_ok "PollYard$Gate" 14 5 0 "PollYard$Gate" tx_G 2 ty_G true := ⟨cf_G, by decide, rfl, tn_1 103 rfl rfl⟩
theorem fl_Y_175 : fl_ok "PollYard" 175 5 0 "PollYard$Gate" tx_G 2 ty_G true := ⟨cf_G, by decide, rfl, tn_1 104 rfl rfl⟩
theorem fl_G_20 : fl_ok "PollYard$Gate" 20 5 1 "PollYard$Gate" tx_G 2 ty_G false := ⟨cf_G, by decide, rfl, tn_1 105 rfl rfl⟩
theorem fl_Y_137 : fl_ok "PollYard" 137 5 1 "PollYard$Gate" tx_G 2 ty_G false := ⟨cf_G, by decide, rfl, tn_1 106 rfl rfl⟩
theorem cl_Y_59 : Cond.classLink "PollYard" 59 "PollYard$Notice" ∈ TS := tn_1 112 rfl rfl
theorem cl_N_9 : Cond.classLink "PollYard$Notice" 9 "PollYard$Row" ∈ TS := tn_1 119 rfl rfl
theorem fl_N_14 : fl_ok "PollYard$Notice" 14 6 0 "PollYard$Notice" tx_N 2 ty_N true := ⟨cf_N, by decide, rfl, tn_1 121 rfl rfl⟩
theorem fl_Y_186 : fl_ok "PollYard" 186 6 0 "PollYard$Notice" tx_N 2 ty_N true := ⟨cf_N, by decide, rfl, tn_1 122 rfl rfl⟩
theorem fl_N_20 : fl_ok "PollYard$Notice" 20 6 1 "PollYard$Notice" tx_N 2 ty_N false := ⟨cf_N, by decide, rfl, tn_1 123 rfl rfl⟩
theorem fl_Y_182 : fl_ok "PollYard" 182 6 1 "PollYard$Notice" tx_N 2 ty_N false := ⟨cf_N, by decide, rfl, tn_1 124 rfl rfl⟩
theorem fl_Y_10 : fl_ok "PollYard" 10 0 0 "PollYard" tx_Y 14 ty_Y true := ⟨cf_Y, by decide, rfl, tn_1 130 rfl rfl⟩
theorem fl_Y_16 : fl_ok "PollYard" 16 0 1 "PollYard" tx_Y 14 ty_Y true := ⟨cf_Y, by decide, rfl, tn_1 131 rfl rfl⟩
theorem fl_Y_20 : fl_ok "PollYard" 20 0 2 "PollYard" tx_Y 14 ty_Y false := ⟨cf_Y, by decide, rfl, tn_1 132 rfl rfl⟩
theorem fl_Y_26 : fl_ok "PollYard" 26 0 3 "PollYard" tx_Y 14 ty_Y true := ⟨cf_Y, by decide, rfl, tn_1 133 rfl rfl⟩
theorem fl_Y_30 : fl_ok "PollYard" 30 0 4 "PollYard" tx_Y 14 ty_Y false := ⟨cf_Y, by decide, rfl, tn_1 134 rfl rfl⟩
theorem fl_Y_38 : fl_ok "PollYard" 38 0 5 "PollYard" tx_Y 14 ty_Y true := ⟨cf_Y, by decide, rfl, tn_1 135 rfl rfl⟩
theorem fl_Y_45 : fl_ok "PollYard" 45 0 6 "PollYard" tx_Y 14 ty_Y true := ⟨cf_Y, by decide, rfl, tn_1 136 rfl rfl⟩
theorem fl_Y_49 : fl_ok "PollYard" 49 0 7 "PollYard" tx_Y 14 ty_Y true := ⟨cf_Y, by decide, rfl, tn_1 137 rfl rfl⟩
theorem fl_Y_55 : fl_ok "PollYard" 55 0 8 "PollYard" tx_Y 14 ty_Y true := ⟨cf_Y, by decide, rfl, tn_1 138 rfl rfl⟩
theorem fl_Y_62 : fl_ok "PollYard" 62 0 9 "PollYard" tx_Y 14 ty_Y true := ⟨cf_Y, by decide, rfl, tn_1 139 rfl rfl⟩
theorem fl_Y_66 : fl_ok "PollYard" 66 0 10 "PollYard" tx_Y 14 ty_Y false := ⟨cf_Y, by decide, rfl, tn_1 140 rfl rfl⟩
theorem fl_Y_69 : fl_ok "PollYard" 69 0 11 "PollYard" tx_Y 14 ty_Y false := ⟨cf_Y, by decide, rfl, tn_1 141 rfl rfl⟩
theorem fl_Y_72 : fl_ok "PollYard" 72 0 12 "PollYard" tx_Y 14 ty_Y false := ⟨cf_Y, by decide, rfl, tn_1 142 rfl rfl⟩
theorem fl_Y_75 : fl_ok "PollYard" 75 0 13 "PollYard" tx_Y 14 ty_Y false := ⟨cf_Y, by decide, rfl, tn_1 143 rfl rfl⟩
theorem fs_Y_78 : Cond.fieldLink "PollYard" 78 "PollYard" "LOWEST" "[I" ∈ TS := tn_1 177 rfl rfl
theorem fs_Y_82 : Cond.fieldLink "PollYard" 82 "PollYard" "HIGHEST" "[I" ∈ TS := tn_1 179 rfl rfl
theorem fl_T_38 : fl_ok "PollYard$Task" 38 2 0 "PollYard$Task" tx_T 11 ty_T false := ⟨cf_T, by decide, rfl, tn_1 224 rfl rfl⟩
theorem fl_Y_213 : fl_ok "PollYard" 213 2 0 "PollYard$Task" tx_T 11 ty_T false := ⟨cf_T, by decide, rfl, tn_1 225 rfl rfl⟩
theorem fl_T_41 : fl_ok "PollYard$Task" 41 2 1 "PollYard$Task" tx_T 11 ty_T false := ⟨cf_T, by decide, rfl, tn_1 226 rfl rfl⟩
theorem fl_Y_150 : fl_ok "PollYard" 150 2 1 "PollYard$Task" tx_T 11 ty_T false := ⟨cf_T, by decide, rfl, tn_1 227 rfl rfl⟩
theorem fl_T_44 : fl_ok "PollYard$Task" 44 2 2 "PollYard$Task" tx_T 11 ty_T true := ⟨cf_T, by decide, rfl, tn_1 228 rfl rfl⟩
theorem fl_Y_257 : fl_ok "PollYard" 257 2 2 "PollYard$Task" tx_T 11 ty_T true := ⟨cf_T, by decide, rfl, tn_1 229 rfl rfl⟩
theorem fl_T_9 : fl_ok "PollYard$Task" 9 2 3 "PollYard$Task" tx_T 11 ty_T false := ⟨cf_T, by decide, rfl, tn_1 230 rfl rfl⟩
theorem fl_Y_123 : fl_ok "PollYard" 123 2 3 "PollYard$Task" tx_T 11 ty_T false := ⟨cf_T, by decide, rfl, tn_1 231 rfl rfl⟩
theorem fl_T_15 : fl_ok "PollYard$Task" 15 2 4 "PollYard$Task" tx_T 11 ty_T false := ⟨cf_T, by decide, rfl, tn_1 232 rfl rfl⟩
theorem fl_Y_144 : fl_ok "PollYard" 144 2 4 "PollYard$Task" tx_T 11 ty_T false := ⟨cf_T, by decide, rfl, tn_1 233 rfl rfl⟩
theorem fl_T_18 : fl_ok "PollYard$Task" 18 2 5 "PollYard$Task" tx_T 11 ty_T false := ⟨cf_T, by decide, rfl, tn_1 234 rfl rfl⟩
theorem fl_Y_147 : fl_ok "PollYard" 147 2 5 "PollYard$Task" tx_T 11 ty_T false := ⟨cf_T, by decide, rfl, tn_1 235 rfl rfl⟩
theorem fl_T_21 : fl_ok "PollYard$Task" 21 2 6 "PollYard$Task" tx_T 11 ty_T false := ⟨cf_T, by decide, rfl, tn_1 236 rfl rfl⟩
theorem fl_Y_153 : fl_ok "PollYard" 153 2 6 "PollYard$Task" tx_T 11 ty_T false := ⟨cf_T, by decide, rfl, tn_1 237 rfl rfl⟩
theorem fl_T_24 : fl_ok "PollYard$Task" 24 2 7 "PollYard$Task" tx_T 11 ty_T false := ⟨cf_T, by decide, rfl, tn_1 238 rfl rfl⟩
theorem fl_Y_214 : fl_ok "PollYard" 214 2 7 "PollYard$Task" tx_T 11 ty_T false := ⟨cf_T, by decide, rfl, tn_1 239 rfl rfl⟩
theorem fl_T_28 : fl_ok "PollYard$Task" 28 2 8 "PollYard$Task" tx_T 11 ty_T true := ⟨cf_T, by decide, rfl, tn_2 0 rfl rfl⟩
theorem fl_Y_263 : fl_ok "PollYard" 263 2 8 "PollYard$Task" tx_T 11 ty_T true := ⟨cf_T, by decide, rfl, tn_2 1 rfl rfl⟩
theorem fl_T_32 : fl_ok "PollYard$Task" 32 2 9 "PollYard$Task" tx_T 11 ty_T true := ⟨cf_T, by decide, rfl, tn_2 2 rfl rfl⟩
theorem fl_T_35 : fl_ok "PollYard$Task" 35 2 10 "PollYard$Task" tx_T 11 ty_T true := ⟨cf_T, by decide, rfl, tn_2 3 rfl rfl⟩
theorem fl_Y_204 : fl_ok "PollYard" 204 2 10 "PollYard$Task" tx_T 11 ty_T true := ⟨cf_T, by decide, rfl, tn_2 4 rfl rfl⟩
theorem cl_L_10 : Cond.classLink "PollYardLaw" 10 "PollYardModel" ∈ TS := tn_3 45 rfl rfl
theorem fl_M_7 : fl_ok "PollYardModel" 7 7 0 "PollYardModel" tx_M 36 ty_M true := ⟨cf_M, by decide, rfl, tn_3 51 rfl rfl⟩
theorem fl_M_13 : fl_ok "PollYardModel" 13 7 1 "PollYardModel" tx_M 36 ty_M true := ⟨cf_M, by decide, rfl, tn_3 52 rfl rfl⟩
theorem fl_M_16 : fl_ok "PollYardModel" 16 7 2 "PollYardModel" tx_M 36 ty_M true := ⟨cf_M, by decide, rfl, tn_3 53 rfl rfl⟩
theorem fl_M_105 : fl_ok "PollYardModel" 105 7 3 "PollYardModel" tx_M 36 ty_M false := ⟨cf_M, by decide, rfl, tn_3 54 rfl rfl⟩
theorem fl_M_19 : fl_ok "PollYardModel" 19 7 4 "PollYardModel" tx_M 36 ty_M true := ⟨cf_M, by decide, rfl, tn_3 55 rfl rfl⟩
theorem fl_M_22 : fl_ok "PollYardModel" 22 7 5 "PollYardModel" tx_M 36 ty_M true := ⟨cf_M, by decide, rfl, tn_3 56 rfl rfl⟩
theorem fl_M_25 : fl_ok "PollYardModel" 25 7 6 "PollYardModel" tx_M 36 ty_M true := ⟨cf_M, by decide, rfl, tn_3 57 rfl rfl⟩
theorem fl_M_28 : fl_ok "PollYardModel" 28 7 7 "PollYardModel" tx_M 36 ty_M true := ⟨cf_M, by decide, rfl, tn_3 58 rfl rfl⟩
theorem fl_M_31 : fl_ok "PollYardModel" 31 7 8 "PollYardModel" tx_M 36 ty_M true := ⟨cf_M, by decide, rfl, tn_3 59 rfl rfl⟩
theorem fl_M_34 : fl_ok "PollYardModel" 34 7 9 "PollYardModel" tx_M 36 ty_M true := ⟨cf_M, by decide, rfl, tn_3 60 rfl rfl⟩
theorem fl_M_37 : fl_ok "PollYardModel" 37 7 10 "PollYardModel" tx_M 36 ty_M true := ⟨cf_M, by decide, rfl, tn_3 61 rfl rfl⟩
theorem fl_M_41 : fl_ok "PollYardModel" 41 7 11 "PollYardModel" tx_M 36 ty_M true := ⟨cf_M, by decide, rfl, tn_3 62 rfl rfl⟩
theorem fl_M_44 : fl_ok "PollYardModel" 44 7 12 "PollYardModel" tx_M 36 ty_M true := ⟨cf_M, by decide, rfl, tn_3 63 rfl rfl⟩
theorem fl_M_47 : fl_ok "PollYardModel" 47 7 13 "PollYardModel" tx_M 36 ty_M true := ⟨cf_M, by decide, rfl, tn_3 64 rfl rfl⟩
theorem fl_M_50 : fl_ok "PollYardModel" 50 7 14 "PollYardModel" tx_M 36 ty_M true := ⟨cf_M, by decide, rfl, tn_3 65 rfl rfl⟩
theorem fl_M_53 : fl_ok "PollYardModel" 53 7 15 "PollYardModel" tx_M 36 ty_M true := ⟨cf_M, by decide, rfl, tn_3 66 rfl rfl⟩
theorem fl_M_56 : fl_ok "PollYardModel" 56 7 16 "PollYardModel" tx_M 36 ty_M true := ⟨cf_M, by decide, rfl, tn_3 67 rfl rfl⟩
theorem fl_M_59 : fl_ok "PollYardModel" 59 7 17 "PollYardModel" tx_M 36 ty_M true := ⟨cf_M, by decide, rfl, tn_3 68 rfl rfl⟩
theorem fl_M_62 : fl_ok "PollYardModel" 62 7 18 "PollYardModel" tx_M 36 ty_M true := ⟨cf_M, by decide, rfl, tn_3 69 rfl rfl⟩
theorem fl_M_65 : fl_ok "PollYardModel" 65 7 19 "PollYardModel" tx_M 36 ty_M true := ⟨cf_M, by decide, rfl, tn_3 70 rfl rfl⟩
theorem fl_M_68 : fl_ok "PollYardModel" 68 7 20 "PollYardModel" tx_M 36 ty_M true := ⟨cf_M, by decide, rfl, tn_3 71 rfl rfl⟩
theorem fl_M_71 : fl_ok "PollYardModel" 71 7 21 "PollYardModel" tx_M 36 ty_M true := ⟨cf_M, by decide, rfl, tn_3 72 rfl rfl⟩
theorem fl_M_74 : fl_ok "PollYardModel" 74 7 22 "PollYardModel" tx_M 36 ty_M true := ⟨cf_M, by decide, rfl, tn_3 73 rfl rfl⟩
theorem fl_M_77 : fl_ok "PollYardModel" 77 7 23 "PollYardModel" tx_M 36 ty_M true := ⟨cf_M, by decide, rfl, tn_3 74 rfl rfl⟩
theorem fl_M_80 : fl_ok "PollYardModel" 80 7 24 "PollYardModel" tx_M 36 ty_M true := ⟨cf_M, by decide, rfl, tn_3 75 rfl rfl⟩
theorem fl_M_83 : fl_ok "PollYardModel" 83 7 25 "PollYardModel" tx_M 36 ty_M true := ⟨cf_M, by decide, rfl, tn_3 76 rfl rfl⟩
theorem fl_M_86 : fl_ok "PollYardModel" 86 7 26 "PollYardModel" tx_M 36 ty_M true := ⟨cf_M, by decide, rfl, tn_3 77 rfl rfl⟩
theorem fl_M_112 : fl_ok "PollYardModel" 112 7 27 "PollYardModel" tx_M 36 ty_M false := ⟨cf_M, by decide, rfl, tn_3 78 rfl rfl⟩
theorem fl_M_119 : fl_ok "PollYardModel" 119 7 28 "PollYardModel" tx_M 36 ty_M false := ⟨cf_M, by decide, rfl, tn_3 79 rfl rfl⟩
theorem fl_M_162 : fl_ok "PollYardModel" 162 7 29 "PollYardModel" tx_M 36 ty_M false := ⟨cf_M, by decide, rfl, tn_3 80 rfl rfl⟩
theorem fl_M_195 : fl_ok "PollYardModel" 195 7 30 "PollYardModel" tx_M 36 ty_M false := ⟨cf_M, by decide, rfl, tn_3 81 rfl rfl⟩
theorem fl_M_211 : fl_ok "PollYardModel" 211 7 31 "PollYardModel" tx_M 36 ty_M false := ⟨cf_M, by decide, rfl, tn_3 82 rfl rfl⟩
theorem fl_M_220 : fl_ok "PollYardModel" 220 7 32 "PollYardModel" tx_M 36 ty_M false := ⟨cf_M, by decide, rfl, tn_3 83 rfl rfl⟩
theorem fl_M_192 : fl_ok "PollYardModel" 192 7 33 "PollYardModel" tx_M 36 ty_M false := ⟨cf_M, by decide, rfl, tn_3 84 rfl rfl⟩
theorem fl_M_151 : fl_ok "PollYardModel" 151 7 34 "PollYardModel" tx_M 36 ty_M false := ⟨cf_M, by decide, rfl, tn_3 85 rfl rfl⟩
theorem fl_M_89 : fl_ok "PollYardModel" 89 7 35 "PollYardModel" tx_M 36 ty_M false := ⟨cf_M, by decide, rfl, tn_3 86 rfl rfl⟩
theorem ac_int : Cond.arrayClass .int ∈ TS := tn_1 43 rfl rfl
theorem ac_bool : Cond.arrayClass .boolean ∈ TS := tn_3 160 rfl rfl
abbrev yt_Y_init : Yt := (prog_1_method_1_code, 1, "PollYard", "<init>", none)
abbrev yn_Y_init : MethodName := ⟨"PollYard", "<init>", "()V"⟩
theorem mt_Y_init : mt_ok yt_Y_init yn_Y_init 0 := ⟨⟨tn_1 14 rfl rfl, tn_1 1 rfl rfl⟩, by decide +kernel, by decide, by decide +kernel, rfl, rfl⟩
theorem im_Y_init : Cond.instanceMethod yn_Y_init ∈ TS := tn_1 13 rfl rfl
abbrev yt_P_init : Yt := (prog_4_method_1_code, 1, "PollYard$Program", "<init>", none)
abbrev yn_P_init : MethodName := ⟨"PollYard$Program", "<init>", "()V"⟩
theorem mt_P_init : mt_ok yt_P_init yn_P_init 0 := ⟨⟨tn_1 22 rfl rfl, tn_1 2 rfl rfl⟩, by decide +kernel, by decide, by decide +kernel, rfl, rfl⟩
theorem im_P_init : Cond.instanceMethod yn_P_init ∈ TS := tn_1 21 rfl rfl
abbrev yt_K_init : Yt := (prog_7_method_1_code, 2, "PollYard$Worker", "<init>", none)
abbrev yn_K_init : MethodName := ⟨"PollYard$Worker", "<init>", "(I)V"⟩
theorem mt_K_init : mt_ok yt_K_init yn_K_init 1 := ⟨⟨tn_1 52 rfl rfl, tn_1 3 rfl rfl⟩, by decide +kernel, by decide, by decide +kernel, rfl, rfl⟩
theorem im_K_init : Cond.instanceMethod yn_K_init ∈ TS := tn_1 51 rfl rfl
abbrev yt_R_init : Yt := (prog_5_method_1_code, 2, "PollYard$Row", "<init>", none)
abbrev yn_R_init : MethodName := ⟨"PollYard$Row", "<init>", "(I)V"⟩
theorem mt_R_init : mt_ok yt_R_init yn_R_init 1 := ⟨⟨tn_1 58 rfl rfl, tn_1 4 rfl rfl⟩, by decide +kernel, by decide, by decide +kernel, rfl, rfl⟩
theorem im_R_init : Cond.instanceMethod yn_R_init ∈ TS := tn_1 57 rfl rfl
abbrev yt_G_init : Yt := (prog_2_method_1_code, 1, "PollYard$Gate", "<init>", none)
abbrev yn_G_init : MethodName := ⟨"PollYard$Gate", "<init>", "()V"⟩
theorem mt_G_init : mt_ok yt_G_init yn_G_init 0 := ⟨⟨tn_1 99 rfl rfl, tn_1 6 rfl rfl⟩, by decide +kernel, by decide, by decide +kernel, rfl, rfl⟩
theorem im_G_init : Cond.instanceMethod yn_G_init ∈ TS := tn_1 98 rfl rfl
abbrev yt_N_init : Yt := (prog_3_method_1_code, 1, "PollYard$Notice", "<init>", none)
abbrev yn_N_init : MethodName := ⟨"PollYard$Notice", "<init>", "()V"⟩
theorem mt_N_init : mt_ok yt_N_init yn_N_init 0 := ⟨⟨tn_1 117 rfl rfl, tn_1 7 rfl rfl⟩, by decide +kernel, by decide, by decide +kernel, rfl, rfl⟩
theorem im_N_init : Cond.instanceMethod yn_N_init ∈ TS := tn_1 116 rfl rfl
abbrev yt_Y_token : Yt := (prog_1_method_2_code, 3, "PollYard", "token", (some (.int)))
abbrev yn_Y_token : MethodName := ⟨"PollYard", "token", "(II)I"⟩
theorem mt_Y_token : mt_ok yt_Y_token yn_Y_token 2 := ⟨⟨tn_1 176 rfl rfl, tn_1 1 rfl rfl⟩, by decide +kernel, by decide, by decide +kernel, rfl, rfl⟩
theorem im_Y_token : Cond.instanceMethod yn_Y_token ∈ TS := tn_1 174 rfl rfl
theorem se_Y_token : Cond.selects "PollYard" yn_Y_token yn_Y_token ∈ TS := tn_1 175 rfl rfl
abbrev yt_P_append : Yt := (prog_4_method_4_code, 3, "PollYard$Program", "append", (some (.boolean)))
abbrev yn_P_append : MethodName := ⟨"PollYard$Program", "append", "(II)Z"⟩
theorem mt_P_append : mt_ok yt_P_append yn_P_append 2 := ⟨⟨tn_1 184 rfl rfl, tn_1 2 rfl rfl⟩, by decide +kernel, by decide, by decide +kernel, rfl, rfl⟩
theorem im_P_append : Cond.instanceMethod yn_P_append ∈ TS := tn_1 182 rfl rfl
theorem se_P_append : Cond.selects "PollYard$Program" yn_P_append yn_P_append ∈ TS := tn_1 183 rfl rfl
abbrev yt_Y_define : Yt := (prog_1_method_3_code, 1, "PollYard", "define", (some (.int)))
abbrev yn_Y_define : MethodName := ⟨"PollYard", "define", "()I"⟩
theorem mt_Y_define : mt_ok yt_Y_define yn_Y_define 0 := ⟨⟨tn_1 188 rfl rfl, tn_1 1 rfl rfl⟩, by decide +kernel, by decide, by decide +kernel, rfl, rfl⟩
theorem im_Y_define : Cond.instanceMethod yn_Y_define ∈ TS := tn_1 186 rfl rfl
theorem se_Y_define : Cond.selects "PollYard" yn_Y_define yn_Y_define ∈ TS := tn_1 187 rfl rfl
abbrev yt_P_isOneFuture : Yt := (prog_4_method_5_code, 3, "PollYard$Program", "isOneFuture", (some (.boolean)))
abbrev yn_P_isOneFuture : MethodName := ⟨"PollYard$Program", "isOneFuture", "()Z"⟩
theorem mt_P_isOneFuture : mt_ok yt_P_isOneFuture yn_P_isOneFuture 0 := ⟨⟨tn_1 192 rfl rfl, tn_1 2 rfl rfl⟩, by decide +kernel, by decide, by decide +kernel, rfl, rfl⟩
theorem im_P_isOneFuture : Cond.instanceMethod yn_P_isOneFuture ∈ TS := tn_1 190 rfl rfl
theorem se_P_isOneFuture : Cond.selects "PollYard$Program" yn_P_isOneFuture yn_P_isOneFuture ∈ TS := tn_1 191 rfl rfl
abbrev yt_P_findEnds : Yt := (prog_4_method_6_code, 4, "PollYard$Program", "findEnds", none)
abbrev yn_P_findEnds : MethodName := ⟨"PollYard$Program", "findEnds", "()V"⟩
theorem mt_P_findEnds : mt_ok yt_P_findEnds yn_P_findEnds 0 := ⟨⟨tn_1 198 rfl rfl, tn_1 2 rfl rfl⟩, by decide +kernel, by decide, by decide +kernel, rfl, rfl⟩
theorem im_P_findEnds : Cond.instanceMethod yn_P_findEnds ∈ TS := tn_1 196 rfl rfl
theorem se_P_findEnds : Cond.selects "PollYard$Program" yn_P_findEnds yn_P_findEnds ∈ TS := tn_1 197 rfl rfl
abbrev yt_P_endOf : Yt := (prog_4_method_3_code, 2, "PollYard$Program", "endOf", (some (.int)))
abbrev yn_P_endOf : MethodName := ⟨"PollYard$Program", "endOf", "(I)I"⟩
theorem mt_P_endOf : mt_ok yt_P_endOf yn_P_endOf 1 := ⟨⟨tn_1 202 rfl rfl, tn_1 2 rfl rfl⟩, by decide +kernel, by decide, by decide +kernel, rfl, rfl⟩
theorem im_P_endOf : Cond.instanceMethod yn_P_endOf ∈ TS := tn_1 200 rfl rfl
theorem se_P_endOf : Cond.selects "PollYard$Program" yn_P_endOf yn_P_endOf ∈ TS := tn_1 201 rfl rfl
abbrev yt_P_has : Yt := (prog_4_method_2_code, 2, "PollYard$Program", "has", (some (.boolean)))
abbrev yn_P_has : MethodName := ⟨"PollYard$Program", "has", "(I)Z"⟩
theorem mt_P_has : mt_ok yt_P_has yn_P_has 1 := ⟨⟨tn_1 206 rfl rfl, tn_1 2 rfl rfl⟩, by decide +kernel, by decide, by decide +kernel, rfl, rfl⟩
theorem im_P_has : Cond.instanceMethod yn_P_has ∈ TS := tn_1 204 rfl rfl
theorem se_P_has : Cond.selects "PollYard$Program" yn_P_has yn_P_has ∈ TS := tn_1 205 rfl rfl
abbrev yt_Y_clear : Yt := (prog_1_method_4_code, 2, "PollYard", "clear", (some (.int)))
abbrev yn_Y_clear : MethodName := ⟨"PollYard", "clear", "()I"⟩
theorem mt_Y_clear : mt_ok yt_Y_clear yn_Y_clear 0 := ⟨⟨tn_1 210 rfl rfl, tn_1 1 rfl rfl⟩, by decide +kernel, by decide, by decide +kernel, rfl, rfl⟩
theorem im_Y_clear : Cond.instanceMethod yn_Y_clear ∈ TS := tn_1 208 rfl rfl
theorem se_Y_clear : Cond.selects "PollYard" yn_Y_clear yn_Y_clear ∈ TS := tn_1 209 rfl rfl
abbrev yt_Y_spawn : Yt := (prog_1_method_5_code, 3, "PollYard", "spawn", (some (.int)))
abbrev yn_Y_spawn : MethodName := ⟨"PollYard", "spawn", "(I)I"⟩
theorem mt_Y_spawn : mt_ok yt_Y_spawn yn_Y_spawn 1 := ⟨⟨tn_1 214 rfl rfl, tn_1 1 rfl rfl⟩, by decide +kernel, by decide, by decide +kernel, rfl, rfl⟩
theorem im_Y_spawn : Cond.instanceMethod yn_Y_spawn ∈ TS := tn_1 212 rfl rfl
theorem se_Y_spawn : Cond.selects "PollYard" yn_Y_spawn yn_Y_spawn ∈ TS := tn_1 213 rfl rfl
abbrev yt_Y_makeTask : Yt := (prog_1_method_22_code, 3, "PollYard", "makeTask", (some (.int)))
abbrev yn_Y_makeTask : MethodName := ⟨"PollYard", "makeTask", "(I)I"⟩
theorem mt_Y_makeTask : mt_ok yt_Y_makeTask yn_Y_makeTask 1 := ⟨⟨tn_1 218 rfl rfl, tn_1 1 rfl rfl⟩, by decide +kernel, by decide, by decide +kernel, rfl, rfl⟩
theorem im_Y_makeTask : Cond.instanceMethod yn_Y_makeTask ∈ TS := tn_1 217 rfl rfl
theorem se_Y_makeTask : Cond.selects "PollYard" yn_Y_makeTask yn_Y_makeTask ∈ TS := tn_p 0 rfl rfl
abbrev yt_T_init : Yt := (prog_6_method_1_code, 5, "PollYard$Task", "<init>", none)
abbrev yn_T_init : MethodName := ⟨"PollYard$Task", "<init>", "(IILPollYard$Program;)V"⟩
theorem mt_T_init : mt_ok yt_T_init yn_T_init 3 := ⟨⟨tn_1 222 rfl rfl, tn_1 9 rfl rfl⟩, by decide +kernel, by decide, by decide +kernel, rfl, rfl⟩
theorem im_T_init : Cond.instanceMethod yn_T_init ∈ TS := tn_1 221 rfl rfl
abbrev yt_R_add : Yt := (prog_5_method_4_code, 2, "PollYard$Row", "add", none)
abbrev yn_R_add : MethodName := ⟨"PollYard$Row", "add", "(I)V"⟩
theorem mt_R_add : mt_ok yt_R_add yn_R_add 1 := ⟨⟨tn_2 31 rfl rfl, tn_1 4 rfl rfl⟩, by decide +kernel, by decide, by decide +kernel, rfl, rfl⟩
theorem im_R_add : Cond.instanceMethod yn_R_add ∈ TS := tn_2 29 rfl rfl
theorem se_R_add : Cond.selects "PollYard$Row" yn_R_add yn_R_add ∈ TS := tn_2 30 rfl rfl
abbrev yt_Y_injectWoken : Yt := (prog_1_method_26_code, 2, "PollYard", "injectWoken", none)
abbrev yn_Y_injectWoken : MethodName := ⟨"PollYard", "injectWoken", "()V"⟩
theorem mt_Y_injectWoken : mt_ok yt_Y_injectWoken yn_Y_injectWoken 0 := ⟨⟨tn_2 35 rfl rfl, tn_1 1 rfl rfl⟩, by decide +kernel, by decide, by decide +kernel, rfl, rfl⟩
theorem im_Y_injectWoken : Cond.instanceMethod yn_Y_injectWoken ∈ TS := tn_2 34 rfl rfl
theorem se_Y_injectWoken : Cond.selects "PollYard" yn_Y_injectWoken yn_Y_injectWoken ∈ TS := tn_p 1 rfl rfl
abbrev yt_R_at : Yt := (prog_5_method_3_code, 2, "PollYard$Row", "at", (some (.int)))
abbrev yn_R_at : MethodName := ⟨"PollYard$Row", "at", "(I)I"⟩
theorem mt_R_at : mt_ok yt_R_at yn_R_at 1 := ⟨⟨tn_2 39 rfl rfl, tn_1 4 rfl rfl⟩, by decide +kernel, by decide, by decide +kernel, rfl, rfl⟩
theorem im_R_at : Cond.instanceMethod yn_R_at ∈ TS := tn_2 37 rfl rfl
theorem se_R_at : Cond.selects "PollYard$Row" yn_R_at yn_R_at ∈ TS := tn_2 38 rfl rfl
abbrev yt_Y_turn : Yt := (prog_1_method_6_code, 2, "PollYard", "turn", (some (.int)))
abbrev yn_Y_turn : MethodName := ⟨"PollYard", "turn", "(I)I"⟩
theorem mt_Y_turn : mt_ok yt_Y_turn yn_Y_turn 1 := ⟨⟨tn_2 43 rfl rfl, tn_1 1 rfl rfl⟩, by decide +kernel, by decide, by decide +kernel, rfl, rfl⟩
theorem im_Y_turn : Cond.instanceMethod yn_Y_turn ∈ TS := tn_2 41 rfl rfl
theorem se_Y_turn : Cond.selects "PollYard" yn_Y_turn yn_Y_turn ∈ TS := tn_2 42 rfl rfl
abbrev yt_Y_takeTurn : Yt := (prog_1_method_30_code, 3, "PollYard", "takeTurn", (some (.int)))
abbrev yn_Y_takeTurn : MethodName := ⟨"PollYard", "takeTurn", "(LPollYard$Worker;)I"⟩
theorem mt_Y_takeTurn : mt_ok yt_Y_takeTurn yn_Y_takeTurn 1 := ⟨⟨tn_2 47 rfl rfl, tn_1 1 rfl rfl⟩, by decide +kernel, by decide, by decide +kernel, rfl, rfl⟩
theorem im_Y_takeTurn : Cond.instanceMethod yn_Y_takeTurn ∈ TS := tn_2 46 rfl rfl
theorem se_Y_takeTurn : Cond.selects "PollYard" yn_Y_takeTurn yn_Y_takeTurn ∈ TS := tn_p 2 rfl rfl
abbrev yt_Y_nextTask : Yt := (prog_1_method_31_code, 4, "PollYard", "nextTask", (some (.int)))
abbrev yn_Y_nextTask : MethodName := ⟨"PollYard", "nextTask", "(LPollYard$Worker;)I"⟩
theorem mt_Y_nextTask : mt_ok yt_Y_nextTask yn_Y_nextTask 1 := ⟨⟨tn_2 51 rfl rfl, tn_1 1 rfl rfl⟩, by decide +kernel, by decide, by decide +kernel, rfl, rfl⟩
theorem im_Y_nextTask : Cond.instanceMethod yn_Y_nextTask ∈ TS := tn_2 50 rfl rfl
theorem se_Y_nextTask : Cond.selects "PollYard" yn_Y_nextTask yn_Y_nextTask ∈ TS := tn_p 3 rfl rfl
abbrev yt_R_isEmpty : Yt := (prog_5_method_2_code, 1, "PollYard$Row", "isEmpty", (some (.boolean)))
abbrev yn_R_isEmpty : MethodName := ⟨"PollYard$Row", "isEmpty", "()Z"⟩
theorem mt_R_isEmpty : mt_ok yt_R_isEmpty yn_R_isEmpty 0 := ⟨⟨tn_2 55 rfl rfl, tn_1 4 rfl rfl⟩, by decide +kernel, by decide, by decide +kernel, rfl, rfl⟩
theorem im_R_isEmpty : Cond.instanceMethod yn_R_isEmpty ∈ TS := tn_2 53 rfl rfl
theorem se_R_isEmpty : Cond.selects "PollYard$Row" yn_R_isEmpty yn_R_isEmpty ∈ TS := tn_2 54 rfl rfl
abbrev yt_K_emptySlot : Yt := (prog_7_method_2_code, 2, "PollYard$Worker", "emptySlot", (some (.int)))
abbrev yn_K_emptySlot : MethodName := ⟨"PollYard$Worker", "emptySlot", "()I"⟩
theorem mt_K_emptySlot : mt_ok yt_K_emptySlot yn_K_emptySlot 0 := ⟨⟨tn_2 59 rfl rfl, tn_1 3 rfl rfl⟩, by decide +kernel, by decide, by decide +kernel, rfl, rfl⟩
theorem im_K_emptySlot : Cond.instanceMethod yn_K_emptySlot ∈ TS := tn_2 57 rfl rfl
theorem se_K_emptySlot : Cond.selects "PollYard$Worker" yn_K_emptySlot yn_K_emptySlot ∈ TS := tn_2 58 rfl rfl
abbrev yt_R_takeFirst : Yt := (prog_5_method_8_code, 2, "PollYard$Row", "takeFirst", (some (.int)))
abbrev yn_R_takeFirst : MethodName := ⟨"PollYard$Row", "takeFirst", "()I"⟩
theorem mt_R_takeFirst : mt_ok yt_R_takeFirst yn_R_takeFirst 0 := ⟨⟨tn_2 63 rfl rfl, tn_1 4 rfl rfl⟩, by decide +kernel, by decide, by decide +kernel, rfl, rfl⟩
theorem im_R_takeFirst : Cond.instanceMethod yn_R_takeFirst ∈ TS := tn_2 61 rfl rfl
theorem se_R_takeFirst : Cond.selects "PollYard$Row" yn_R_takeFirst yn_R_takeFirst ∈ TS := tn_2 62 rfl rfl
abbrev yt_R_removeAt : Yt := (prog_5_method_9_code, 3, "PollYard$Row", "removeAt", none)
abbrev yn_R_removeAt : MethodName := ⟨"PollYard$Row", "removeAt", "(I)V"⟩
theorem mt_R_removeAt : mt_ok yt_R_removeAt yn_R_removeAt 1 := ⟨⟨tn_2 68 rfl rfl, tn_1 4 rfl rfl⟩, by decide +kernel, by decide, by decide +kernel, rfl, rfl⟩
theorem im_R_removeAt : Cond.instanceMethod yn_R_removeAt ∈ TS := tn_2 67 rfl rfl
theorem se_R_removeAt : Cond.selects "PollYard$Row" yn_R_removeAt yn_R_removeAt ∈ TS := tn_p 4 rfl rfl
abbrev yt_Y_steal : Yt := (prog_1_method_32_code, 7, "PollYard", "steal", (some (.int)))
abbrev yn_Y_steal : MethodName := ⟨"PollYard", "steal", "(LPollYard$Worker;)I"⟩
theorem mt_Y_steal : mt_ok yt_Y_steal yn_Y_steal 1 := ⟨⟨tn_2 72 rfl rfl, tn_1 1 rfl rfl⟩, by decide +kernel, by decide, by decide +kernel, rfl, rfl⟩
theorem im_Y_steal : Cond.instanceMethod yn_Y_steal ∈ TS := tn_2 71 rfl rfl
theorem se_Y_steal : Cond.selects "PollYard" yn_Y_steal yn_Y_steal ∈ TS := tn_p 5 rfl rfl
abbrev yt_Y_taskAt : Yt := (prog_1_method_20_code, 2, "PollYard", "taskAt", (some (.object "PollYard$Task")))
abbrev yn_Y_taskAt : MethodName := ⟨"PollYard", "taskAt", "(I)LPollYard$Task;"⟩
theorem mt_Y_taskAt : mt_ok yt_Y_taskAt yn_Y_taskAt 1 := ⟨⟨tn_2 76 rfl rfl, tn_1 1 rfl rfl⟩, by decide +kernel, by decide, by decide +kernel, rfl, rfl⟩
theorem im_Y_taskAt : Cond.instanceMethod yn_Y_taskAt ∈ TS := tn_2 75 rfl rfl
theorem se_Y_taskAt : Cond.selects "PollYard" yn_Y_taskAt yn_Y_taskAt ∈ TS := tn_p 6 rfl rfl
abbrev yt_Y_poll : Yt := (prog_1_method_33_code, 5, "PollYard", "poll", (some (.int)))
abbrev yn_Y_poll : MethodName := ⟨"PollYard", "poll", "(LPollYard$Task;II)I"⟩
theorem mt_Y_poll : mt_ok yt_Y_poll yn_Y_poll 3 := ⟨⟨tn_2 80 rfl rfl, tn_1 1 rfl rfl⟩, by decide +kernel, by decide, by decide +kernel, rfl, rfl⟩
theorem im_Y_poll : Cond.instanceMethod yn_Y_poll ∈ TS := tn_2 79 rfl rfl
theorem se_Y_poll : Cond.selects "PollYard" yn_Y_poll yn_Y_poll ∈ TS := tn_p 7 rfl rfl
abbrev yt_T_makeReady : Yt := (prog_6_method_6_code, 3, "PollYard$Task", "makeReady", none)
abbrev yn_T_makeReady : MethodName := ⟨"PollYard$Task", "makeReady", "(II)V"⟩
theorem mt_T_makeReady : mt_ok yt_T_makeReady yn_T_makeReady 2 := ⟨⟨tn_2 85 rfl rfl, tn_1 9 rfl rfl⟩, by decide +kernel, by decide, by decide +kernel, rfl, rfl⟩
theorem im_T_makeReady : Cond.instanceMethod yn_T_makeReady ∈ TS := tn_2 83 rfl rfl
theorem se_T_makeReady : Cond.selects "PollYard$Task" yn_T_makeReady yn_T_makeReady ∈ TS := tn_2 84 rfl rfl
abbrev yt_Y_pollTurn : Yt := (prog_1_method_34_code, 5, "PollYard", "pollTurn", none)
abbrev yn_Y_pollTurn : MethodName := ⟨"PollYard", "pollTurn", "(LPollYard$Task;II)V"⟩
theorem mt_Y_pollTurn : mt_ok yt_Y_pollTurn yn_Y_pollTurn 3 := ⟨⟨tn_2 89 rfl rfl, tn_1 1 rfl rfl⟩, by decide +kernel, by decide, by decide +kernel, rfl, rfl⟩
theorem im_Y_pollTurn : Cond.instanceMethod yn_Y_pollTurn ∈ TS := tn_2 88 rfl rfl
theorem se_Y_pollTurn : Cond.selects "PollYard" yn_Y_pollTurn yn_Y_pollTurn ∈ TS := tn_p 8 rfl rfl
abbrev yt_Y_wakeTask : Yt := (prog_1_method_23_code, 2, "PollYard", "wakeTask", none)
abbrev yn_Y_wakeTask : MethodName := ⟨"PollYard", "wakeTask", "(LPollYard$Task;)V"⟩
theorem mt_Y_wakeTask : mt_ok yt_Y_wakeTask yn_Y_wakeTask 1 := ⟨⟨tn_2 94 rfl rfl, tn_1 1 rfl rfl⟩, by decide +kernel, by decide, by decide +kernel, rfl, rfl⟩
theorem im_Y_wakeTask : Cond.instanceMethod yn_Y_wakeTask ∈ TS := tn_2 93 rfl rfl
theorem se_Y_wakeTask : Cond.selects "PollYard" yn_Y_wakeTask yn_Y_wakeTask ∈ TS := tn_p 9 rfl rfl
abbrev yt_Y_pollSleep : Yt := (prog_1_method_35_code, 4, "PollYard", "pollSleep", none)
abbrev yn_Y_pollSleep : MethodName := ⟨"PollYard", "pollSleep", "(LPollYard$Task;II)V"⟩
theorem mt_Y_pollSleep : mt_ok yt_Y_pollSleep yn_Y_pollSleep 3 := ⟨⟨tn_2 98 rfl rfl, tn_1 1 rfl rfl⟩, by decide +kernel, by decide, by decide +kernel, rfl, rfl⟩
theorem im_Y_pollSleep : Cond.instanceMethod yn_Y_pollSleep ∈ TS := tn_2 97 rfl rfl
theorem se_Y_pollSleep : Cond.selects "PollYard" yn_Y_pollSleep yn_Y_pollSleep ∈ TS := tn_p 10 rfl rfl
abbrev yt_Y_pollTake : Yt := (prog_1_method_36_code, 8, "PollYard", "pollTake", none)
abbrev yn_Y_pollTake : MethodName := ⟨"PollYard", "pollTake", "(LPollYard$Task;II)V"⟩
theorem mt_Y_pollTake : mt_ok yt_Y_pollTake yn_Y_pollTake 3 := ⟨⟨tn_2 102 rfl rfl, tn_1 1 rfl rfl⟩, by decide +kernel, by decide, by decide +kernel, rfl, rfl⟩
theorem im_Y_pollTake : Cond.instanceMethod yn_Y_pollTake ∈ TS := tn_2 101 rfl rfl
theorem se_Y_pollTake : Cond.selects "PollYard" yn_Y_pollTake yn_Y_pollTake ∈ TS := tn_p 11 rfl rfl
abbrev yt_Y_permitsOf : Yt := (prog_1_method_46_code, 1, "PollYard", "permitsOf", (some (.int)))
abbrev yn_Y_permitsOf : MethodName := ⟨"PollYard", "permitsOf", "(I)I"⟩
theorem mt_Y_permitsOf : mt_ok yt_Y_permitsOf yn_Y_permitsOf 1 := ⟨⟨tn_2 105 rfl rfl, tn_1 1 rfl rfl⟩, by decide +kernel, by decide, by decide +kernel, rfl, rfl⟩
theorem sm_Y_permitsOf : Cond.static yn_Y_permitsOf ∈ TS := tn_2 104 rfl rfl
abbrev yt_Y_spendUnit : Yt := (prog_1_method_45_code, 2, "PollYard", "spendUnit", (some (.boolean)))
abbrev yn_Y_spendUnit : MethodName := ⟨"PollYard", "spendUnit", "(LPollYard$Task;)Z"⟩
theorem mt_Y_spendUnit : mt_ok yt_Y_spendUnit yn_Y_spendUnit 1 := ⟨⟨tn_2 109 rfl rfl, tn_1 1 rfl rfl⟩, by decide +kernel, by decide, by decide +kernel, rfl, rfl⟩
theorem im_Y_spendUnit : Cond.instanceMethod yn_Y_spendUnit ∈ TS := tn_2 108 rfl rfl
theorem se_Y_spendUnit : Cond.selects "PollYard" yn_Y_spendUnit yn_Y_spendUnit ∈ TS := tn_p 12 rfl rfl
abbrev yt_T_placeOf : Yt := (prog_6_method_3_code, 2, "PollYard$Task", "placeOf", (some (.int)))
abbrev yn_T_placeOf : MethodName := ⟨"PollYard$Task", "placeOf", "(I)I"⟩
theorem mt_T_placeOf : mt_ok yt_T_placeOf yn_T_placeOf 1 := ⟨⟨tn_2 113 rfl rfl, tn_1 9 rfl rfl⟩, by decide +kernel, by decide, by decide +kernel, rfl, rfl⟩
theorem im_T_placeOf : Cond.instanceMethod yn_T_placeOf ∈ TS := tn_2 111 rfl rfl
theorem se_T_placeOf : Cond.selects "PollYard$Task" yn_T_placeOf yn_T_placeOf ∈ TS := tn_2 112 rfl rfl
abbrev yt_Y_addPermits : Yt := (prog_1_method_47_code, 10, "PollYard", "addPermits", none)
abbrev yn_Y_addPermits : MethodName := ⟨"PollYard", "addPermits", "(LPollYard$Gate;I)V"⟩
theorem mt_Y_addPermits : mt_ok yt_Y_addPermits yn_Y_addPermits 2 := ⟨⟨tn_2 117 rfl rfl, tn_1 1 rfl rfl⟩, by decide +kernel, by decide, by decide +kernel, rfl, rfl⟩
theorem im_Y_addPermits : Cond.instanceMethod yn_Y_addPermits ∈ TS := tn_2 116 rfl rfl
theorem se_Y_addPermits : Cond.selects "PollYard" yn_Y_addPermits yn_Y_addPermits ∈ TS := tn_p 13 rfl rfl
abbrev yt_Y_ownerOf : Yt := (prog_1_method_21_code, 2, "PollYard", "ownerOf", (some (.object "PollYard$Task")))
abbrev yn_Y_ownerOf : MethodName := ⟨"PollYard", "ownerOf", "(I)LPollYard$Task;"⟩
theorem mt_Y_ownerOf : mt_ok yt_Y_ownerOf yn_Y_ownerOf 1 := ⟨⟨tn_2 121 rfl rfl, tn_1 1 rfl rfl⟩, by decide +kernel, by decide, by decide +kernel, rfl, rfl⟩
theorem im_Y_ownerOf : Cond.instanceMethod yn_Y_ownerOf ∈ TS := tn_2 120 rfl rfl
theorem se_Y_ownerOf : Cond.selects "PollYard" yn_Y_ownerOf yn_Y_ownerOf ∈ TS := tn_p 14 rfl rfl
abbrev yt_Y_pollWait : Yt := (prog_1_method_37_code, 7, "PollYard", "pollWait", none)
abbrev yn_Y_pollWait : MethodName := ⟨"PollYard", "pollWait", "(LPollYard$Task;II)V"⟩
theorem mt_Y_pollWait : mt_ok yt_Y_pollWait yn_Y_pollWait 3 := ⟨⟨tn_2 128 rfl rfl, tn_1 1 rfl rfl⟩, by decide +kernel, by decide, by decide +kernel, rfl, rfl⟩
theorem im_Y_pollWait : Cond.instanceMethod yn_Y_pollWait ∈ TS := tn_2 127 rfl rfl
theorem se_Y_pollWait : Cond.selects "PollYard" yn_Y_pollWait yn_Y_pollWait ∈ TS := tn_p 15 rfl rfl
abbrev yt_Y_giveNotice : Yt := (prog_1_method_48_code, 4, "PollYard", "giveNotice", (some (.boolean)))
abbrev yn_Y_giveNotice : MethodName := ⟨"PollYard", "giveNotice", "(LPollYard$Notice;)Z"⟩
theorem mt_Y_giveNotice : mt_ok yt_Y_giveNotice yn_Y_giveNotice 1 := ⟨⟨tn_2 132 rfl rfl, tn_1 1 rfl rfl⟩, by decide +kernel, by decide, by decide +kernel, rfl, rfl⟩
theorem im_Y_giveNotice : Cond.instanceMethod yn_Y_giveNotice ∈ TS := tn_2 131 rfl rfl
theorem se_Y_giveNotice : Cond.selects "PollYard" yn_Y_giveNotice yn_Y_giveNotice ∈ TS := tn_p 16 rfl rfl
abbrev yt_Y_pollReap : Yt := (prog_1_method_38_code, 6, "PollYard", "pollReap", none)
abbrev yn_Y_pollReap : MethodName := ⟨"PollYard", "pollReap", "(LPollYard$Task;II)V"⟩
theorem mt_Y_pollReap : mt_ok yt_Y_pollReap yn_Y_pollReap 3 := ⟨⟨tn_2 136 rfl rfl, tn_1 1 rfl rfl⟩, by decide +kernel, by decide, by decide +kernel, rfl, rfl⟩
theorem im_Y_pollReap : Cond.instanceMethod yn_Y_pollReap ∈ TS := tn_2 135 rfl rfl
theorem se_Y_pollReap : Cond.selects "PollYard" yn_Y_pollReap yn_Y_pollReap ∈ TS := tn_p 17 rfl rfl
abbrev yt_T_follow : Yt := (prog_6_method_8_code, 3, "PollYard$Task", "follow", none)
abbrev yn_T_follow : MethodName := ⟨"PollYard$Task", "follow", "(II)V"⟩
theorem mt_T_follow : mt_ok yt_T_follow yn_T_follow 2 := ⟨⟨tn_2 140 rfl rfl, tn_1 9 rfl rfl⟩, by decide +kernel, by decide, by decide +kernel, rfl, rfl⟩
theorem im_T_follow : Cond.instanceMethod yn_T_follow ∈ TS := tn_2 138 rfl rfl
theorem se_T_follow : Cond.selects "PollYard$Task" yn_T_follow yn_T_follow ∈ TS := tn_2 139 rfl rfl
abbrev yt_T_phaseOf : Yt := (prog_6_method_4_code, 2, "PollYard$Task", "phaseOf", (some (.int)))
abbrev yn_T_phaseOf : MethodName := ⟨"PollYard$Task", "phaseOf", "(I)I"⟩
theorem mt_T_phaseOf : mt_ok yt_T_phaseOf yn_T_phaseOf 1 := ⟨⟨tn_2 144 rfl rfl, tn_1 9 rfl rfl⟩, by decide +kernel, by decide, by decide +kernel, rfl, rfl⟩
theorem im_T_phaseOf : Cond.instanceMethod yn_T_phaseOf ∈ TS := tn_2 142 rfl rfl
theorem se_T_phaseOf : Cond.selects "PollYard$Task" yn_T_phaseOf yn_T_phaseOf ∈ TS := tn_2 143 rfl rfl
abbrev yt_T_resultOf : Yt := (prog_6_method_5_code, 2, "PollYard$Task", "resultOf", (some (.int)))
abbrev yn_T_resultOf : MethodName := ⟨"PollYard$Task", "resultOf", "(I)I"⟩
theorem mt_T_resultOf : mt_ok yt_T_resultOf yn_T_resultOf 1 := ⟨⟨tn_2 149 rfl rfl, tn_1 9 rfl rfl⟩, by decide +kernel, by decide, by decide +kernel, rfl, rfl⟩
theorem im_T_resultOf : Cond.instanceMethod yn_T_resultOf ∈ TS := tn_2 147 rfl rfl
theorem se_T_resultOf : Cond.selects "PollYard$Task" yn_T_resultOf yn_T_resultOf ∈ TS := tn_2 148 rfl rfl
abbrev yt_T_makeBroken : Yt := (prog_6_method_7_code, 3, "PollYard$Task", "makeBroken", none)
abbrev yn_T_makeBroken : MethodName := ⟨"PollYard$Task", "makeBroken", "(II)V"⟩
theorem mt_T_makeBroken : mt_ok yt_T_makeBroken yn_T_makeBroken 2 := ⟨⟨tn_2 154 rfl rfl, tn_1 9 rfl rfl⟩, by decide +kernel, by decide, by decide +kernel, rfl, rfl⟩
theorem im_T_makeBroken : Cond.instanceMethod yn_T_makeBroken ∈ TS := tn_2 152 rfl rfl
theorem se_T_makeBroken : Cond.selects "PollYard$Task" yn_T_makeBroken yn_T_makeBroken ∈ TS := tn_2 153 rfl rfl
abbrev yt_Y_pollThen : Yt := (prog_1_method_39_code, 6, "PollYard", "pollThen", none)
abbrev yn_Y_pollThen : MethodName := ⟨"PollYard", "pollThen", "(LPollYard$Task;II)V"⟩
theorem mt_Y_pollThen : mt_ok yt_Y_pollThen yn_Y_pollThen 3 := ⟨⟨tn_2 158 rfl rfl, tn_1 1 rfl rfl⟩, by decide +kernel, by decide, by decide +kernel, rfl, rfl⟩
theorem im_Y_pollThen : Cond.instanceMethod yn_Y_pollThen ∈ TS := tn_2 157 rfl rfl
theorem se_Y_pollThen : Cond.selects "PollYard" yn_Y_pollThen yn_Y_pollThen ∈ TS := tn_p 18 rfl rfl
abbrev yt_Y_pollBoth : Yt := (prog_1_method_40_code, 8, "PollYard", "pollBoth", none)
abbrev yn_Y_pollBoth : MethodName := ⟨"PollYard", "pollBoth", "(LPollYard$Task;II)V"⟩
theorem mt_Y_pollBoth : mt_ok yt_Y_pollBoth yn_Y_pollBoth 3 := ⟨⟨tn_2 163 rfl rfl, tn_1 1 rfl rfl⟩, by decide +kernel, by decide, by decide +kernel, rfl, rfl⟩
theorem im_Y_pollBoth : Cond.instanceMethod yn_Y_pollBoth ∈ TS := tn_2 162 rfl rfl
theorem se_Y_pollBoth : Cond.selects "PollYard" yn_Y_pollBoth yn_Y_pollBoth ∈ TS := tn_p 19 rfl rfl
abbrev yt_Y_drop : Yt := (prog_1_method_49_code, 7, "PollYard", "drop", none)
abbrev yn_Y_drop : MethodName := ⟨"PollYard", "drop", "(LPollYard$Task;I)V"⟩
theorem mt_Y_drop : mt_ok yt_Y_drop yn_Y_drop 2 := ⟨⟨tn_2 167 rfl rfl, tn_1 1 rfl rfl⟩, by decide +kernel, by decide, by decide +kernel, rfl, rfl⟩
theorem im_Y_drop : Cond.instanceMethod yn_Y_drop ∈ TS := tn_2 166 rfl rfl
theorem se_Y_drop : Cond.selects "PollYard" yn_Y_drop yn_Y_drop ∈ TS := tn_p 20 rfl rfl
abbrev yt_R_remove : Yt := (prog_5_method_7_code, 2, "PollYard$Row", "remove", none)
abbrev yn_R_remove : MethodName := ⟨"PollYard$Row", "remove", "(I)V"⟩
theorem mt_R_remove : mt_ok yt_R_remove yn_R_remove 1 := ⟨⟨tn_2 172 rfl rfl, tn_1 4 rfl rfl⟩, by decide +kernel, by decide, by decide +kernel, rfl, rfl⟩
theorem im_R_remove : Cond.instanceMethod yn_R_remove ∈ TS := tn_2 170 rfl rfl
theorem se_R_remove : Cond.selects "PollYard$Row" yn_R_remove yn_R_remove ∈ TS := tn_2 171 rfl rfl
abbrev yt_R_indexOf : Yt := (prog_5_method_5_code, 3, "PollYard$Row", "indexOf", (some (.int)))
abbrev yn_R_indexOf : MethodName := ⟨"PollYard$Row", "indexOf", "(I)I"⟩
theorem mt_R_indexOf : mt_ok yt_R_indexOf yn_R_indexOf 1 := ⟨⟨tn_2 176 rfl rfl, tn_1 4 rfl rfl⟩, by decide +kernel, by decide, by decide +kernel, rfl, rfl⟩
theorem im_R_indexOf : Cond.instanceMethod yn_R_indexOf ∈ TS := tn_2 174 rfl rfl
theorem se_R_indexOf : Cond.selects "PollYard$Row" yn_R_indexOf yn_R_indexOf ∈ TS := tn_2 175 rfl rfl
abbrev yt_Y_pollFirst : Yt := (prog_1_method_41_code, 6, "PollYard", "pollFirst", none)
abbrev yn_Y_pollFirst : MethodName := ⟨"PollYard", "pollFirst", "(LPollYard$Task;II)V"⟩
theorem mt_Y_pollFirst : mt_ok yt_Y_pollFirst yn_Y_pollFirst 3 := ⟨⟨tn_2 180 rfl rfl, tn_1 1 rfl rfl⟩, by decide +kernel, by decide, by decide +kernel, rfl, rfl⟩
theorem im_Y_pollFirst : Cond.instanceMethod yn_Y_pollFirst ∈ TS := tn_2 179 rfl rfl
theorem se_Y_pollFirst : Cond.selects "PollYard" yn_Y_pollFirst yn_Y_pollFirst ∈ TS := tn_p 21 rfl rfl
abbrev yt_Y_pollWithin : Yt := (prog_1_method_42_code, 5, "PollYard", "pollWithin", none)
abbrev yn_Y_pollWithin : MethodName := ⟨"PollYard", "pollWithin", "(LPollYard$Task;II)V"⟩
theorem mt_Y_pollWithin : mt_ok yt_Y_pollWithin yn_Y_pollWithin 3 := ⟨⟨tn_2 184 rfl rfl, tn_1 1 rfl rfl⟩, by decide +kernel, by decide, by decide +kernel, rfl, rfl⟩
theorem im_Y_pollWithin : Cond.instanceMethod yn_Y_pollWithin ∈ TS := tn_2 183 rfl rfl
theorem se_Y_pollWithin : Cond.selects "PollYard" yn_Y_pollWithin yn_Y_pollWithin ∈ TS := tn_p 22 rfl rfl
abbrev yt_Y_pollAdd : Yt := (prog_1_method_43_code, 5, "PollYard", "pollAdd", none)
abbrev yn_Y_pollAdd : MethodName := ⟨"PollYard", "pollAdd", "(LPollYard$Task;II)V"⟩
theorem mt_Y_pollAdd : mt_ok yt_Y_pollAdd yn_Y_pollAdd 3 := ⟨⟨tn_2 188 rfl rfl, tn_1 1 rfl rfl⟩, by decide +kernel, by decide, by decide +kernel, rfl, rfl⟩
theorem im_Y_pollAdd : Cond.instanceMethod yn_Y_pollAdd ∈ TS := tn_2 187 rfl rfl
theorem se_Y_pollAdd : Cond.selects "PollYard" yn_Y_pollAdd yn_Y_pollAdd ∈ TS := tn_p 23 rfl rfl
abbrev yt_Y_pollCatch : Yt := (prog_1_method_44_code, 5, "PollYard", "pollCatch", none)
abbrev yn_Y_pollCatch : MethodName := ⟨"PollYard", "pollCatch", "(LPollYard$Task;II)V"⟩
theorem mt_Y_pollCatch : mt_ok yt_Y_pollCatch yn_Y_pollCatch 3 := ⟨⟨tn_2 192 rfl rfl, tn_1 1 rfl rfl⟩, by decide +kernel, by decide, by decide +kernel, rfl, rfl⟩
theorem im_Y_pollCatch : Cond.instanceMethod yn_Y_pollCatch ∈ TS := tn_2 191 rfl rfl
theorem se_Y_pollCatch : Cond.selects "PollYard" yn_Y_pollCatch yn_Y_pollCatch ∈ TS := tn_p 24 rfl rfl
abbrev yt_T_end : Yt := (prog_6_method_9_code, 1, "PollYard$Task", "end", none)
abbrev yn_T_end : MethodName := ⟨"PollYard$Task", "end", "()V"⟩
theorem mt_T_end : mt_ok yt_T_end yn_T_end 0 := ⟨⟨tn_2 196 rfl rfl, tn_1 9 rfl rfl⟩, by decide +kernel, by decide, by decide +kernel, rfl, rfl⟩
theorem im_T_end : Cond.instanceMethod yn_T_end ∈ TS := tn_2 194 rfl rfl
theorem se_T_end : Cond.selects "PollYard$Task" yn_T_end yn_T_end ∈ TS := tn_2 195 rfl rfl
abbrev yt_Y_wakeReapers : Yt := (prog_1_method_24_code, 4, "PollYard", "wakeReapers", none)
abbrev yn_Y_wakeReapers : MethodName := ⟨"PollYard", "wakeReapers", "(I)V"⟩
theorem mt_Y_wakeReapers : mt_ok yt_Y_wakeReapers yn_Y_wakeReapers 1 := ⟨⟨tn_2 200 rfl rfl, tn_1 1 rfl rfl⟩, by decide +kernel, by decide, by decide +kernel, rfl, rfl⟩
theorem im_Y_wakeReapers : Cond.instanceMethod yn_Y_wakeReapers ∈ TS := tn_2 199 rfl rfl
theorem se_Y_wakeReapers : Cond.selects "PollYard" yn_Y_wakeReapers yn_Y_wakeReapers ∈ TS := tn_p 25 rfl rfl
abbrev yt_T_reaps : Yt := (prog_6_method_10_code, 4, "PollYard$Task", "reaps", (some (.boolean)))
abbrev yn_T_reaps : MethodName := ⟨"PollYard$Task", "reaps", "(I)Z"⟩
theorem mt_T_reaps : mt_ok yt_T_reaps yn_T_reaps 1 := ⟨⟨tn_2 204 rfl rfl, tn_1 9 rfl rfl⟩, by decide +kernel, by decide, by decide +kernel, rfl, rfl⟩
theorem im_T_reaps : Cond.instanceMethod yn_T_reaps ∈ TS := tn_2 202 rfl rfl
theorem se_T_reaps : Cond.selects "PollYard$Task" yn_T_reaps yn_T_reaps ∈ TS := tn_2 203 rfl rfl
abbrev yt_Y_slotWoken : Yt := (prog_1_method_27_code, 3, "PollYard", "slotWoken", none)
abbrev yn_Y_slotWoken : MethodName := ⟨"PollYard", "slotWoken", "(LPollYard$Worker;)V"⟩
theorem mt_Y_slotWoken : mt_ok yt_Y_slotWoken yn_Y_slotWoken 1 := ⟨⟨tn_2 208 rfl rfl, tn_1 1 rfl rfl⟩, by decide +kernel, by decide, by decide +kernel, rfl, rfl⟩
theorem im_Y_slotWoken : Cond.instanceMethod yn_Y_slotWoken ∈ TS := tn_2 207 rfl rfl
theorem se_Y_slotWoken : Cond.selects "PollYard" yn_Y_slotWoken yn_Y_slotWoken ∈ TS := tn_p 26 rfl rfl
abbrev yt_Y_pushToRing : Yt := (prog_1_method_28_code, 3, "PollYard", "pushToRing", none)
abbrev yn_Y_pushToRing : MethodName := ⟨"PollYard", "pushToRing", "(LPollYard$Worker;I)V"⟩
theorem mt_Y_pushToRing : mt_ok yt_Y_pushToRing yn_Y_pushToRing 2 := ⟨⟨tn_2 212 rfl rfl, tn_1 1 rfl rfl⟩, by decide +kernel, by decide, by decide +kernel, rfl, rfl⟩
theorem im_Y_pushToRing : Cond.instanceMethod yn_Y_pushToRing ∈ TS := tn_2 211 rfl rfl
theorem se_Y_pushToRing : Cond.selects "PollYard" yn_Y_pushToRing yn_Y_pushToRing ∈ TS := tn_p 27 rfl rfl
abbrev yt_Y_run : Yt := (prog_1_method_7_code, 4, "PollYard", "run", (some (.int)))
abbrev yn_Y_run : MethodName := ⟨"PollYard", "run", "(I)I"⟩
theorem mt_Y_run : mt_ok yt_Y_run yn_Y_run 1 := ⟨⟨tn_2 216 rfl rfl, tn_1 1 rfl rfl⟩, by decide +kernel, by decide, by decide +kernel, rfl, rfl⟩
theorem im_Y_run : Cond.instanceMethod yn_Y_run ∈ TS := tn_2 214 rfl rfl
theorem se_Y_run : Cond.selects "PollYard" yn_Y_run yn_Y_run ∈ TS := tn_2 215 rfl rfl
abbrev yt_Y_tick : Yt := (prog_1_method_8_code, 3, "PollYard", "tick", (some (.int)))
abbrev yn_Y_tick : MethodName := ⟨"PollYard", "tick", "(I)I"⟩
theorem mt_Y_tick : mt_ok yt_Y_tick yn_Y_tick 1 := ⟨⟨tn_2 220 rfl rfl, tn_1 1 rfl rfl⟩, by decide +kernel, by decide, by decide +kernel, rfl, rfl⟩
theorem im_Y_tick : Cond.instanceMethod yn_Y_tick ∈ TS := tn_2 218 rfl rfl
theorem se_Y_tick : Cond.selects "PollYard" yn_Y_tick yn_Y_tick ∈ TS := tn_2 219 rfl rfl
abbrev yt_Y_wakeTheDue : Yt := (prog_1_method_25_code, 3, "PollYard", "wakeTheDue", none)
abbrev yn_Y_wakeTheDue : MethodName := ⟨"PollYard", "wakeTheDue", "()V"⟩
theorem mt_Y_wakeTheDue : mt_ok yt_Y_wakeTheDue yn_Y_wakeTheDue 0 := ⟨⟨tn_2 224 rfl rfl, tn_1 1 rfl rfl⟩, by decide +kernel, by decide, by decide +kernel, rfl, rfl⟩
theorem im_Y_wakeTheDue : Cond.instanceMethod yn_Y_wakeTheDue ∈ TS := tn_2 223 rfl rfl
theorem se_Y_wakeTheDue : Cond.selects "PollYard" yn_Y_wakeTheDue yn_Y_wakeTheDue ∈ TS := tn_p 28 rfl rfl
abbrev yt_T_isDueAt : Yt := (prog_6_method_11_code, 5, "PollYard$Task", "isDueAt", (some (.boolean)))
abbrev yn_T_isDueAt : MethodName := ⟨"PollYard$Task", "isDueAt", "(I)Z"⟩
theorem mt_T_isDueAt : mt_ok yt_T_isDueAt yn_T_isDueAt 1 := ⟨⟨tn_2 228 rfl rfl, tn_1 9 rfl rfl⟩, by decide +kernel, by decide, by decide +kernel, rfl, rfl⟩
theorem im_T_isDueAt : Cond.instanceMethod yn_T_isDueAt ∈ TS := tn_2 226 rfl rfl
theorem se_T_isDueAt : Cond.selects "PollYard$Task" yn_T_isDueAt yn_T_isDueAt ∈ TS := tn_2 227 rfl rfl
abbrev yt_Y_abort : Yt := (prog_1_method_9_code, 3, "PollYard", "abort", (some (.boolean)))
abbrev yn_Y_abort : MethodName := ⟨"PollYard", "abort", "(I)Z"⟩
theorem mt_Y_abort : mt_ok yt_Y_abort yn_Y_abort 1 := ⟨⟨tn_2 232 rfl rfl, tn_1 1 rfl rfl⟩, by decide +kernel, by decide, by decide +kernel, rfl, rfl⟩
theorem im_Y_abort : Cond.instanceMethod yn_Y_abort ∈ TS := tn_2 230 rfl rfl
theorem se_Y_abort : Cond.selects "PollYard" yn_Y_abort yn_Y_abort ∈ TS := tn_2 231 rfl rfl
abbrev yt_T_hasEnded : Yt := (prog_6_method_2_code, 1, "PollYard$Task", "hasEnded", (some (.boolean)))
abbrev yn_T_hasEnded : MethodName := ⟨"PollYard$Task", "hasEnded", "()Z"⟩
theorem mt_T_hasEnded : mt_ok yt_T_hasEnded yn_T_hasEnded 0 := ⟨⟨tn_2 236 rfl rfl, tn_1 9 rfl rfl⟩, by decide +kernel, by decide, by decide +kernel, rfl, rfl⟩
theorem im_T_hasEnded : Cond.instanceMethod yn_T_hasEnded ∈ TS := tn_2 234 rfl rfl
theorem se_T_hasEnded : Cond.selects "PollYard$Task" yn_T_hasEnded yn_T_hasEnded ∈ TS := tn_2 235 rfl rfl
abbrev yt_Y_unqueue : Yt := (prog_1_method_29_code, 6, "PollYard", "unqueue", none)
abbrev yn_Y_unqueue : MethodName := ⟨"PollYard", "unqueue", "(I)V"⟩
theorem mt_Y_unqueue : mt_ok yt_Y_unqueue yn_Y_unqueue 1 := ⟨⟨tn_3 0 rfl rfl, tn_1 1 rfl rfl⟩, by decide +kernel, by decide, by decide +kernel, rfl, rfl⟩
theorem im_Y_unqueue : Cond.instanceMethod yn_Y_unqueue ∈ TS := tn_2 239 rfl rfl
theorem se_Y_unqueue : Cond.selects "PollYard" yn_Y_unqueue yn_Y_unqueue ∈ TS := tn_p 29 rfl rfl
abbrev yt_Y_put : Yt := (prog_1_method_10_code, 3, "PollYard", "put", (some (.int)))
abbrev yn_Y_put : MethodName := ⟨"PollYard", "put", "(II)I"⟩
theorem mt_Y_put : mt_ok yt_Y_put yn_Y_put 2 := ⟨⟨tn_3 4 rfl rfl, tn_1 1 rfl rfl⟩, by decide +kernel, by decide, by decide +kernel, rfl, rfl⟩
theorem im_Y_put : Cond.instanceMethod yn_Y_put ∈ TS := tn_3 2 rfl rfl
theorem se_Y_put : Cond.selects "PollYard" yn_Y_put yn_Y_put ∈ TS := tn_3 3 rfl rfl
abbrev yt_Y_wake : Yt := (prog_1_method_11_code, 3, "PollYard", "wake", (some (.int)))
abbrev yn_Y_wake : MethodName := ⟨"PollYard", "wake", "(I)I"⟩
theorem mt_Y_wake : mt_ok yt_Y_wake yn_Y_wake 1 := ⟨⟨tn_3 8 rfl rfl, tn_1 1 rfl rfl⟩, by decide +kernel, by decide, by decide +kernel, rfl, rfl⟩
theorem im_Y_wake : Cond.instanceMethod yn_Y_wake ∈ TS := tn_3 6 rfl rfl
theorem se_Y_wake : Cond.selects "PollYard" yn_Y_wake yn_Y_wake ∈ TS := tn_3 7 rfl rfl
abbrev yt_Y_task : Yt := (prog_1_method_12_code, 4, "PollYard", "task", (some (.int)))
abbrev yn_Y_task : MethodName := ⟨"PollYard", "task", "(II)I"⟩
theorem mt_Y_task : mt_ok yt_Y_task yn_Y_task 2 := ⟨⟨tn_3 12 rfl rfl, tn_1 1 rfl rfl⟩, by decide +kernel, by decide, by decide +kernel, rfl, rfl⟩
theorem im_Y_task : Cond.instanceMethod yn_Y_task ∈ TS := tn_3 10 rfl rfl
theorem se_Y_task : Cond.selects "PollYard" yn_Y_task yn_Y_task ∈ TS := tn_3 11 rfl rfl
abbrev yt_Y_whereQueued : Yt := (prog_1_method_17_code, 6, "PollYard", "whereQueued", (some (.int)))
abbrev yn_Y_whereQueued : MethodName := ⟨"PollYard", "whereQueued", "(I)I"⟩
theorem mt_Y_whereQueued : mt_ok yt_Y_whereQueued yn_Y_whereQueued 1 := ⟨⟨tn_3 16 rfl rfl, tn_1 1 rfl rfl⟩, by decide +kernel, by decide, by decide +kernel, rfl, rfl⟩
theorem im_Y_whereQueued : Cond.instanceMethod yn_Y_whereQueued ∈ TS := tn_3 15 rfl rfl
theorem se_Y_whereQueued : Cond.selects "PollYard" yn_Y_whereQueued yn_Y_whereQueued ∈ TS := tn_p 30 rfl rfl
abbrev yt_R_holds : Yt := (prog_5_method_6_code, 2, "PollYard$Row", "holds", (some (.boolean)))
abbrev yn_R_holds : MethodName := ⟨"PollYard$Row", "holds", "(I)Z"⟩
theorem mt_R_holds : mt_ok yt_R_holds yn_R_holds 1 := ⟨⟨tn_3 20 rfl rfl, tn_1 4 rfl rfl⟩, by decide +kernel, by decide, by decide +kernel, rfl, rfl⟩
theorem im_R_holds : Cond.instanceMethod yn_R_holds ∈ TS := tn_3 18 rfl rfl
theorem se_R_holds : Cond.selects "PollYard$Row" yn_R_holds yn_R_holds ∈ TS := tn_3 19 rfl rfl
abbrev yt_Y_worker : Yt := (prog_1_method_13_code, 4, "PollYard", "worker", (some (.int)))
abbrev yn_Y_worker : MethodName := ⟨"PollYard", "worker", "(II)I"⟩
theorem mt_Y_worker : mt_ok yt_Y_worker yn_Y_worker 2 := ⟨⟨tn_3 24 rfl rfl, tn_1 1 rfl rfl⟩, by decide +kernel, by decide, by decide +kernel, rfl, rfl⟩
theorem im_Y_worker : Cond.instanceMethod yn_Y_worker ∈ TS := tn_3 22 rfl rfl
theorem se_Y_worker : Cond.selects "PollYard" yn_Y_worker yn_Y_worker ∈ TS := tn_3 23 rfl rfl
abbrev yt_Y_injected : Yt := (prog_1_method_14_code, 2, "PollYard", "injected", (some (.int)))
abbrev yn_Y_injected : MethodName := ⟨"PollYard", "injected", "(I)I"⟩
theorem mt_Y_injected : mt_ok yt_Y_injected yn_Y_injected 1 := ⟨⟨tn_3 28 rfl rfl, tn_1 1 rfl rfl⟩, by decide +kernel, by decide, by decide +kernel, rfl, rfl⟩
theorem im_Y_injected : Cond.instanceMethod yn_Y_injected ∈ TS := tn_3 26 rfl rfl
theorem se_Y_injected : Cond.selects "PollYard" yn_Y_injected yn_Y_injected ∈ TS := tn_3 27 rfl rfl
abbrev yt_Y_gate : Yt := (prog_1_method_15_code, 3, "PollYard", "gate", (some (.int)))
abbrev yn_Y_gate : MethodName := ⟨"PollYard", "gate", "(II)I"⟩
theorem mt_Y_gate : mt_ok yt_Y_gate yn_Y_gate 2 := ⟨⟨tn_3 32 rfl rfl, tn_1 1 rfl rfl⟩, by decide +kernel, by decide, by decide +kernel, rfl, rfl⟩
theorem im_Y_gate : Cond.instanceMethod yn_Y_gate ∈ TS := tn_3 30 rfl rfl
theorem se_Y_gate : Cond.selects "PollYard" yn_Y_gate yn_Y_gate ∈ TS := tn_3 31 rfl rfl
abbrev yt_Y_gotByFirst : Yt := (prog_1_method_18_code, 4, "PollYard", "gotByFirst", (some (.int)))
abbrev yn_Y_gotByFirst : MethodName := ⟨"PollYard", "gotByFirst", "(LPollYard$Gate;)I"⟩
theorem mt_Y_gotByFirst : mt_ok yt_Y_gotByFirst yn_Y_gotByFirst 1 := ⟨⟨tn_3 36 rfl rfl, tn_1 1 rfl rfl⟩, by decide +kernel, by decide, by decide +kernel, rfl, rfl⟩
theorem im_Y_gotByFirst : Cond.instanceMethod yn_Y_gotByFirst ∈ TS := tn_3 35 rfl rfl
theorem se_Y_gotByFirst : Cond.selects "PollYard" yn_Y_gotByFirst yn_Y_gotByFirst ∈ TS := tn_p 31 rfl rfl
abbrev yt_Y_count : Yt := (prog_1_method_16_code, 2, "PollYard", "count", (some (.int)))
abbrev yn_Y_count : MethodName := ⟨"PollYard", "count", "(I)I"⟩
theorem mt_Y_count : mt_ok yt_Y_count yn_Y_count 1 := ⟨⟨tn_3 40 rfl rfl, tn_1 1 rfl rfl⟩, by decide +kernel, by decide, by decide +kernel, rfl, rfl⟩
theorem im_Y_count : Cond.instanceMethod yn_Y_count ∈ TS := tn_3 38 rfl rfl
theorem se_Y_count : Cond.selects "PollYard" yn_Y_count yn_Y_count ∈ TS := tn_3 39 rfl rfl
abbrev yt_Y_tasksNotEnded : Yt := (prog_1_method_19_code, 4, "PollYard", "tasksNotEnded", (some (.int)))
abbrev yn_Y_tasksNotEnded : MethodName := ⟨"PollYard", "tasksNotEnded", "()I"⟩
theorem mt_Y_tasksNotEnded : mt_ok yt_Y_tasksNotEnded yn_Y_tasksNotEnded 0 := ⟨⟨tn_3 44 rfl rfl, tn_1 1 rfl rfl⟩, by decide +kernel, by decide, by decide +kernel, rfl, rfl⟩
theorem im_Y_tasksNotEnded : Cond.instanceMethod yn_Y_tasksNotEnded ∈ TS := tn_3 43 rfl rfl
theorem se_Y_tasksNotEnded : Cond.selects "PollYard" yn_Y_tasksNotEnded yn_Y_tasksNotEnded ∈ TS := tn_p 32 rfl rfl
abbrev yt_M_init : Yt := (prog_9_method_1_code, 1, "PollYardModel", "<init>", none)
abbrev yn_M_init : MethodName := ⟨"PollYardModel", "<init>", "()V"⟩
theorem mt_M_init : mt_ok yt_M_init yn_M_init 0 := ⟨⟨tn_3 49 rfl rfl, tn_1 8 rfl rfl⟩, by decide +kernel, by decide, by decide +kernel, rfl, rfl⟩
theorem im_M_init : Cond.instanceMethod yn_M_init ∈ TS := tn_3 48 rfl rfl
abbrev yt_M_token : Yt := (prog_9_method_5_code, 3, "PollYardModel", "token", (some (.int)))
abbrev yn_M_token : MethodName := ⟨"PollYardModel", "token", "(II)I"⟩
theorem mt_M_token : mt_ok yt_M_token yn_M_token 2 := ⟨⟨tn_3 164 rfl rfl, tn_1 8 rfl rfl⟩, by decide +kernel, by decide, by decide +kernel, rfl, rfl⟩
theorem im_M_token : Cond.instanceMethod yn_M_token ∈ TS := tn_3 162 rfl rfl
theorem se_M_token : Cond.selects "PollYardModel" yn_M_token yn_M_token ∈ TS := tn_3 163 rfl rfl
abbrev yt_M_fits : Yt := (prog_9_method_4_code, 2, "PollYardModel", "fits", (some (.boolean)))
abbrev yn_M_fits : MethodName := ⟨"PollYardModel", "fits", "(II)Z"⟩
theorem mt_M_fits : mt_ok yt_M_fits yn_M_fits 2 := ⟨⟨tn_3 167 rfl rfl, tn_1 8 rfl rfl⟩, by decide +kernel, by decide, by decide +kernel, rfl, rfl⟩
theorem sm_M_fits : Cond.static yn_M_fits ∈ TS := tn_3 166 rfl rfl
abbrev yt_M_is : Yt := (prog_9_method_2_code, 3, "PollYardModel", "is", (some (.boolean)))
abbrev yn_M_is : MethodName := ⟨"PollYardModel", "is", "(III)Z"⟩
theorem mt_M_is : mt_ok yt_M_is yn_M_is 3 := ⟨⟨tn_3 170 rfl rfl, tn_1 8 rfl rfl⟩, by decide +kernel, by decide, by decide +kernel, rfl, rfl⟩
theorem sm_M_is : Cond.static yn_M_is ∈ TS := tn_3 169 rfl rfl
abbrev yt_M_clear : Yt := (prog_9_method_6_code, 2, "PollYardModel", "clear", (some (.int)))
abbrev yn_M_clear : MethodName := ⟨"PollYardModel", "clear", "()I"⟩
theorem mt_M_clear : mt_ok yt_M_clear yn_M_clear 0 := ⟨⟨tn_3 174 rfl rfl, tn_1 8 rfl rfl⟩, by decide +kernel, by decide, by decide +kernel, rfl, rfl⟩
theorem im_M_clear : Cond.instanceMethod yn_M_clear ∈ TS := tn_3 172 rfl rfl
theorem se_M_clear : Cond.selects "PollYardModel" yn_M_clear yn_M_clear ∈ TS := tn_3 173 rfl rfl
abbrev yt_M_define : Yt := (prog_9_method_7_code, 3, "PollYardModel", "define", (some (.int)))
abbrev yn_M_define : MethodName := ⟨"PollYardModel", "define", "()I"⟩
theorem mt_M_define : mt_ok yt_M_define yn_M_define 0 := ⟨⟨tn_3 178 rfl rfl, tn_1 8 rfl rfl⟩, by decide +kernel, by decide, by decide +kernel, rfl, rfl⟩
theorem im_M_define : Cond.instanceMethod yn_M_define ∈ TS := tn_3 176 rfl rfl
theorem se_M_define : Cond.selects "PollYardModel" yn_M_define yn_M_define ∈ TS := tn_3 177 rfl rfl
abbrev yt_M_parts : Yt := (prog_9_method_3_code, 1, "PollYardModel", "parts", (some (.int)))
abbrev yn_M_parts : MethodName := ⟨"PollYardModel", "parts", "(I)I"⟩
theorem mt_M_parts : mt_ok yt_M_parts yn_M_parts 1 := ⟨⟨tn_3 181 rfl rfl, tn_1 8 rfl rfl⟩, by decide +kernel, by decide, by decide +kernel, rfl, rfl⟩
theorem sm_M_parts : Cond.static yn_M_parts ∈ TS := tn_3 180 rfl rfl
abbrev yt_M_turn : Yt := (prog_9_method_37_code, 3, "PollYardModel", "turn", (some (.int)))
abbrev yn_M_turn : MethodName := ⟨"PollYardModel", "turn", "(I)I"⟩
theorem mt_M_turn : mt_ok yt_M_turn yn_M_turn 1 := ⟨⟨tn_3 185 rfl rfl, tn_1 8 rfl rfl⟩, by decide +kernel, by decide, by decide +kernel, rfl, rfl⟩
theorem im_M_turn : Cond.instanceMethod yn_M_turn ∈ TS := tn_3 183 rfl rfl
theorem se_M_turn : Cond.selects "PollYardModel" yn_M_turn yn_M_turn ∈ TS := tn_3 184 rfl rfl
abbrev yt_M_choose : Yt := (prog_9_method_36_code, 10, "PollYardModel", "choose", (some (.int)))
abbrev yn_M_choose : MethodName := ⟨"PollYardModel", "choose", "(I)I"⟩
theorem mt_M_choose : mt_ok yt_M_choose yn_M_choose 1 := ⟨⟨tn_3 189 rfl rfl, tn_1 8 rfl rfl⟩, by decide +kernel, by decide, by decide +kernel, rfl, rfl⟩
theorem im_M_choose : Cond.instanceMethod yn_M_choose ∈ TS := tn_3 188 rfl rfl
theorem se_M_choose : Cond.selects "PollYardModel" yn_M_choose yn_M_choose ∈ TS := tn_p 33 rfl rfl
abbrev yt_M_shiftInjector : Yt := (prog_9_method_15_code, 3, "PollYardModel", "shiftInjector", (some (.int)))
abbrev yn_M_shiftInjector : MethodName := ⟨"PollYardModel", "shiftInjector", "()I"⟩
theorem mt_M_shiftInjector : mt_ok yt_M_shiftInjector yn_M_shiftInjector 0 := ⟨⟨tn_3 193 rfl rfl, tn_1 8 rfl rfl⟩, by decide +kernel, by decide, by decide +kernel, rfl, rfl⟩
theorem im_M_shiftInjector : Cond.instanceMethod yn_M_shiftInjector ∈ TS := tn_3 192 rfl rfl
theorem se_M_shiftInjector : Cond.selects "PollYardModel" yn_M_shiftInjector yn_M_shiftInjector ∈ TS := tn_p 34 rfl rfl
abbrev yt_M_shift : Yt := (prog_9_method_14_code, 4, "PollYardModel", "shift", (some (.int)))
abbrev yn_M_shift : MethodName := ⟨"PollYardModel", "shift", "(I)I"⟩
theorem mt_M_shift : mt_ok yt_M_shift yn_M_shift 1 := ⟨⟨tn_3 197 rfl rfl, tn_1 8 rfl rfl⟩, by decide +kernel, by decide, by decide +kernel, rfl, rfl⟩
theorem im_M_shift : Cond.instanceMethod yn_M_shift ∈ TS := tn_3 196 rfl rfl
theorem se_M_shift : Cond.selects "PollYardModel" yn_M_shift yn_M_shift ∈ TS := tn_p 35 rfl rfl
abbrev yt_M_toRing : Yt := (prog_9_method_13_code, 5, "PollYardModel", "toRing", none)
abbrev yn_M_toRing : MethodName := ⟨"PollYardModel", "toRing", "(II)V"⟩
theorem mt_M_toRing : mt_ok yt_M_toRing yn_M_toRing 2 := ⟨⟨tn_3 201 rfl rfl, tn_1 8 rfl rfl⟩, by decide +kernel, by decide, by decide +kernel, rfl, rfl⟩
theorem im_M_toRing : Cond.instanceMethod yn_M_toRing ∈ TS := tn_3 200 rfl rfl
theorem se_M_toRing : Cond.selects "PollYardModel" yn_M_toRing yn_M_toRing ∈ TS := tn_p 36 rfl rfl
abbrev yt_M_inject : Yt := (prog_9_method_12_code, 2, "PollYardModel", "inject", none)
abbrev yn_M_inject : MethodName := ⟨"PollYardModel", "inject", "(I)V"⟩
theorem mt_M_inject : mt_ok yt_M_inject yn_M_inject 1 := ⟨⟨tn_3 205 rfl rfl, tn_1 8 rfl rfl⟩, by decide +kernel, by decide, by decide +kernel, rfl, rfl⟩
theorem im_M_inject : Cond.instanceMethod yn_M_inject ∈ TS := tn_3 204 rfl rfl
theorem se_M_inject : Cond.selects "PollYardModel" yn_M_inject yn_M_inject ∈ TS := tn_p 37 rfl rfl
abbrev yt_M_work : Yt := (prog_9_method_35_code, 4, "PollYardModel", "work", none)
abbrev yn_M_work : MethodName := ⟨"PollYardModel", "work", "(II)V"⟩
theorem mt_M_work : mt_ok yt_M_work yn_M_work 2 := ⟨⟨tn_3 209 rfl rfl, tn_1 8 rfl rfl⟩, by decide +kernel, by decide, by decide +kernel, rfl, rfl⟩
theorem im_M_work : Cond.instanceMethod yn_M_work ∈ TS := tn_3 208 rfl rfl
theorem se_M_work : Cond.selects "PollYardModel" yn_M_work yn_M_work ∈ TS := tn_p 38 rfl rfl
abbrev yt_M_poll : Yt := (prog_9_method_27_code, 6, "PollYardModel", "poll", none)
abbrev yn_M_poll : MethodName := ⟨"PollYardModel", "poll", "(I)V"⟩
theorem mt_M_poll : mt_ok yt_M_poll yn_M_poll 1 := ⟨⟨tn_3 213 rfl rfl, tn_1 8 rfl rfl⟩, by decide +kernel, by decide, by decide +kernel, rfl, rfl⟩
theorem im_M_poll : Cond.instanceMethod yn_M_poll ∈ TS := tn_3 212 rfl rfl
theorem se_M_poll : Cond.selects "PollYardModel" yn_M_poll yn_M_poll ∈ TS := tn_p 39 rfl rfl
abbrev yt_M_opOf : Yt := (prog_9_method_8_code, 3, "PollYardModel", "opOf", (some (.int)))
abbrev yn_M_opOf : MethodName := ⟨"PollYardModel", "opOf", "(II)I"⟩
theorem mt_M_opOf : mt_ok yt_M_opOf yn_M_opOf 2 := ⟨⟨tn_3 217 rfl rfl, tn_1 8 rfl rfl⟩, by decide +kernel, by decide, by decide +kernel, rfl, rfl⟩
theorem im_M_opOf : Cond.instanceMethod yn_M_opOf ∈ TS := tn_3 216 rfl rfl
theorem se_M_opOf : Cond.selects "PollYardModel" yn_M_opOf yn_M_opOf ∈ TS := tn_p 40 rfl rfl
abbrev yt_M_leaf : Yt := (prog_9_method_30_code, 8, "PollYardModel", "leaf", none)
abbrev yn_M_leaf : MethodName := ⟨"PollYardModel", "leaf", "(III)V"⟩
theorem mt_M_leaf : mt_ok yt_M_leaf yn_M_leaf 3 := ⟨⟨tn_3 221 rfl rfl, tn_1 8 rfl rfl⟩, by decide +kernel, by decide, by decide +kernel, rfl, rfl⟩
theorem im_M_leaf : Cond.instanceMethod yn_M_leaf ∈ TS := tn_3 220 rfl rfl
theorem se_M_leaf : Cond.selects "PollYardModel" yn_M_leaf yn_M_leaf ∈ TS := tn_p 41 rfl rfl
abbrev yt_M_argOf : Yt := (prog_9_method_9_code, 3, "PollYardModel", "argOf", (some (.int)))
abbrev yn_M_argOf : MethodName := ⟨"PollYardModel", "argOf", "(II)I"⟩
theorem mt_M_argOf : mt_ok yt_M_argOf yn_M_argOf 2 := ⟨⟨tn_3 225 rfl rfl, tn_1 8 rfl rfl⟩, by decide +kernel, by decide, by decide +kernel, rfl, rfl⟩
theorem im_M_argOf : Cond.instanceMethod yn_M_argOf ∈ TS := tn_3 224 rfl rfl
theorem se_M_argOf : Cond.selects "PollYardModel" yn_M_argOf yn_M_argOf ∈ TS := tn_p 42 rfl rfl
abbrev yt_M_ready : Yt := (prog_9_method_23_code, 3, "PollYardModel", "ready", none)
abbrev yn_M_ready : MethodName := ⟨"PollYardModel", "ready", "(II)V"⟩
theorem mt_M_ready : mt_ok yt_M_ready yn_M_ready 2 := ⟨⟨tn_3 229 rfl rfl, tn_1 8 rfl rfl⟩, by decide +kernel, by decide, by decide +kernel, rfl, rfl⟩
theorem im_M_ready : Cond.instanceMethod yn_M_ready ∈ TS := tn_3 228 rfl rfl
theorem se_M_ready : Cond.selects "PollYardModel" yn_M_ready yn_M_ready ∈ TS := tn_p 43 rfl rfl
abbrev yt_M_wakeUp : Yt := (prog_9_method_16_code, 3, "PollYardModel", "wakeUp", none)
abbrev yn_M_wakeUp : MethodName := ⟨"PollYardModel", "wakeUp", "(I)V"⟩
theorem mt_M_wakeUp : mt_ok yt_M_wakeUp yn_M_wakeUp 1 := ⟨⟨tn_3 233 rfl rfl, tn_1 8 rfl rfl⟩, by decide +kernel, by decide, by decide +kernel, rfl, rfl⟩
theorem im_M_wakeUp : Cond.instanceMethod yn_M_wakeUp ∈ TS := tn_3 232 rfl rfl
theorem se_M_wakeUp : Cond.selects "PollYardModel" yn_M_wakeUp yn_M_wakeUp ∈ TS := tn_p 44 rfl rfl
abbrev yt_M_pending : Yt := (prog_9_method_25_code, 2, "PollYardModel", "pending", none)
abbrev yn_M_pending : MethodName := ⟨"PollYardModel", "pending", "(I)V"⟩
theorem mt_M_pending : mt_ok yt_M_pending yn_M_pending 1 := ⟨⟨tn_3 237 rfl rfl, tn_1 8 rfl rfl⟩, by decide +kernel, by decide, by decide +kernel, rfl, rfl⟩
theorem im_M_pending : Cond.instanceMethod yn_M_pending ∈ TS := tn_3 236 rfl rfl
theorem se_M_pending : Cond.selects "PollYardModel" yn_M_pending yn_M_pending ∈ TS := tn_p 45 rfl rfl
abbrev yt_M_take : Yt := (prog_9_method_31_code, 8, "PollYardModel", "take", none)
abbrev yn_M_take : MethodName := ⟨"PollYardModel", "take", "(III)V"⟩
theorem mt_M_take : mt_ok yt_M_take yn_M_take 3 := ⟨⟨tn_4 1 rfl rfl, tn_1 8 rfl rfl⟩, by decide +kernel, by decide, by decide +kernel, rfl, rfl⟩
theorem im_M_take : Cond.instanceMethod yn_M_take ∈ TS := tn_4 0 rfl rfl
theorem se_M_take : Cond.selects "PollYardModel" yn_M_take yn_M_take ∈ TS := tn_p 46 rfl rfl
abbrev yt_M_wants : Yt := (prog_9_method_19_code, 1, "PollYardModel", "wants", (some (.int)))
abbrev yn_M_wants : MethodName := ⟨"PollYardModel", "wants", "(I)I"⟩
theorem mt_M_wants : mt_ok yt_M_wants yn_M_wants 1 := ⟨⟨tn_4 4 rfl rfl, tn_1 8 rfl rfl⟩, by decide +kernel, by decide, by decide +kernel, rfl, rfl⟩
theorem sm_M_wants : Cond.static yn_M_wants ∈ TS := tn_4 3 rfl rfl
abbrev yt_M_firstAt : Yt := (prog_9_method_17_code, 7, "PollYardModel", "firstAt", (some (.int)))
abbrev yn_M_firstAt : MethodName := ⟨"PollYardModel", "firstAt", "(II)I"⟩
theorem mt_M_firstAt : mt_ok yt_M_firstAt yn_M_firstAt 2 := ⟨⟨tn_4 8 rfl rfl, tn_1 8 rfl rfl⟩, by decide +kernel, by decide, by decide +kernel, rfl, rfl⟩
theorem im_M_firstAt : Cond.instanceMethod yn_M_firstAt ∈ TS := tn_4 7 rfl rfl
theorem se_M_firstAt : Cond.selects "PollYardModel" yn_M_firstAt yn_M_firstAt ∈ TS := tn_p 47 rfl rfl
abbrev yt_M_spends : Yt := (prog_9_method_26_code, 2, "PollYardModel", "spends", (some (.boolean)))
abbrev yn_M_spends : MethodName := ⟨"PollYardModel", "spends", "(I)Z"⟩
theorem mt_M_spends : mt_ok yt_M_spends yn_M_spends 1 := ⟨⟨tn_4 12 rfl rfl, tn_1 8 rfl rfl⟩, by decide +kernel, by decide, by decide +kernel, rfl, rfl⟩
theorem im_M_spends : Cond.instanceMethod yn_M_spends ∈ TS := tn_4 11 rfl rfl
theorem se_M_spends : Cond.selects "PollYardModel" yn_M_spends yn_M_spends ∈ TS := tn_p 48 rfl rfl
abbrev yt_M_add : Yt := (prog_9_method_20_code, 7, "PollYardModel", "add", none)
abbrev yn_M_add : MethodName := ⟨"PollYardModel", "add", "(II)V"⟩
theorem mt_M_add : mt_ok yt_M_add yn_M_add 2 := ⟨⟨tn_4 16 rfl rfl, tn_1 8 rfl rfl⟩, by decide +kernel, by decide, by decide +kernel, rfl, rfl⟩
theorem im_M_add : Cond.instanceMethod yn_M_add ∈ TS := tn_4 15 rfl rfl
theorem se_M_add : Cond.selects "PollYardModel" yn_M_add yn_M_add ∈ TS := tn_p 49 rfl rfl
abbrev yt_M_await : Yt := (prog_9_method_32_code, 6, "PollYardModel", "await", none)
abbrev yn_M_await : MethodName := ⟨"PollYardModel", "await", "(III)V"⟩
theorem mt_M_await : mt_ok yt_M_await yn_M_await 3 := ⟨⟨tn_4 20 rfl rfl, tn_1 8 rfl rfl⟩, by decide +kernel, by decide, by decide +kernel, rfl, rfl⟩
theorem im_M_await : Cond.instanceMethod yn_M_await ∈ TS := tn_4 19 rfl rfl
theorem se_M_await : Cond.selects "PollYardModel" yn_M_await yn_M_await ∈ TS := tn_p 50 rfl rfl
abbrev yt_M_give : Yt := (prog_9_method_21_code, 3, "PollYardModel", "give", (some (.boolean)))
abbrev yn_M_give : MethodName := ⟨"PollYardModel", "give", "(I)Z"⟩
theorem mt_M_give : mt_ok yt_M_give yn_M_give 1 := ⟨⟨tn_4 24 rfl rfl, tn_1 8 rfl rfl⟩, by decide +kernel, by decide, by decide +kernel, rfl, rfl⟩
theorem im_M_give : Cond.instanceMethod yn_M_give ∈ TS := tn_4 23 rfl rfl
theorem se_M_give : Cond.selects "PollYardModel" yn_M_give yn_M_give ∈ TS := tn_p 51 rfl rfl
abbrev yt_M_make : Yt := (prog_9_method_11_code, 4, "PollYardModel", "make", (some (.int)))
abbrev yn_M_make : MethodName := ⟨"PollYardModel", "make", "(I)I"⟩
theorem mt_M_make : mt_ok yt_M_make yn_M_make 1 := ⟨⟨tn_4 28 rfl rfl, tn_1 8 rfl rfl⟩, by decide +kernel, by decide, by decide +kernel, rfl, rfl⟩
theorem im_M_make : Cond.instanceMethod yn_M_make ∈ TS := tn_4 27 rfl rfl
theorem se_M_make : Cond.selects "PollYardModel" yn_M_make yn_M_make ∈ TS := tn_p 52 rfl rfl
abbrev yt_M_broken : Yt := (prog_9_method_24_code, 3, "PollYardModel", "broken", none)
abbrev yn_M_broken : MethodName := ⟨"PollYardModel", "broken", "(II)V"⟩
theorem mt_M_broken : mt_ok yt_M_broken yn_M_broken 2 := ⟨⟨tn_4 32 rfl rfl, tn_1 8 rfl rfl⟩, by decide +kernel, by decide, by decide +kernel, rfl, rfl⟩
theorem im_M_broken : Cond.instanceMethod yn_M_broken ∈ TS := tn_4 31 rfl rfl
theorem se_M_broken : Cond.selects "PollYardModel" yn_M_broken yn_M_broken ∈ TS := tn_p 53 rfl rfl
abbrev yt_M_step : Yt := (prog_9_method_28_code, 13, "PollYardModel", "step", (some (.int)))
abbrev yn_M_step : MethodName := ⟨"PollYardModel", "step", "(IIII)I"⟩
theorem mt_M_step : mt_ok yt_M_step yn_M_step 4 := ⟨⟨tn_4 36 rfl rfl, tn_1 8 rfl rfl⟩, by decide +kernel, by decide, by decide +kernel, rfl, rfl⟩
theorem im_M_step : Cond.instanceMethod yn_M_step ∈ TS := tn_4 35 rfl rfl
theorem se_M_step : Cond.selects "PollYardModel" yn_M_step yn_M_step ∈ TS := tn_p 54 rfl rfl
abbrev yt_M_end : Yt := (prog_9_method_10_code, 5, "PollYardModel", "end", (some (.int)))
abbrev yn_M_end : MethodName := ⟨"PollYardModel", "end", "(II)I"⟩
theorem mt_M_end : mt_ok yt_M_end yn_M_end 2 := ⟨⟨tn_4 40 rfl rfl, tn_1 8 rfl rfl⟩, by decide +kernel, by decide, by decide +kernel, rfl, rfl⟩
theorem im_M_end : Cond.instanceMethod yn_M_end ∈ TS := tn_4 39 rfl rfl
theorem se_M_end : Cond.selects "PollYardModel" yn_M_end yn_M_end ∈ TS := tn_p 55 rfl rfl
abbrev yt_M_drop : Yt := (prog_9_method_22_code, 11, "PollYardModel", "drop", none)
abbrev yn_M_drop : MethodName := ⟨"PollYardModel", "drop", "(II)V"⟩
theorem mt_M_drop : mt_ok yt_M_drop yn_M_drop 2 := ⟨⟨tn_4 44 rfl rfl, tn_1 8 rfl rfl⟩, by decide +kernel, by decide, by decide +kernel, rfl, rfl⟩
theorem im_M_drop : Cond.instanceMethod yn_M_drop ∈ TS := tn_4 43 rfl rfl
theorem se_M_drop : Cond.selects "PollYardModel" yn_M_drop yn_M_drop ∈ TS := tn_p 56 rfl rfl
abbrev yt_M_reap : Yt := (prog_9_method_29_code, 4, "PollYardModel", "reap", none)
abbrev yn_M_reap : MethodName := ⟨"PollYardModel", "reap", "(III)V"⟩
theorem mt_M_reap : mt_ok yt_M_reap yn_M_reap 3 := ⟨⟨tn_4 48 rfl rfl, tn_1 8 rfl rfl⟩, by decide +kernel, by decide, by decide +kernel, rfl, rfl⟩
theorem im_M_reap : Cond.instanceMethod yn_M_reap ∈ TS := tn_4 47 rfl rfl
theorem se_M_reap : Cond.selects "PollYardModel" yn_M_reap yn_M_reap ∈ TS := tn_p 57 rfl rfl
abbrev yt_M_ends : Yt := (prog_9_method_33_code, 4, "PollYardModel", "ends", none)
abbrev yn_M_ends : MethodName := ⟨"PollYardModel", "ends", "(III)V"⟩
theorem mt_M_ends : mt_ok yt_M_ends yn_M_ends 3 := ⟨⟨tn_4 52 rfl rfl, tn_1 8 rfl rfl⟩, by decide +kernel, by decide, by decide +kernel, rfl, rfl⟩
theorem im_M_ends : Cond.instanceMethod yn_M_ends ∈ TS := tn_4 51 rfl rfl
theorem se_M_ends : Cond.selects "PollYardModel" yn_M_ends yn_M_ends ∈ TS := tn_p 58 rfl rfl
abbrev yt_M_tellReapers : Yt := (prog_9_method_34_code, 6, "PollYardModel", "tellReapers", none)
abbrev yn_M_tellReapers : MethodName := ⟨"PollYardModel", "tellReapers", "(I)V"⟩
theorem mt_M_tellReapers : mt_ok yt_M_tellReapers yn_M_tellReapers 1 := ⟨⟨tn_4 56 rfl rfl, tn_1 8 rfl rfl⟩, by decide +kernel, by decide, by decide +kernel, rfl, rfl⟩
theorem im_M_tellReapers : Cond.instanceMethod yn_M_tellReapers ∈ TS := tn_4 55 rfl rfl
theorem se_M_tellReapers : Cond.selects "PollYardModel" yn_M_tellReapers yn_M_tellReapers ∈ TS := tn_p 59 rfl rfl
abbrev yt_M_run : Yt := (prog_9_method_38_code, 5, "PollYardModel", "run", (some (.int)))
abbrev yn_M_run : MethodName := ⟨"PollYardModel", "run", "(I)I"⟩
theorem mt_M_run : mt_ok yt_M_run yn_M_run 1 := ⟨⟨tn_4 60 rfl rfl, tn_1 8 rfl rfl⟩, by decide +kernel, by decide, by decide +kernel, rfl, rfl⟩
theorem im_M_run : Cond.instanceMethod yn_M_run ∈ TS := tn_4 58 rfl rfl
theorem se_M_run : Cond.selects "PollYardModel" yn_M_run yn_M_run ∈ TS := tn_4 59 rfl rfl
abbrev yt_M_spawn : Yt := (prog_9_method_39_code, 2, "PollYardModel", "spawn", (some (.int)))
abbrev yn_M_spawn : MethodName := ⟨"PollYardModel", "spawn", "(I)I"⟩
theorem mt_M_spawn : mt_ok yt_M_spawn yn_M_spawn 1 := ⟨⟨tn_4 65 rfl rfl, tn_1 8 rfl rfl⟩, by decide +kernel, by decide, by decide +kernel, rfl, rfl⟩
theorem im_M_spawn : Cond.instanceMethod yn_M_spawn ∈ TS := tn_4 63 rfl rfl
theorem se_M_spawn : Cond.selects "PollYardModel" yn_M_spawn yn_M_spawn ∈ TS := tn_4 64 rfl rfl
abbrev yt_M_tick : Yt := (prog_9_method_40_code, 6, "PollYardModel", "tick", (some (.int)))
abbrev yn_M_tick : MethodName := ⟨"PollYardModel", "tick", "(I)I"⟩
theorem mt_M_tick : mt_ok yt_M_tick yn_M_tick 1 := ⟨⟨tn_4 69 rfl rfl, tn_1 8 rfl rfl⟩, by decide +kernel, by decide, by decide +kernel, rfl, rfl⟩
theorem im_M_tick : Cond.instanceMethod yn_M_tick ∈ TS := tn_4 67 rfl rfl
theorem se_M_tick : Cond.selects "PollYardModel" yn_M_tick yn_M_tick ∈ TS := tn_4 68 rfl rfl
abbrev yt_M_abort : Yt := (prog_9_method_42_code, 2, "PollYardModel", "abort", (some (.boolean)))
abbrev yn_M_abort : MethodName := ⟨"PollYardModel", "abort", "(I)Z"⟩
theorem mt_M_abort : mt_ok yt_M_abort yn_M_abort 1 := ⟨⟨tn_4 73 rfl rfl, tn_1 8 rfl rfl⟩, by decide +kernel, by decide, by decide +kernel, rfl, rfl⟩
theorem im_M_abort : Cond.instanceMethod yn_M_abort ∈ TS := tn_4 71 rfl rfl
theorem se_M_abort : Cond.selects "PollYardModel" yn_M_abort yn_M_abort ∈ TS := tn_4 72 rfl rfl
abbrev yt_M_unqueue : Yt := (prog_9_method_41_code, 5, "PollYardModel", "unqueue", none)
abbrev yn_M_unqueue : MethodName := ⟨"PollYardModel", "unqueue", "(I)V"⟩
theorem mt_M_unqueue : mt_ok yt_M_unqueue yn_M_unqueue 1 := ⟨⟨tn_4 77 rfl rfl, tn_1 8 rfl rfl⟩, by decide +kernel, by decide, by decide +kernel, rfl, rfl⟩
theorem im_M_unqueue : Cond.instanceMethod yn_M_unqueue ∈ TS := tn_4 76 rfl rfl
theorem se_M_unqueue : Cond.selects "PollYardModel" yn_M_unqueue yn_M_unqueue ∈ TS := tn_p 60 rfl rfl
abbrev yt_M_put : Yt := (prog_9_method_43_code, 3, "PollYardModel", "put", (some (.int)))
abbrev yn_M_put : MethodName := ⟨"PollYardModel", "put", "(II)I"⟩
theorem mt_M_put : mt_ok yt_M_put yn_M_put 2 := ⟨⟨tn_4 81 rfl rfl, tn_1 8 rfl rfl⟩, by decide +kernel, by decide, by decide +kernel, rfl, rfl⟩
theorem im_M_put : Cond.instanceMethod yn_M_put ∈ TS := tn_4 79 rfl rfl
theorem se_M_put : Cond.selects "PollYardModel" yn_M_put yn_M_put ∈ TS := tn_4 80 rfl rfl
abbrev yt_M_wake : Yt := (prog_9_method_44_code, 3, "PollYardModel", "wake", (some (.int)))
abbrev yn_M_wake : MethodName := ⟨"PollYardModel", "wake", "(I)I"⟩
theorem mt_M_wake : mt_ok yt_M_wake yn_M_wake 1 := ⟨⟨tn_4 85 rfl rfl, tn_1 8 rfl rfl⟩, by decide +kernel, by decide, by decide +kernel, rfl, rfl⟩
theorem im_M_wake : Cond.instanceMethod yn_M_wake ∈ TS := tn_4 83 rfl rfl
theorem se_M_wake : Cond.selects "PollYardModel" yn_M_wake yn_M_wake ∈ TS := tn_4 84 rfl rfl
abbrev yt_M_task : Yt := (prog_9_method_45_code, 3, "PollYardModel", "task", (some (.int)))
abbrev yn_M_task : MethodName := ⟨"PollYardModel", "task", "(II)I"⟩
theorem mt_M_task : mt_ok yt_M_task yn_M_task 2 := ⟨⟨tn_4 89 rfl rfl, tn_1 8 rfl rfl⟩, by decide +kernel, by decide, by decide +kernel, rfl, rfl⟩
theorem im_M_task : Cond.instanceMethod yn_M_task ∈ TS := tn_4 87 rfl rfl
theorem se_M_task : Cond.selects "PollYardModel" yn_M_task yn_M_task ∈ TS := tn_4 88 rfl rfl
abbrev yt_M_worker : Yt := (prog_9_method_46_code, 3, "PollYardModel", "worker", (some (.int)))
abbrev yn_M_worker : MethodName := ⟨"PollYardModel", "worker", "(II)I"⟩
theorem mt_M_worker : mt_ok yt_M_worker yn_M_worker 2 := ⟨⟨tn_4 93 rfl rfl, tn_1 8 rfl rfl⟩, by decide +kernel, by decide, by decide +kernel, rfl, rfl⟩
theorem im_M_worker : Cond.instanceMethod yn_M_worker ∈ TS := tn_4 91 rfl rfl
theorem se_M_worker : Cond.selects "PollYardModel" yn_M_worker yn_M_worker ∈ TS := tn_4 92 rfl rfl
abbrev yt_M_injected : Yt := (prog_9_method_47_code, 2, "PollYardModel", "injected", (some (.int)))
abbrev yn_M_injected : MethodName := ⟨"PollYardModel", "injected", "(I)I"⟩
theorem mt_M_injected : mt_ok yt_M_injected yn_M_injected 1 := ⟨⟨tn_4 97 rfl rfl, tn_1 8 rfl rfl⟩, by decide +kernel, by decide, by decide +kernel, rfl, rfl⟩
theorem im_M_injected : Cond.instanceMethod yn_M_injected ∈ TS := tn_4 95 rfl rfl
theorem se_M_injected : Cond.selects "PollYardModel" yn_M_injected yn_M_injected ∈ TS := tn_4 96 rfl rfl
abbrev yt_M_gate : Yt := (prog_9_method_48_code, 4, "PollYardModel", "gate", (some (.int)))
abbrev yn_M_gate : MethodName := ⟨"PollYardModel", "gate", "(II)I"⟩
theorem mt_M_gate : mt_ok yt_M_gate yn_M_gate 2 := ⟨⟨tn_4 101 rfl rfl, tn_1 8 rfl rfl⟩, by decide +kernel, by decide, by decide +kernel, rfl, rfl⟩
theorem im_M_gate : Cond.instanceMethod yn_M_gate ∈ TS := tn_4 99 rfl rfl
theorem se_M_gate : Cond.selects "PollYardModel" yn_M_gate yn_M_gate ∈ TS := tn_4 100 rfl rfl
abbrev yt_M_waiting : Yt := (prog_9_method_18_code, 5, "PollYardModel", "waiting", (some (.int)))
abbrev yn_M_waiting : MethodName := ⟨"PollYardModel", "waiting", "(II)I"⟩
theorem mt_M_waiting : mt_ok yt_M_waiting yn_M_waiting 2 := ⟨⟨tn_4 105 rfl rfl, tn_1 8 rfl rfl⟩, by decide +kernel, by decide, by decide +kernel, rfl, rfl⟩
theorem im_M_waiting : Cond.instanceMethod yn_M_waiting ∈ TS := tn_4 104 rfl rfl
theorem se_M_waiting : Cond.selects "PollYardModel" yn_M_waiting yn_M_waiting ∈ TS := tn_p 61 rfl rfl
abbrev yt_M_count : Yt := (prog_9_method_49_code, 4, "PollYardModel", "count", (some (.int)))
abbrev yn_M_count : MethodName := ⟨"PollYardModel", "count", "(I)I"⟩
theorem mt_M_count : mt_ok yt_M_count yn_M_count 1 := ⟨⟨tn_4 109 rfl rfl, tn_1 8 rfl rfl⟩, by decide +kernel, by decide, by decide +kernel, rfl, rfl⟩
theorem im_M_count : Cond.instanceMethod yn_M_count ∈ TS := tn_4 107 rfl rfl
theorem se_M_count : Cond.selects "PollYardModel" yn_M_count yn_M_count ∈ TS := tn_4 108 rfl rfl
theorem ml_L_9 : Cond.methodLink "PollYardLaw" 9 yn_Y_init ∈ TS := tn_1 12 rfl rfl
theorem ml_Y_1 : Cond.methodLink "PollYard" 1 Lib.objectInit ∈ TS := tn_1 15 rfl rfl
theorem ml_P_3 : Cond.methodLink "PollYard$Program" 3 Lib.objectInit ∈ TS := tn_1 23 rfl rfl
theorem ml_Y_35 : Cond.methodLink "PollYard" 35 yn_K_init ∈ TS := tn_1 50 rfl rfl
theorem ml_K_3 : Cond.methodLink "PollYard$Worker" 3 Lib.objectInit ∈ TS := tn_1 53 rfl rfl
theorem ml_K_11 : Cond.methodLink "PollYard$Worker" 11 yn_R_init ∈ TS := tn_1 56 rfl rfl
theorem ml_R_3 : Cond.methodLink "PollYard$Row" 3 Lib.objectInit ∈ TS := tn_1 59 rfl rfl
theorem ml_R_15 : Cond.methodLink "PollYard$Row" 15 Lib.Math.max.name ∈ TS := tn_1 60 rfl rfl
theorem ml_Y_44 : Cond.methodLink "PollYard" 44 yn_R_init ∈ TS := tn_1 93 rfl rfl
theorem ml_G_3 : Cond.methodLink "PollYard$Gate" 3 Lib.objectInit ∈ TS := tn_1 100 rfl rfl
theorem ml_G_11 : Cond.methodLink "PollYard$Gate" 11 yn_R_init ∈ TS := tn_1 102 rfl rfl
theorem ml_N_3 : Cond.methodLink "PollYard$Notice" 3 Lib.objectInit ∈ TS := tn_1 118 rfl rfl
theorem ml_N_11 : Cond.methodLink "PollYard$Notice" 11 yn_R_init ∈ TS := tn_1 120 rfl rfl
theorem ml_L_13 : Cond.methodLink "PollYardLaw" 13 yn_Y_token ∈ TS := tn_1 173 rfl rfl
theorem ml_Y_85 : Cond.methodLink "PollYard" 85 yn_P_append ∈ TS := tn_1 181 rfl rfl
theorem ml_L_18 : Cond.methodLink "PollYardLaw" 18 yn_Y_define ∈ TS := tn_1 185 rfl rfl
theorem ml_Y_92 : Cond.methodLink "PollYard" 92 yn_P_isOneFuture ∈ TS := tn_1 189 rfl rfl
theorem ml_Y_96 : Cond.methodLink "PollYard" 96 yn_P_findEnds ∈ TS := tn_1 195 rfl rfl
theorem ml_P_32 : Cond.methodLink "PollYard$Program" 32 yn_P_endOf ∈ TS := tn_1 199 rfl rfl
theorem ml_P_25 : Cond.methodLink "PollYard$Program" 25 yn_P_has ∈ TS := tn_1 203 rfl rfl
theorem ml_L_23 : Cond.methodLink "PollYardLaw" 23 yn_Y_clear ∈ TS := tn_1 207 rfl rfl
theorem ml_L_27 : Cond.methodLink "PollYardLaw" 27 yn_Y_spawn ∈ TS := tn_1 211 rfl rfl
theorem ml_Y_99 : Cond.methodLink "PollYard" 99 yn_Y_makeTask ∈ TS := tn_1 215 rfl rfl
theorem ml_Y_207 : Cond.methodLink "PollYard" 207 yn_T_init ∈ TS := tn_1 220 rfl rfl
theorem ml_T_3 : Cond.methodLink "PollYard$Task" 3 Lib.objectInit ∈ TS := tn_1 223 rfl rfl
theorem ml_Y_210 : Cond.methodLink "PollYard" 210 yn_R_add ∈ TS := tn_2 28 rfl rfl
theorem ml_Y_103 : Cond.methodLink "PollYard" 103 yn_Y_injectWoken ∈ TS := tn_2 32 rfl rfl
theorem ml_Y_169 : Cond.methodLink "PollYard" 169 yn_R_at ∈ TS := tn_2 36 rfl rfl
theorem ml_L_32 : Cond.methodLink "PollYardLaw" 32 yn_Y_turn ∈ TS := tn_2 40 rfl rfl
theorem ml_Y_106 : Cond.methodLink "PollYard" 106 yn_Y_takeTurn ∈ TS := tn_2 44 rfl rfl
theorem ml_Y_237 : Cond.methodLink "PollYard" 237 yn_Y_nextTask ∈ TS := tn_2 48 rfl rfl
theorem ml_Y_198 : Cond.methodLink "PollYard" 198 yn_R_isEmpty ∈ TS := tn_2 52 rfl rfl
theorem ml_Y_251 : Cond.methodLink "PollYard" 251 yn_K_emptySlot ∈ TS := tn_2 56 rfl rfl
theorem ml_Y_231 : Cond.methodLink "PollYard" 231 yn_R_takeFirst ∈ TS := tn_2 60 rfl rfl
theorem ml_R_33 : Cond.methodLink "PollYard$Row" 33 yn_R_at ∈ TS := tn_2 64 rfl rfl
theorem ml_R_29 : Cond.methodLink "PollYard$Row" 29 yn_R_removeAt ∈ TS := tn_2 65 rfl rfl
theorem ml_Y_254 : Cond.methodLink "PollYard" 254 yn_Y_steal ∈ TS := tn_2 69 rfl rfl
theorem ml_Y_113 : Cond.methodLink "PollYard" 113 yn_Y_taskAt ∈ TS := tn_2 73 rfl rfl
theorem ml_Y_240 : Cond.methodLink "PollYard" 240 yn_Y_poll ∈ TS := tn_2 77 rfl rfl
theorem ml_Y_260 : Cond.methodLink "PollYard" 260 yn_P_has ∈ TS := tn_2 81 rfl rfl
theorem ml_Y_272 : Cond.methodLink "PollYard" 272 yn_T_makeReady ∈ TS := tn_2 82 rfl rfl
theorem ml_Y_276 : Cond.methodLink "PollYard" 276 yn_Y_pollTurn ∈ TS := tn_2 86 rfl rfl
theorem ml_Y_316 : Cond.methodLink "PollYard" 316 Lib.Math.max.name ∈ TS := tn_2 90 rfl rfl
theorem ml_Y_220 : Cond.methodLink "PollYard" 220 yn_Y_wakeTask ∈ TS := tn_2 91 rfl rfl
theorem ml_Y_280 : Cond.methodLink "PollYard" 280 yn_Y_pollSleep ∈ TS := tn_2 95 rfl rfl
theorem ml_Y_283 : Cond.methodLink "PollYard" 283 yn_Y_pollTake ∈ TS := tn_2 99 rfl rfl
theorem ml_Y_286 : Cond.methodLink "PollYard" 286 yn_Y_permitsOf ∈ TS := tn_2 103 rfl rfl
theorem ml_Y_322 : Cond.methodLink "PollYard" 322 yn_Y_spendUnit ∈ TS := tn_2 106 rfl rfl
theorem ml_Y_326 : Cond.methodLink "PollYard" 326 yn_T_placeOf ∈ TS := tn_2 110 rfl rfl
theorem ml_Y_133 : Cond.methodLink "PollYard" 133 yn_Y_addPermits ∈ TS := tn_2 114 rfl rfl
theorem ml_Y_201 : Cond.methodLink "PollYard" 201 yn_Y_ownerOf ∈ TS := tn_2 118 rfl rfl
theorem ml_Y_338 : Cond.methodLink "PollYard" 338 Lib.Math.min.name ∈ TS := tn_2 122 rfl rfl
theorem ml_Y_289 : Cond.methodLink "PollYard" 289 yn_Y_pollWait ∈ TS := tn_2 125 rfl rfl
theorem ml_Y_140 : Cond.methodLink "PollYard" 140 yn_Y_giveNotice ∈ TS := tn_2 129 rfl rfl
theorem ml_Y_292 : Cond.methodLink "PollYard" 292 yn_Y_pollReap ∈ TS := tn_2 133 rfl rfl
theorem ml_Y_329 : Cond.methodLink "PollYard" 329 yn_T_follow ∈ TS := tn_2 137 rfl rfl
theorem ml_T_54 : Cond.methodLink "PollYard$Task" 54 yn_T_phaseOf ∈ TS := tn_2 141 rfl rfl
theorem ml_T_48 : Cond.methodLink "PollYard$Task" 48 yn_P_has ∈ TS := tn_2 145 rfl rfl
theorem ml_T_58 : Cond.methodLink "PollYard$Task" 58 yn_T_resultOf ∈ TS := tn_2 146 rfl rfl
theorem ml_Y_332 : Cond.methodLink "PollYard" 332 yn_T_resultOf ∈ TS := tn_2 150 rfl rfl
theorem ml_Y_295 : Cond.methodLink "PollYard" 295 yn_T_makeBroken ∈ TS := tn_2 151 rfl rfl
theorem ml_Y_298 : Cond.methodLink "PollYard" 298 yn_Y_pollThen ∈ TS := tn_2 155 rfl rfl
theorem ml_Y_335 : Cond.methodLink "PollYard" 335 yn_P_endOf ∈ TS := tn_2 159 rfl rfl
theorem ml_Y_301 : Cond.methodLink "PollYard" 301 yn_Y_pollBoth ∈ TS := tn_2 160 rfl rfl
theorem ml_Y_126 : Cond.methodLink "PollYard" 126 yn_Y_drop ∈ TS := tn_2 164 rfl rfl
theorem ml_Y_341 : Cond.methodLink "PollYard" 341 yn_T_phaseOf ∈ TS := tn_2 168 rfl rfl
theorem ml_Y_234 : Cond.methodLink "PollYard" 234 yn_R_remove ∈ TS := tn_2 169 rfl rfl
theorem ml_R_25 : Cond.methodLink "PollYard$Row" 25 yn_R_indexOf ∈ TS := tn_2 173 rfl rfl
theorem ml_Y_304 : Cond.methodLink "PollYard" 304 yn_Y_pollFirst ∈ TS := tn_2 177 rfl rfl
theorem ml_Y_307 : Cond.methodLink "PollYard" 307 yn_Y_pollWithin ∈ TS := tn_2 181 rfl rfl
theorem ml_Y_310 : Cond.methodLink "PollYard" 310 yn_Y_pollAdd ∈ TS := tn_2 185 rfl rfl
theorem ml_Y_313 : Cond.methodLink "PollYard" 313 yn_Y_pollCatch ∈ TS := tn_2 189 rfl rfl
theorem ml_Y_244 : Cond.methodLink "PollYard" 244 yn_T_end ∈ TS := tn_2 193 rfl rfl
theorem ml_Y_130 : Cond.methodLink "PollYard" 130 yn_Y_wakeReapers ∈ TS := tn_2 197 rfl rfl
theorem ml_Y_217 : Cond.methodLink "PollYard" 217 yn_T_reaps ∈ TS := tn_2 201 rfl rfl
theorem ml_Y_247 : Cond.methodLink "PollYard" 247 yn_Y_slotWoken ∈ TS := tn_2 205 rfl rfl
theorem ml_Y_227 : Cond.methodLink "PollYard" 227 yn_Y_pushToRing ∈ TS := tn_2 209 rfl rfl
theorem ml_L_36 : Cond.methodLink "PollYardLaw" 36 yn_Y_run ∈ TS := tn_2 213 rfl rfl
theorem ml_L_40 : Cond.methodLink "PollYardLaw" 40 yn_Y_tick ∈ TS := tn_2 217 rfl rfl
theorem ml_Y_110 : Cond.methodLink "PollYard" 110 yn_Y_wakeTheDue ∈ TS := tn_2 221 rfl rfl
theorem ml_Y_224 : Cond.methodLink "PollYard" 224 yn_T_isDueAt ∈ TS := tn_2 225 rfl rfl
theorem ml_L_44 : Cond.methodLink "PollYardLaw" 44 yn_Y_abort ∈ TS := tn_2 229 rfl rfl
theorem ml_Y_117 : Cond.methodLink "PollYard" 117 yn_T_hasEnded ∈ TS := tn_2 233 rfl rfl
theorem ml_Y_120 : Cond.methodLink "PollYard" 120 yn_Y_unqueue ∈ TS := tn_2 237 rfl rfl
theorem ml_L_49 : Cond.methodLink "PollYardLaw" 49 yn_Y_put ∈ TS := tn_3 1 rfl rfl
theorem ml_L_53 : Cond.methodLink "PollYardLaw" 53 yn_Y_wake ∈ TS := tn_3 5 rfl rfl
theorem ml_L_57 : Cond.methodLink "PollYardLaw" 57 yn_Y_task ∈ TS := tn_3 9 rfl rfl
theorem ml_Y_156 : Cond.methodLink "PollYard" 156 yn_Y_whereQueued ∈ TS := tn_3 13 rfl rfl
theorem ml_Y_191 : Cond.methodLink "PollYard" 191 yn_R_holds ∈ TS := tn_3 17 rfl rfl
theorem ml_L_61 : Cond.methodLink "PollYardLaw" 61 yn_Y_worker ∈ TS := tn_3 21 rfl rfl
theorem ml_L_65 : Cond.methodLink "PollYardLaw" 65 yn_Y_injected ∈ TS := tn_3 25 rfl rfl
theorem ml_L_69 : Cond.methodLink "PollYardLaw" 69 yn_Y_gate ∈ TS := tn_3 29 rfl rfl
theorem ml_Y_178 : Cond.methodLink "PollYard" 178 yn_Y_gotByFirst ∈ TS := tn_3 33 rfl rfl
theorem ml_L_73 : Cond.methodLink "PollYardLaw" 73 yn_Y_count ∈ TS := tn_3 37 rfl rfl
theorem ml_Y_187 : Cond.methodLink "PollYard" 187 yn_Y_tasksNotEnded ∈ TS := tn_3 41 rfl rfl
theorem ml_L_12 : Cond.methodLink "PollYardLaw" 12 yn_M_init ∈ TS := tn_3 47 rfl rfl
theorem ml_M_1 : Cond.methodLink "PollYardModel" 1 Lib.objectInit ∈ TS := tn_3 50 rfl rfl
theorem ml_L_17 : Cond.methodLink "PollYardLaw" 17 yn_M_token ∈ TS := tn_3 161 rfl rfl
theorem ml_M_97 : Cond.methodLink "PollYardModel" 97 yn_M_fits ∈ TS := tn_3 165 rfl rfl
theorem ml_M_93 : Cond.methodLink "PollYardModel" 93 yn_M_is ∈ TS := tn_3 168 rfl rfl
theorem ml_L_26 : Cond.methodLink "PollYardLaw" 26 yn_M_clear ∈ TS := tn_3 171 rfl rfl
theorem ml_L_22 : Cond.methodLink "PollYardLaw" 22 yn_M_define ∈ TS := tn_3 175 rfl rfl
theorem ml_M_101 : Cond.methodLink "PollYardModel" 101 yn_M_parts ∈ TS := tn_3 179 rfl rfl
theorem ml_L_35 : Cond.methodLink "PollYardLaw" 35 yn_M_turn ∈ TS := tn_3 182 rfl rfl
theorem ml_M_214 : Cond.methodLink "PollYardModel" 214 yn_M_choose ∈ TS := tn_3 186 rfl rfl
theorem ml_M_207 : Cond.methodLink "PollYardModel" 207 yn_M_shiftInjector ∈ TS := tn_3 190 rfl rfl
theorem ml_M_122 : Cond.methodLink "PollYardModel" 122 yn_M_shift ∈ TS := tn_3 194 rfl rfl
theorem ml_M_128 : Cond.methodLink "PollYardModel" 128 yn_M_toRing ∈ TS := tn_3 198 rfl rfl
theorem ml_M_125 : Cond.methodLink "PollYardModel" 125 yn_M_inject ∈ TS := tn_3 202 rfl rfl
theorem ml_M_217 : Cond.methodLink "PollYardModel" 217 yn_M_work ∈ TS := tn_3 206 rfl rfl
theorem ml_M_198 : Cond.methodLink "PollYardModel" 198 yn_M_poll ∈ TS := tn_3 210 rfl rfl
theorem ml_M_108 : Cond.methodLink "PollYardModel" 108 yn_M_opOf ∈ TS := tn_3 214 rfl rfl
theorem ml_M_154 : Cond.methodLink "PollYardModel" 154 yn_M_leaf ∈ TS := tn_3 218 rfl rfl
theorem ml_M_132 : Cond.methodLink "PollYardModel" 132 yn_M_argOf ∈ TS := tn_3 222 rfl rfl
theorem ml_M_171 : Cond.methodLink "PollYardModel" 171 yn_M_ready ∈ TS := tn_3 226 rfl rfl
theorem ml_M_115 : Cond.methodLink "PollYardModel" 115 yn_M_wakeUp ∈ TS := tn_3 230 rfl rfl
theorem ml_M_174 : Cond.methodLink "PollYardModel" 174 yn_M_pending ∈ TS := tn_3 234 rfl rfl
theorem ml_M_183 : Cond.methodLink "PollYardModel" 183 yn_M_take ∈ TS := tn_3 238 rfl rfl
theorem ml_M_138 : Cond.methodLink "PollYardModel" 138 yn_M_wants ∈ TS := tn_4 2 rfl rfl
theorem ml_M_135 : Cond.methodLink "PollYardModel" 135 yn_M_firstAt ∈ TS := tn_4 5 rfl rfl
theorem ml_M_180 : Cond.methodLink "PollYardModel" 180 yn_M_spends ∈ TS := tn_4 9 rfl rfl
theorem ml_M_144 : Cond.methodLink "PollYardModel" 144 yn_M_add ∈ TS := tn_4 13 rfl rfl
theorem ml_M_186 : Cond.methodLink "PollYardModel" 186 yn_M_await ∈ TS := tn_4 17 rfl rfl
theorem ml_M_147 : Cond.methodLink "PollYardModel" 147 yn_M_give ∈ TS := tn_4 21 rfl rfl
theorem ml_M_189 : Cond.methodLink "PollYardModel" 189 yn_M_make ∈ TS := tn_4 25 rfl rfl
theorem ml_M_165 : Cond.methodLink "PollYardModel" 165 yn_M_broken ∈ TS := tn_4 29 rfl rfl
theorem ml_M_158 : Cond.methodLink "PollYardModel" 158 yn_M_step ∈ TS := tn_4 33 rfl rfl
theorem ml_M_141 : Cond.methodLink "PollYardModel" 141 yn_M_end ∈ TS := tn_4 37 rfl rfl
theorem ml_M_168 : Cond.methodLink "PollYardModel" 168 yn_M_drop ∈ TS := tn_4 41 rfl rfl
theorem ml_M_177 : Cond.methodLink "PollYardModel" 177 yn_M_reap ∈ TS := tn_4 45 rfl rfl
theorem ml_M_201 : Cond.methodLink "PollYardModel" 201 yn_M_ends ∈ TS := tn_4 49 rfl rfl
theorem ml_M_204 : Cond.methodLink "PollYardModel" 204 yn_M_tellReapers ∈ TS := tn_4 53 rfl rfl
theorem ml_L_39 : Cond.methodLink "PollYardLaw" 39 yn_M_run ∈ TS := tn_4 57 rfl rfl
theorem ml_M_223 : Cond.methodLink "PollYardModel" 223 yn_M_turn ∈ TS := tn_4 61 rfl rfl
theorem ml_L_31 : Cond.methodLink "PollYardLaw" 31 yn_M_spawn ∈ TS := tn_4 62 rfl rfl
theorem ml_L_43 : Cond.methodLink "PollYardLaw" 43 yn_M_tick ∈ TS := tn_4 66 rfl rfl
theorem ml_L_48 : Cond.methodLink "PollYardLaw" 48 yn_M_abort ∈ TS := tn_4 70 rfl rfl
theorem ml_M_226 : Cond.methodLink "PollYardModel" 226 yn_M_unqueue ∈ TS := tn_4 74 rfl rfl
theorem ml_L_52 : Cond.methodLink "PollYardLaw" 52 yn_M_put ∈ TS := tn_4 78 rfl rfl
theorem ml_L_56 : Cond.methodLink "PollYardLaw" 56 yn_M_wake ∈ TS := tn_4 82 rfl rfl
theorem ml_L_60 : Cond.methodLink "PollYardLaw" 60 yn_M_task ∈ TS := tn_4 86 rfl rfl
theorem ml_L_64 : Cond.methodLink "PollYardLaw" 64 yn_M_worker ∈ TS := tn_4 90 rfl rfl
theorem ml_L_68 : Cond.methodLink "PollYardLaw" 68 yn_M_injected ∈ TS := tn_4 94 rfl rfl
theorem ml_L_72 : Cond.methodLink "PollYardLaw" 72 yn_M_gate ∈ TS := tn_4 98 rfl rfl
theorem ml_M_229 : Cond.methodLink "PollYardModel" 229 yn_M_waiting ∈ TS := tn_4 102 rfl rfl
theorem ml_L_76 : Cond.methodLink "PollYardLaw" 76 yn_M_count ∈ TS := tn_4 106 rfl rfl
theorem sm_Math_max : Cond.static Lib.Math.max.name ∈ TS := tn_1 61 rfl rfl
theorem co_Math_max : Cond.code Lib.Math.max.name Lib.Math.max.code 2 (some .int) ∈ TS := tn_1 62 rfl rfl
theorem sm_Math_min : Cond.static Lib.Math.min.name ∈ TS := tn_2 123 rfl rfl
theorem co_Math_min : Cond.code Lib.Math.min.name Lib.Math.min.code 2 (some .int) ∈ TS := tn_2 124 rfl rfl
theorem ii_Math : Cond.initialized "java/lang/Math" ∈ TS := tn_1 5 rfl rfl
theorem im_Obj : Cond.instanceMethod Lib.objectInit ∈ TS := tn_1 16 rfl rfl
theorem co_Obj : Cond.code Lib.objectInit ⟨#[0xb1]⟩ 1 none ∈ TS := tn_1 17 rfl rfl
end
section
def jx (G : Gt) (Y : Yt) (d c0 s0 : Nat) (M : Me) (pc : Nat) (lc : List (Option AV)) (st : List AV) (Q : Option AV → Me → Prop) : Prop := ∃ (r : Option AV) (M' : Me), jw G Y d c0 s0 M pc lc st r M' ∧ Q r M'
def sx (G : Gt) (Y : Yt) (y : MethodName) (d : Nat) (as : List AV) (M : Me) (Q : Option AV → Me → Prop) : Prop := ∃ (r : Option AV) (M' : Me), sp G Y y d as M r M' ∧ Q r M'
theorem sx_mono {G : Gt} {Y : Yt} {y : MethodName} {d : Nat} {as : List AV} {M : Me} {Q Q' : Option AV → Me → Prop} (h : sx G Y y d as M Q) (hq : ∀ r M', Q r M' → Q' r M') : sx G Y y d as M Q' := by
  obtain ⟨r, M', h1, h2⟩ := h
  exact ⟨r, M', h1, hq r M' h2⟩
section RowsX
variable {G : Gt} {Y : Yt} {d c0 s0 : Nat} {M M2 : Me} {pc pc2 : Nat} {lc lc2 : List (Option AV)} {st st2 stk : List AV} {Q : Option AV → Me → Prop}
theorem jx_of (h : ∀ (r : Option AV) (M' : Me), jw G Y d c0 s0 M2 pc2 lc2 st2 r M' → jw G Y d c0 s0 M pc lc st r M') (k : jx G Y d c0 s0 M2 pc2 lc2 st2 Q) : jx G Y d c0 s0 M pc lc st Q := by
  obtain ⟨r, M', h1, h2⟩ := k
  exact ⟨r, M', h r M' h1, h2⟩
theorem jx_mono {Q' : Option AV → Me → Prop} (h : jx G Y d c0 s0 M pc lc st Q) (hq : ∀ r M', Q r M' → Q' r M') : jx G Y d c0 s0 M pc lc st Q' := by
  obtain ⟨r, M', h1, h2⟩ := h
  exact ⟨r, M', h1, hq r M' h2⟩
theorem jx_eq (hl : lc = lc2) (hs : st = st2) (hM : M = M2) (k : jx G Y d c0 s0 M2 pc lc2 st2 Q) : jx G Y d c0 s0 M pc lc st Q := by subst hl; subst hs; subst hM; exact k
theorem lc_std (as : List AV) (k : Nat) : ∀ (i : Nat) (v : AV), (as.map some ++ List.replicate k none)[i]? = some (some v) → as[i]? = some v := by
  intro i v h
  rw [List.getElem?_append] at h
  split at h
  · rw [List.getElem?_map] at h
    cases ha : as[i]? with
    | none => rw [ha] at h; cases h
    | some w => rw [ha] at h; cases h; rfl
  · rw [List.getElem?_replicate] at h
    split at h <;> cases h
theorem sx_of {y : MethodName} {n k : Nat} {as : List AV} (hm : mt_ok Y y n) (hlen : as.length ≤ Y.2.1) (hlc : lc = as.map some ++ List.replicate k none) (h : jx G Y d (me_C M) (me_S M) M 0 lc [] Q) : sx G Y y d as M Q := by
  subst hlc
  obtain ⟨r, M', h1, h2⟩ := h
  exact ⟨r, M', sp_of _ hm hlen (lc_std as k) h1, h2⟩
theorem jx_iret {x : Int32} (hd : decode Y.1 pc = .ok (.ireturn, 1)) (hr : Y.2.2.2.2 = some .int) (hq : Q (some (.inl x)) M) : jx G Y d c0 s0 M pc lc [.inl x] Q := ⟨_, _, jw_iret hd hr, hq⟩
theorem jx_zret {x : Int32} (hd : decode Y.1 pc = .ok (.ireturn, 1)) (hr : Y.2.2.2.2 = some .boolean) (hx : x = 0 ∨ x = 1) (hq : Q (some (.inl x)) M) : jx G Y d c0 s0 M pc lc [.inl x] Q := ⟨_, _, jw_zret hd hr hx, hq⟩
theorem jx_vret (hd : decode Y.1 pc = .ok (.return_, 1)) (hr : Y.2.2.2.2 = none) (hq : Q none M) : jx G Y d c0 s0 M pc lc [] Q := ⟨_, _, jw_vret hd hr, hq⟩
theorem jx_aret {a : Option (Nat × Nat)} {C : String} (hd : decode Y.1 pc = .ok (.areturn, 1)) (hr : Y.2.2.2.2 = some (.object C)) (hq : Q (some (.inr a)) M) : jx G Y d c0 s0 M pc lc [.inr a] Q := ⟨_, _, jw_aret hd hr, hq⟩
theorem jx_if_eq {x : Int32} {off : Int} (tgt : Nat) (hd : decode Y.1 pc = .ok (.ifCond .eq off, 3)) (ht : (pc : Int) + off = (tgt : Int)) (kt : x = 0 → jx G Y d c0 s0 M tgt lc st Q) (kf : ¬ x = 0 → jx G Y d c0 s0 M (pc + 3) lc st Q) : jx G Y d c0 s0 M pc lc (.inl x :: st) Q := by
  rcases Classical.em (x = 0) with h | h
  · exact jx_of (fun r M' k => jw_if_eq tgt hd ht (fun _ => k) (fun q => absurd h q)) (kt h)
  · exact jx_of (fun r M' k => jw_if_eq tgt hd ht (fun q => absurd q h) (fun _ => k)) (kf h)
theorem jx_if_ne {x : Int32} {off : Int} (tgt : Nat) (hd : decode Y.1 pc = .ok (.ifCond .ne off, 3)) (ht : (pc : Int) + off = (tgt : Int)) (kt : ¬ x = 0 → jx G Y d c0 s0 M tgt lc st Q) (kf : x = 0 → jx G Y d c0 s0 M (pc + 3) lc st Q) : jx G Y d c0 s0 M pc lc (.inl x :: st) Q := by
  rcases Classical.em (x = 0) with h | h
  · exact jx_of (fun r M' k => jw_if_ne tgt hd ht (fun q => absurd h q) (fun _ => k)) (kf h)
  · exact jx_of (fun r M' k => jw_if_ne tgt hd ht (fun _ => k) (fun q => absurd q h)) (kt h)
theorem jx_if_lt {x : Int32} {off : Int} (tgt : Nat) (hd : decode Y.1 pc = .ok (.ifCond .lt off, 3)) (ht : (pc : Int) + off = (tgt : Int)) (kt : x < 0 → jx G Y d c0 s0 M tgt lc st Q) (kf : ¬ x < 0 → jx G Y d c0 s0 M (pc + 3) lc st Q) : jx G Y d c0 s0 M pc lc (.inl x :: st) Q := by
  rcases Classical.em (x < 0) with h | h
  · exact jx_of (fun r M' k => jw_if_lt tgt hd ht (fun _ => k) (fun q => absurd h q)) (kt h)
  · exact jx_of (fun r M' k => jw_if_lt tgt hd ht (fun q => absurd q h) (fun _ => k)) (kf h)
theorem jx_if_ge {x : Int32} {off : Int} (tgt : Nat) (hd : decode Y.1 pc = .ok (.ifCond .ge off, 3)) (ht : (pc : Int) + off = (tgt : Int)) (kt : 0 ≤ x → jx G Y d c0 s0 M tgt lc st Q) (kf : ¬ 0 ≤ x → jx G Y d c0 s0 M (pc + 3) lc st Q) : jx G Y d c0 s0 M pc lc (.inl x :: st) Q := by
  rcases Classical.em (0 ≤ x) with h | h
  · exact jx_of (fun r M' k => jw_if_ge tgt hd ht (fun _ => k) (fun q => absurd h q)) (kt h)
  · exact jx_of (fun r M' k => jw_if_ge tgt hd ht (fun q => absurd q h) (fun _ => k)) (kf h)
theorem jx_if_gt {x : Int32} {off : Int} (tgt : Nat) (hd : decode Y.1 pc = .ok (.ifCond .gt off, 3)) (ht : (pc : Int) + off = (tgt : Int)) (kt : 0 < x → jx G Y d c0 s0 M tgt lc st Q) (kf : ¬ 0 < x → jx G Y d c0 s0 M (pc + 3) lc st Q) : jx G Y d c0 s0 M pc lc (.inl x :: st) Q := by
  rcases Classical.em (0 < x) with h | h
  · exact jx_of (fun r M' k => jw_if_gt tgt hd ht (fun _ => k) (fun q => absurd h q)) (kt h)
  · exact jx_of (fun r M' k => jw_if_gt tgt hd ht (fun q => absurd q h) (fun _ => k)) (kf h)
theorem jx_if_le {x : Int32} {off : Int} (tgt : Nat) (hd : decode Y.1 pc = .ok (.ifCond .le off, 3)) (ht : (pc : Int) + off = (tgt : Int)) (kt : x ≤ 0 → jx G Y d c0 s0 M tgt lc st Q) (kf : ¬ x ≤ 0 → jx G Y d c0 s0 M (pc + 3) lc st Q) : jx G Y d c0 s0 M pc lc (.inl x :: st) Q := by
  rcases Classical.em (x ≤ 0) with h | h
  · exact jx_of (fun r M' k => jw_if_le tgt hd ht (fun _ => k) (fun q => absurd h q)) (kt h)
  · exact jx_of (fun r M' k => jw_if_le tgt hd ht (fun q => absurd q h) (fun _ => k)) (kf h)
theorem jx_icmp_eq {x y : Int32} {off : Int} (tgt : Nat) (hd : decode Y.1 pc = .ok (.if_icmp .eq off, 3)) (ht : (pc : Int) + off = (tgt : Int)) (kt : x = y → jx G Y d c0 s0 M tgt lc st Q) (kf : ¬ x = y → jx G Y d c0 s0 M (pc + 3) lc st Q) : jx G Y d c0 s0 M pc lc (.inl y :: .inl x :: st) Q := by
  rcases Classical.em (x = y) with h | h
  · exact jx_of (fun r M' k => jw_icmp_eq tgt hd ht (fun _ => k) (fun q => absurd h q)) (kt h)
  · exact jx_of (fun r M' k => jw_icmp_eq tgt hd ht (fun q => absurd q h) (fun _ => k)) (kf h)
theorem jx_icmp_ne {x y : Int32} {off : Int} (tgt : Nat) (hd : decode Y.1 pc = .ok (.if_icmp .ne off, 3)) (ht : (pc : Int) + off = (tgt : Int)) (kt : ¬ x = y → jx G Y d c0 s0 M tgt lc st Q) (kf : x = y → jx G Y d c0 s0 M (pc + 3) lc st Q) : jx G Y d c0 s0 M pc lc (.inl y :: .inl x :: st) Q := by
  rcases Classical.em (x = y) with h | h
  · exact jx_of (fun r M' k => jw_icmp_ne tgt hd ht (fun q => absurd h q) (fun _ => k)) (kf h)
  · exact jx_of (fun r M' k => jw_icmp_ne tgt hd ht (fun _ => k) (fun q => absurd q h)) (kt h)
theorem jx_icmp_lt {x y : Int32} {off : Int} (tgt : Nat) (hd : decode Y.1 pc = .ok (.if_icmp .lt off, 3)) (ht : (pc : Int) + off = (tgt : Int)) (kt : x < y → jx G Y d c0 s0 M tgt lc st Q) (kf : ¬ x < y → jx G Y d c0 s0 M (pc + 3) lc st Q) : jx G Y d c0 s0 M pc lc (.inl y :: .inl x :: st) Q := by
  rcases Classical.em (x < y) with h | h
  · exact jx_of (fun r M' k => jw_icmp_lt tgt hd ht (fun _ => k) (fun q => absurd h q)) (kt h)
  · exact jx_of (fun r M' k => jw_icmp_lt tgt hd ht (fun q => absurd q h) (fun _ => k)) (kf h)
theorem jx_icmp_ge {x y : Int32} {off : Int} (tgt : Nat) (hd : decode Y.1 pc = .ok (.if_icmp .ge off, 3)) (ht : (pc : Int) + off = (tgt : Int)) (kt : y ≤ x → jx G Y d c0 s0 M tgt lc st Q) (kf : ¬ y ≤ x → jx G Y d c0 s0 M (pc + 3) lc st Q) : jx G Y d c0 s0 M pc lc (.inl y :: .inl x :: st) Q := by
  rcases Classical.em (y ≤ x) with h | h
  · exact jx_of (fun r M' k => jw_icmp_ge tgt hd ht (fun _ => k) (fun q => absurd h q)) (kt h)
  · exact jx_of (fun r M' k => jw_icmp_ge tgt hd ht (fun q => absurd q h) (fun _ => k)) (kf h)
theorem jx_icmp_gt {x y : Int32} {off : Int} (tgt : Nat) (hd : decode Y.1 pc = .ok (.if_icmp .gt off, 3)) (ht : (pc : Int) + off = (tgt : Int)) (kt : y < x → jx G Y d c0 s0 M tgt lc st Q) (kf : ¬ y < x → jx G Y d c0 s0 M (pc + 3) lc st Q) : jx G Y d c0 s0 M pc lc (.inl y :: .inl x :: st) Q := by
  rcases Classical.em (y < x) with h | h
  · exact jx_of (fun r M' k => jw_icmp_gt tgt hd ht (fun _ => k) (fun q => absurd h q)) (kt h)
  · exact jx_of (fun r M' k => jw_icmp_gt tgt hd ht (fun q => absurd q h) (fun _ => k)) (kf h)
theorem jx_icmp_le {x y : Int32} {off : Int} (tgt : Nat) (hd : decode Y.1 pc = .ok (.if_icmp .le off, 3)) (ht : (pc : Int) + off = (tgt : Int)) (kt : x ≤ y → jx G Y d c0 s0 M tgt lc st Q) (kf : ¬ x ≤ y → jx G Y d c0 s0 M (pc + 3) lc st Q) : jx G Y d c0 s0 M pc lc (.inl y :: .inl x :: st) Q := by
  rcases Classical.em (x ≤ y) with h | h
  · exact jx_of (fun r M' k => jw_icmp_le tgt hd ht (fun _ => k) (fun q => absurd h q)) (kt h)
  · exact jx_of (fun r M' k => jw_icmp_le tgt hd ht (fun q => absurd q h) (fun _ => k)) (kf h)
theorem jx_ifnull {o : Option (Nat × Nat)} {off : Int} (tgt : Nat) (hd : decode Y.1 pc = .ok (.ifnull off, 3)) (ht : (pc : Int) + off = (tgt : Int)) (kt : o = none → jx G Y d c0 s0 M tgt lc st Q) (kf : ∀ a, o = some a → jx G Y d c0 s0 M (pc + 3) lc st Q) : jx G Y d c0 s0 M pc lc (.inr o :: st) Q := by
  cases o with
  | none => exact jx_of (fun r M' k => jw_ifnull tgt hd ht (fun _ => k) (fun _ h => by cases h)) (kt rfl)
  | some a => exact jx_of (fun r M' k => jw_ifnull tgt hd ht (fun h => by cases h) (fun _ _ => k)) (kf a rfl)
theorem jx_ifnonnull {o : Option (Nat × Nat)} {off : Int} (tgt : Nat) (hd : decode Y.1 pc = .ok (.ifnonnull off, 3)) (ht : (pc : Int) + off = (tgt : Int)) (kt : ∀ a, o = some a → jx G Y d c0 s0 M tgt lc st Q) (kf : o = none → jx G Y d c0 s0 M (pc + 3) lc st Q) : jx G Y d c0 s0 M pc lc (.inr o :: st) Q := by
  cases o with
  | none => exact jx_of (fun r M' k => jw_ifnonnull tgt hd ht (fun _ h => by cases h) (fun _ => k)) (kf rfl)
  | some a => exact jx_of (fun r M' k => jw_ifnonnull tgt hd ht (fun _ _ => k) (fun h => by cases h)) (kt a rfl)
theorem jx_callS {Yz : Yt} {z : MethodName} {as : List AV} {index n : Nat} {Q1 : Option AV → Me → Prop} (hsx : sx G Yz z d as M Q1) (hm : mt_ok Yz z n) (hl : Cond.methodLink Y.2.2.1 index z ∈ TS) (hst2 : Cond.static z ∈ TS) (hd : decode Y.1 pc = .ok (.invokestatic index, 3)) (hn : as.length = n) (hstk : stk = as.reverse ++ st) (hw : st.length ≤ 8)
    (kk : ∀ (r1 : Option AV) (M1 : Me), Q1 r1 M1 → jx G Y (d + 1) c0 s0 M1 (pc + 3) lc (r1.toList ++ st) Q) : jx G Y (d + 1) c0 s0 M pc lc stk Q := by
  obtain ⟨r1, M1, h1, h2⟩ := hsx
  exact jx_of (fun r M' k => jw_callS h1 hm hl hst2 hd hn hstk hw k) (kk r1 M1 h2)
theorem jx_callI {Yz : Yt} {z : MethodName} {As : List AV} {index n s1 i1 : Nat} {Q1 : Option AV → Me → Prop} (hsx : sx G Yz z d (.inr (some (s1, i1)) :: As) M Q1) (hm : mt_ok Yz z n) (hrt : Yz.2.2.2.2 = none) (hnm : z.name = "<init>") (hl : Cond.methodLink Y.2.2.1 index z ∈ TS) (hin : Cond.instanceMethod z ∈ TS) (hd : decode Y.1 pc = .ok (.invokespecial index, 3)) (hn : As.length = n) (hstk : stk = As.reverse ++ .inr (some (s1, i1)) :: st) (hw : st.length ≤ 8)
    (hno : ∀ r1 M1, Q1 r1 M1 → r1 = none) (kk : ∀ (M1 : Me), Q1 none M1 → jx G Y (d + 1) c0 s0 M1 (pc + 3) lc st Q) : jx G Y (d + 1) c0 s0 M pc lc stk Q := by
  obtain ⟨r1, M1, h1, h2⟩ := hsx
  have h3 := hno r1 M1 h2
  subst h3
  exact jx_of (fun r M' k => jw_callI h1 hm hrt hnm hl hin hd hn hstk hw k) (kk M1 h2)
theorem jx_callIN {Yz : Yt} {z : MethodName} {As : List AV} {index n s1 i1 : Nat} {host : String} {Q1 : Option AV → Me → Prop} (hsx : sx G Yz z d (.inr (some (s1, i1)) :: As) M Q1) (hm : mt_ok Yz z n) (hrt : Yz.2.2.2.2 = none) (hnm : z.name = "<init>") (hl : Cond.methodLinkNest Y.2.2.1 index z host ∈ nest_w) (hin : Cond.instanceMethod z ∈ TS) (hd : decode Y.1 pc = .ok (.invokespecial index, 3)) (hn : As.length = n) (hstk : stk = As.reverse ++ .inr (some (s1, i1)) :: st) (hw : st.length ≤ 8)
    (hno : ∀ r1 M1, Q1 r1 M1 → r1 = none) (kk : ∀ (M1 : Me), Q1 none M1 → jx G Y (d + 1) c0 s0 M1 (pc + 3) lc st Q) : jx G Y (d + 1) c0 s0 M pc lc stk Q := by
  obtain ⟨r1, M1, h1, h2⟩ := hsx
  have h3 := hno r1 M1 h2
  subst h3
  exact jx_of (fun r M' k => jw_callIN h1 hm hrt hnm hl hin hd hn hstk hw k) (kk M1 h2)
theorem jx_callV {Yz : Yt} {z : MethodName} {As : List AV} {index n s1 i1 ci : Nat} {T : u_T} {N : Nat} {ty : Nat → FieldType} {Q1 : Option AV → Me → Prop} (hsx : sx G Yz z d (.inr (some (s1, i1)) :: As) M Q1) (hm : mt_ok Yz z n) (hcf : cf_ok ci z.cls T N ty) (hs1 : sk s1 = .inl ci) (ht1 : st_is s1 = false) (hl : Cond.methodLink Y.2.2.1 index z ∈ TS) (hin : Cond.instanceMethod z ∈ TS) (hse : Cond.selects z.cls z z ∈ TS) (hd : decode Y.1 pc = .ok (.invokevirtual index, 3)) (hn : As.length = n) (hstk : stk = As.reverse ++ .inr (some (s1, i1)) :: st) (hw : st.length ≤ 8)
    (kk : ∀ (r1 : Option AV) (M1 : Me), Q1 r1 M1 → jx G Y (d + 1) c0 s0 M1 (pc + 3) lc (r1.toList ++ st) Q) : jx G Y (d + 1) c0 s0 M pc lc stk Q := by
  obtain ⟨r1, M1, h1, h2⟩ := hsx
  exact jx_of (fun r M' k => jw_callV h1 hm hcf hs1 ht1 hl hin hse hd hn hstk hw k) (kk r1 M1 h2)
end RowsX
end
section
theorem d_G_init_0 : decode prog_2_method_1_code 0 = .ok (.aload_n 0, 1) := by decide +kernel
theorem d_G_init_1 : decode prog_2_method_1_code 1 = .ok (.invokespecial 3, 3) := by decide +kernel
theorem d_G_init_4 : decode prog_2_method_1_code 4 = .ok (.aload_n 0, 1) := by decide +kernel
theorem d_G_init_5 : decode prog_2_method_1_code 5 = .ok (.new 9, 3) := by decide +kernel
theorem d_G_init_8 : decode prog_2_method_1_code 8 = .ok (.dup, 1) := by decide +kernel
theorem d_G_init_9 : decode prog_2_method_1_code 9 = .ok (.sipush 144, 3) := by decide +kernel
theorem d_G_init_12 : decode prog_2_method_1_code 12 = .ok (.invokespecial 11, 3) := by decide +kernel
theorem d_G_init_15 : decode prog_2_method_1_code 15 = .ok (.putfield 14, 3) := by decide +kernel
theorem d_G_init_18 : decode prog_2_method_1_code 18 = .ok (.aload_n 0, 1) := by decide +kernel
theorem d_G_init_19 : decode prog_2_method_1_code 19 = .ok (.iconst 1, 1) := by decide +kernel
theorem d_G_init_20 : decode prog_2_method_1_code 20 = .ok (.putfield 20, 3) := by decide +kernel
theorem d_G_init_23 : decode prog_2_method_1_code 23 = .ok (.return_, 1) := by decide +kernel
theorem d_N_init_0 : decode prog_3_method_1_code 0 = .ok (.aload_n 0, 1) := by decide +kernel
theorem d_N_init_1 : decode prog_3_method_1_code 1 = .ok (.invokespecial 3, 3) := by decide +kernel
theorem d_N_init_4 : decode prog_3_method_1_code 4 = .ok (.aload_n 0, 1) := by decide +kernel
theorem d_N_init_5 : decode prog_3_method_1_code 5 = .ok (.new 9, 3) := by decide +kernel
theorem d_N_init_8 : decode prog_3_method_1_code 8 = .ok (.dup, 1) := by decide +kernel
theorem d_N_init_9 : decode prog_3_method_1_code 9 = .ok (.sipush 144, 3) := by decide +kernel
theorem d_N_init_12 : decode prog_3_method_1_code 12 = .ok (.invokespecial 11, 3) := by decide +kernel
theorem d_N_init_15 : decode prog_3_method_1_code 15 = .ok (.putfield 14, 3) := by decide +kernel
theorem d_N_init_18 : decode prog_3_method_1_code 18 = .ok (.aload_n 0, 1) := by decide +kernel
theorem d_N_init_19 : decode prog_3_method_1_code 19 = .ok (.iconst 0, 1) := by decide +kernel
theorem d_N_init_20 : decode prog_3_method_1_code 20 = .ok (.putfield 20, 3) := by decide +kernel
theorem d_N_init_23 : decode prog_3_method_1_code 23 = .ok (.return_, 1) := by decide +kernel
theorem d_P_init_0 : decode prog_4_method_1_code 0 = .ok (.aload_n 0, 1) := by decide +kernel
theorem d_P_init_1 : decode prog_4_method_1_code 1 = .ok (.invokespecial 3, 3) := by decide +kernel
theorem d_P_init_4 : decode prog_4_method_1_code 4 = .ok (.aload_n 0, 1) := by decide +kernel
theorem d_P_init_5 : decode prog_4_method_1_code 5 = .ok (.bipush 12, 2) := by decide +kernel
theorem d_P_init_7 : decode prog_4_method_1_code 7 = .ok (.newarray .int, 2) := by decide +kernel
theorem d_P_init_9 : decode prog_4_method_1_code 9 = .ok (.putfield 9, 3) := by decide +kernel
theorem d_P_init_12 : decode prog_4_method_1_code 12 = .ok (.aload_n 0, 1) := by decide +kernel
theorem d_P_init_13 : decode prog_4_method_1_code 13 = .ok (.bipush 12, 2) := by decide +kernel
theorem d_P_init_15 : decode prog_4_method_1_code 15 = .ok (.newarray .int, 2) := by decide +kernel
theorem d_P_init_17 : decode prog_4_method_1_code 17 = .ok (.putfield 15, 3) := by decide +kernel
theorem d_P_init_20 : decode prog_4_method_1_code 20 = .ok (.aload_n 0, 1) := by decide +kernel
theorem d_P_init_21 : decode prog_4_method_1_code 21 = .ok (.bipush 12, 2) := by decide +kernel
theorem d_P_init_23 : decode prog_4_method_1_code 23 = .ok (.newarray .int, 2) := by decide +kernel
theorem d_P_init_25 : decode prog_4_method_1_code 25 = .ok (.putfield 18, 3) := by decide +kernel
theorem d_P_init_28 : decode prog_4_method_1_code 28 = .ok (.aload_n 0, 1) := by decide +kernel
theorem d_P_init_29 : decode prog_4_method_1_code 29 = .ok (.iconst 0, 1) := by decide +kernel
theorem d_P_init_30 : decode prog_4_method_1_code 30 = .ok (.putfield 21, 3) := by decide +kernel
theorem d_P_init_33 : decode prog_4_method_1_code 33 = .ok (.return_, 1) := by decide +kernel
theorem d_P_has_0 : decode prog_4_method_2_code 0 = .ok (.iload_n 1, 1) := by decide +kernel
theorem d_P_has_1 : decode prog_4_method_2_code 1 = .ok (.ifCond .lt 15, 3) := by decide +kernel
theorem d_P_has_4 : decode prog_4_method_2_code 4 = .ok (.iload_n 1, 1) := by decide +kernel
theorem d_P_has_5 : decode prog_4_method_2_code 5 = .ok (.aload_n 0, 1) := by decide +kernel
theorem d_P_has_6 : decode prog_4_method_2_code 6 = .ok (.getfield 21, 3) := by decide +kernel
theorem d_P_has_9 : decode prog_4_method_2_code 9 = .ok (.if_icmp .ge 7, 3) := by decide +kernel
theorem d_P_has_12 : decode prog_4_method_2_code 12 = .ok (.iconst 1, 1) := by decide +kernel
theorem d_P_has_13 : decode prog_4_method_2_code 13 = .ok (.goto 4, 3) := by decide +kernel
theorem d_P_has_16 : decode prog_4_method_2_code 16 = .ok (.iconst 0, 1) := by decide +kernel
theorem d_P_has_17 : decode prog_4_method_2_code 17 = .ok (.ireturn, 1) := by decide +kernel
theorem d_P_endOf_0 : decode prog_4_method_3_code 0 = .ok (.aload_n 0, 1) := by decide +kernel
theorem d_P_endOf_1 : decode prog_4_method_3_code 1 = .ok (.iload_n 1, 1) := by decide +kernel
theorem d_P_endOf_2 : decode prog_4_method_3_code 2 = .ok (.invokevirtual 25, 3) := by decide +kernel
theorem d_P_endOf_5 : decode prog_4_method_3_code 5 = .ok (.ifCond .eq 12, 3) := by decide +kernel
theorem d_P_endOf_8 : decode prog_4_method_3_code 8 = .ok (.aload_n 0, 1) := by decide +kernel
theorem d_P_endOf_9 : decode prog_4_method_3_code 9 = .ok (.getfield 18, 3) := by decide +kernel
theorem d_P_endOf_12 : decode prog_4_method_3_code 12 = .ok (.iload_n 1, 1) := by decide +kernel
theorem d_P_endOf_13 : decode prog_4_method_3_code 13 = .ok (.iaload, 1) := by decide +kernel
theorem d_P_endOf_14 : decode prog_4_method_3_code 14 = .ok (.goto 7, 3) := by decide +kernel
theorem d_P_endOf_17 : decode prog_4_method_3_code 17 = .ok (.aload_n 0, 1) := by decide +kernel
theorem d_P_endOf_18 : decode prog_4_method_3_code 18 = .ok (.getfield 21, 3) := by decide +kernel
theorem d_P_endOf_21 : decode prog_4_method_3_code 21 = .ok (.ireturn, 1) := by decide +kernel
theorem d_P_append_0 : decode prog_4_method_4_code 0 = .ok (.aload_n 0, 1) := by decide +kernel
theorem d_P_append_1 : decode prog_4_method_4_code 1 = .ok (.getfield 21, 3) := by decide +kernel
theorem d_P_append_4 : decode prog_4_method_4_code 4 = .ok (.bipush 12, 2) := by decide +kernel
theorem d_P_append_6 : decode prog_4_method_4_code 6 = .ok (.if_icmp .lt 5, 3) := by decide +kernel
theorem d_P_append_9 : decode prog_4_method_4_code 9 = .ok (.iconst 0, 1) := by decide +kernel
theorem d_P_append_10 : decode prog_4_method_4_code 10 = .ok (.ireturn, 1) := by decide +kernel
theorem d_P_append_11 : decode prog_4_method_4_code 11 = .ok (.aload_n 0, 1) := by decide +kernel
theorem d_P_append_12 : decode prog_4_method_4_code 12 = .ok (.getfield 9, 3) := by decide +kernel
theorem d_P_append_15 : decode prog_4_method_4_code 15 = .ok (.aload_n 0, 1) := by decide +kernel
theorem d_P_append_16 : decode prog_4_method_4_code 16 = .ok (.getfield 21, 3) := by decide +kernel
theorem d_P_append_19 : decode prog_4_method_4_code 19 = .ok (.iload_n 1, 1) := by decide +kernel
theorem d_P_append_20 : decode prog_4_method_4_code 20 = .ok (.iastore, 1) := by decide +kernel
theorem d_P_append_21 : decode prog_4_method_4_code 21 = .ok (.aload_n 0, 1) := by decide +kernel
theorem d_P_append_22 : decode prog_4_method_4_code 22 = .ok (.getfield 15, 3) := by decide +kernel
theorem d_P_append_25 : decode prog_4_method_4_code 25 = .ok (.aload_n 0, 1) := by decide +kernel
theorem d_P_append_26 : decode prog_4_method_4_code 26 = .ok (.getfield 21, 3) := by decide +kernel
theorem d_P_append_29 : decode prog_4_method_4_code 29 = .ok (.iload_n 2, 1) := by decide +kernel
theorem d_P_append_30 : decode prog_4_method_4_code 30 = .ok (.iastore, 1) := by decide +kernel
theorem d_P_append_31 : decode prog_4_method_4_code 31 = .ok (.aload_n 0, 1) := by decide +kernel
theorem d_P_append_32 : decode prog_4_method_4_code 32 = .ok (.dup, 1) := by decide +kernel
theorem d_P_append_33 : decode prog_4_method_4_code 33 = .ok (.getfield 21, 3) := by decide +kernel
theorem d_P_append_36 : decode prog_4_method_4_code 36 = .ok (.iconst 1, 1) := by decide +kernel
theorem d_P_append_37 : decode prog_4_method_4_code 37 = .ok (.iadd, 1) := by decide +kernel
theorem d_P_append_38 : decode prog_4_method_4_code 38 = .ok (.putfield 21, 3) := by decide +kernel
theorem d_P_append_41 : decode prog_4_method_4_code 41 = .ok (.iconst 1, 1) := by decide +kernel
theorem d_P_append_42 : decode prog_4_method_4_code 42 = .ok (.ireturn, 1) := by decide +kernel
theorem d_P_isOneFuture_0 : decode prog_4_method_5_code 0 = .ok (.iconst 1, 1) := by decide +kernel
theorem d_P_isOneFuture_1 : decode prog_4_method_5_code 1 = .ok (.istore_n 1, 1) := by decide +kernel
theorem d_P_isOneFuture_2 : decode prog_4_method_5_code 2 = .ok (.iconst 0, 1) := by decide +kernel
theorem d_P_isOneFuture_3 : decode prog_4_method_5_code 3 = .ok (.istore_n 2, 1) := by decide +kernel
theorem d_P_isOneFuture_4 : decode prog_4_method_5_code 4 = .ok (.iload_n 2, 1) := by decide +kernel
theorem d_P_isOneFuture_5 : decode prog_4_method_5_code 5 = .ok (.aload_n 0, 1) := by decide +kernel
theorem d_P_isOneFuture_6 : decode prog_4_method_5_code 6 = .ok (.getfield 21, 3) := by decide +kernel
theorem d_P_isOneFuture_9 : decode prog_4_method_5_code 9 = .ok (.if_icmp .ge 30, 3) := by decide +kernel
theorem d_P_isOneFuture_12 : decode prog_4_method_5_code 12 = .ok (.iload_n 1, 1) := by decide +kernel
theorem d_P_isOneFuture_13 : decode prog_4_method_5_code 13 = .ok (.ifCond .ne 5, 3) := by decide +kernel
theorem d_P_isOneFuture_16 : decode prog_4_method_5_code 16 = .ok (.iconst 0, 1) := by decide +kernel
theorem d_P_isOneFuture_17 : decode prog_4_method_5_code 17 = .ok (.ireturn, 1) := by decide +kernel
theorem d_P_isOneFuture_18 : decode prog_4_method_5_code 18 = .ok (.iload_n 1, 1) := by decide +kernel
theorem d_P_isOneFuture_19 : decode prog_4_method_5_code 19 = .ok (.getstatic 29, 3) := by decide +kernel
theorem d_P_isOneFuture_22 : decode prog_4_method_5_code 22 = .ok (.aload_n 0, 1) := by decide +kernel
theorem d_P_isOneFuture_23 : decode prog_4_method_5_code 23 = .ok (.getfield 9, 3) := by decide +kernel
theorem d_P_isOneFuture_26 : decode prog_4_method_5_code 26 = .ok (.iload_n 2, 1) := by decide +kernel
theorem d_P_isOneFuture_27 : decode prog_4_method_5_code 27 = .ok (.iaload, 1) := by decide +kernel
theorem d_P_isOneFuture_28 : decode prog_4_method_5_code 28 = .ok (.iaload, 1) := by decide +kernel
theorem d_P_isOneFuture_29 : decode prog_4_method_5_code 29 = .ok (.iconst 1, 1) := by decide +kernel
theorem d_P_isOneFuture_30 : decode prog_4_method_5_code 30 = .ok (.isub, 1) := by decide +kernel
theorem d_P_isOneFuture_31 : decode prog_4_method_5_code 31 = .ok (.iadd, 1) := by decide +kernel
theorem d_P_isOneFuture_32 : decode prog_4_method_5_code 32 = .ok (.istore_n 1, 1) := by decide +kernel
theorem d_P_isOneFuture_33 : decode prog_4_method_5_code 33 = .ok (.iinc 2 1, 3) := by decide +kernel
theorem d_P_isOneFuture_36 : decode prog_4_method_5_code 36 = .ok (.goto (-32), 3) := by decide +kernel
theorem d_P_isOneFuture_39 : decode prog_4_method_5_code 39 = .ok (.iload_n 1, 1) := by decide +kernel
theorem d_P_isOneFuture_40 : decode prog_4_method_5_code 40 = .ok (.ifCond .ne 7, 3) := by decide +kernel
theorem d_P_isOneFuture_43 : decode prog_4_method_5_code 43 = .ok (.iconst 1, 1) := by decide +kernel
theorem d_P_isOneFuture_44 : decode prog_4_method_5_code 44 = .ok (.goto 4, 3) := by decide +kernel
theorem d_P_isOneFuture_47 : decode prog_4_method_5_code 47 = .ok (.iconst 0, 1) := by decide +kernel
theorem d_P_isOneFuture_48 : decode prog_4_method_5_code 48 = .ok (.ireturn, 1) := by decide +kernel
theorem d_P_findEnds_0 : decode prog_4_method_6_code 0 = .ok (.aload_n 0, 1) := by decide +kernel
theorem d_P_findEnds_1 : decode prog_4_method_6_code 1 = .ok (.getfield 21, 3) := by decide +kernel
theorem d_P_findEnds_4 : decode prog_4_method_6_code 4 = .ok (.iconst 1, 1) := by decide +kernel
theorem d_P_findEnds_5 : decode prog_4_method_6_code 5 = .ok (.isub, 1) := by decide +kernel
theorem d_P_findEnds_6 : decode prog_4_method_6_code 6 = .ok (.istore_n 1, 1) := by decide +kernel
theorem d_P_findEnds_7 : decode prog_4_method_6_code 7 = .ok (.iload_n 1, 1) := by decide +kernel
theorem d_P_findEnds_8 : decode prog_4_method_6_code 8 = .ok (.ifCond .lt 48, 3) := by decide +kernel
theorem d_P_findEnds_11 : decode prog_4_method_6_code 11 = .ok (.iload_n 1, 1) := by decide +kernel
theorem d_P_findEnds_12 : decode prog_4_method_6_code 12 = .ok (.iconst 1, 1) := by decide +kernel
theorem d_P_findEnds_13 : decode prog_4_method_6_code 13 = .ok (.iadd, 1) := by decide +kernel
theorem d_P_findEnds_14 : decode prog_4_method_6_code 14 = .ok (.istore_n 2, 1) := by decide +kernel
theorem d_P_findEnds_15 : decode prog_4_method_6_code 15 = .ok (.iconst 0, 1) := by decide +kernel
theorem d_P_findEnds_16 : decode prog_4_method_6_code 16 = .ok (.istore_n 3, 1) := by decide +kernel
theorem d_P_findEnds_17 : decode prog_4_method_6_code 17 = .ok (.iload_n 3, 1) := by decide +kernel
theorem d_P_findEnds_18 : decode prog_4_method_6_code 18 = .ok (.getstatic 29, 3) := by decide +kernel
theorem d_P_findEnds_21 : decode prog_4_method_6_code 21 = .ok (.aload_n 0, 1) := by decide +kernel
theorem d_P_findEnds_22 : decode prog_4_method_6_code 22 = .ok (.getfield 9, 3) := by decide +kernel
theorem d_P_findEnds_25 : decode prog_4_method_6_code 25 = .ok (.iload_n 1, 1) := by decide +kernel
theorem d_P_findEnds_26 : decode prog_4_method_6_code 26 = .ok (.iaload, 1) := by decide +kernel
theorem d_P_findEnds_27 : decode prog_4_method_6_code 27 = .ok (.iaload, 1) := by decide +kernel
theorem d_P_findEnds_28 : decode prog_4_method_6_code 28 = .ok (.if_icmp .ge 15, 3) := by decide +kernel
theorem d_P_findEnds_31 : decode prog_4_method_6_code 31 = .ok (.aload_n 0, 1) := by decide +kernel
theorem d_P_findEnds_32 : decode prog_4_method_6_code 32 = .ok (.iload_n 2, 1) := by decide +kernel
theorem d_P_findEnds_33 : decode prog_4_method_6_code 33 = .ok (.invokevirtual 32, 3) := by decide +kernel
theorem d_P_findEnds_36 : decode prog_4_method_6_code 36 = .ok (.istore_n 2, 1) := by decide +kernel
theorem d_P_findEnds_37 : decode prog_4_method_6_code 37 = .ok (.iinc 3 1, 3) := by decide +kernel
theorem d_P_findEnds_40 : decode prog_4_method_6_code 40 = .ok (.goto (-23), 3) := by decide +kernel
theorem d_P_findEnds_43 : decode prog_4_method_6_code 43 = .ok (.aload_n 0, 1) := by decide +kernel
theorem d_P_findEnds_44 : decode prog_4_method_6_code 44 = .ok (.getfield 18, 3) := by decide +kernel
theorem d_P_findEnds_47 : decode prog_4_method_6_code 47 = .ok (.iload_n 1, 1) := by decide +kernel
theorem d_P_findEnds_48 : decode prog_4_method_6_code 48 = .ok (.iload_n 2, 1) := by decide +kernel
theorem d_P_findEnds_49 : decode prog_4_method_6_code 49 = .ok (.iastore, 1) := by decide +kernel
theorem d_P_findEnds_50 : decode prog_4_method_6_code 50 = .ok (.iinc 1 (-1), 3) := by decide +kernel
theorem d_P_findEnds_53 : decode prog_4_method_6_code 53 = .ok (.goto (-46), 3) := by decide +kernel
theorem d_P_findEnds_56 : decode prog_4_method_6_code 56 = .ok (.return_, 1) := by decide +kernel
theorem d_R_init_0 : decode prog_5_method_1_code 0 = .ok (.aload_n 0, 1) := by decide +kernel
theorem d_R_init_1 : decode prog_5_method_1_code 1 = .ok (.invokespecial 3, 3) := by decide +kernel
theorem d_R_init_4 : decode prog_5_method_1_code 4 = .ok (.aload_n 0, 1) := by decide +kernel
theorem d_R_init_5 : decode prog_5_method_1_code 5 = .ok (.iconst 0, 1) := by decide +kernel
theorem d_R_init_6 : decode prog_5_method_1_code 6 = .ok (.putfield 9, 3) := by decide +kernel
theorem d_R_init_9 : decode prog_5_method_1_code 9 = .ok (.aload_n 0, 1) := by decide +kernel
theorem d_R_init_10 : decode prog_5_method_1_code 10 = .ok (.iload_n 1, 1) := by decide +kernel
theorem d_R_init_11 : decode prog_5_method_1_code 11 = .ok (.iconst 0, 1) := by decide +kernel
theorem d_R_init_12 : decode prog_5_method_1_code 12 = .ok (.invokestatic 15, 3) := by decide +kernel
theorem d_R_init_15 : decode prog_5_method_1_code 15 = .ok (.newarray .int, 2) := by decide +kernel
theorem d_R_init_17 : decode prog_5_method_1_code 17 = .ok (.putfield 21, 3) := by decide +kernel
theorem d_R_init_20 : decode prog_5_method_1_code 20 = .ok (.return_, 1) := by decide +kernel
theorem d_R_isEmpty_0 : decode prog_5_method_2_code 0 = .ok (.aload_n 0, 1) := by decide +kernel
theorem d_R_isEmpty_1 : decode prog_5_method_2_code 1 = .ok (.getfield 9, 3) := by decide +kernel
theorem d_R_isEmpty_4 : decode prog_5_method_2_code 4 = .ok (.ifCond .ne 7, 3) := by decide +kernel
theorem d_R_isEmpty_7 : decode prog_5_method_2_code 7 = .ok (.iconst 1, 1) := by decide +kernel
theorem d_R_isEmpty_8 : decode prog_5_method_2_code 8 = .ok (.goto 4, 3) := by decide +kernel
theorem d_R_isEmpty_11 : decode prog_5_method_2_code 11 = .ok (.iconst 0, 1) := by decide +kernel
theorem d_R_isEmpty_12 : decode prog_5_method_2_code 12 = .ok (.ireturn, 1) := by decide +kernel
theorem d_R_at_0 : decode prog_5_method_3_code 0 = .ok (.iload_n 1, 1) := by decide +kernel
theorem d_R_at_1 : decode prog_5_method_3_code 1 = .ok (.ifCond .lt 11, 3) := by decide +kernel
theorem d_R_at_4 : decode prog_5_method_3_code 4 = .ok (.iload_n 1, 1) := by decide +kernel
theorem d_R_at_5 : decode prog_5_method_3_code 5 = .ok (.aload_n 0, 1) := by decide +kernel
theorem d_R_at_6 : decode prog_5_method_3_code 6 = .ok (.getfield 9, 3) := by decide +kernel
theorem d_R_at_9 : decode prog_5_method_3_code 9 = .ok (.if_icmp .lt 7, 3) := by decide +kernel
theorem d_R_at_12 : decode prog_5_method_3_code 12 = .ok (.iconst (-1), 1) := by decide +kernel
theorem d_R_at_13 : decode prog_5_method_3_code 13 = .ok (.goto 9, 3) := by decide +kernel
theorem d_R_at_16 : decode prog_5_method_3_code 16 = .ok (.aload_n 0, 1) := by decide +kernel
theorem d_R_at_17 : decode prog_5_method_3_code 17 = .ok (.getfield 21, 3) := by decide +kernel
theorem d_R_at_20 : decode prog_5_method_3_code 20 = .ok (.iload_n 1, 1) := by decide +kernel
theorem d_R_at_21 : decode prog_5_method_3_code 21 = .ok (.iaload, 1) := by decide +kernel
theorem d_R_at_22 : decode prog_5_method_3_code 22 = .ok (.ireturn, 1) := by decide +kernel
theorem d_R_add_0 : decode prog_5_method_4_code 0 = .ok (.aload_n 0, 1) := by decide +kernel
theorem d_R_add_1 : decode prog_5_method_4_code 1 = .ok (.getfield 9, 3) := by decide +kernel
theorem d_R_add_4 : decode prog_5_method_4_code 4 = .ok (.aload_n 0, 1) := by decide +kernel
theorem d_R_add_5 : decode prog_5_method_4_code 5 = .ok (.getfield 21, 3) := by decide +kernel
theorem d_R_add_8 : decode prog_5_method_4_code 8 = .ok (.arraylength, 1) := by decide +kernel
theorem d_R_add_9 : decode prog_5_method_4_code 9 = .ok (.if_icmp .ge 23, 3) := by decide +kernel
theorem d_R_add_12 : decode prog_5_method_4_code 12 = .ok (.aload_n 0, 1) := by decide +kernel
theorem d_R_add_13 : decode prog_5_method_4_code 13 = .ok (.getfield 21, 3) := by decide +kernel
theorem d_R_add_16 : decode prog_5_method_4_code 16 = .ok (.aload_n 0, 1) := by decide +kernel
theorem d_R_add_17 : decode prog_5_method_4_code 17 = .ok (.getfield 9, 3) := by decide +kernel
theorem d_R_add_20 : decode prog_5_method_4_code 20 = .ok (.iload_n 1, 1) := by decide +kernel
theorem d_R_add_21 : decode prog_5_method_4_code 21 = .ok (.iastore, 1) := by decide +kernel
theorem d_R_add_22 : decode prog_5_method_4_code 22 = .ok (.aload_n 0, 1) := by decide +kernel
theorem d_R_add_23 : decode prog_5_method_4_code 23 = .ok (.dup, 1) := by decide +kernel
theorem d_R_add_24 : decode prog_5_method_4_code 24 = .ok (.getfield 9, 3) := by decide +kernel
theorem d_R_add_27 : decode prog_5_method_4_code 27 = .ok (.iconst 1, 1) := by decide +kernel
theorem d_R_add_28 : decode prog_5_method_4_code 28 = .ok (.iadd, 1) := by decide +kernel
theorem d_R_add_29 : decode prog_5_method_4_code 29 = .ok (.putfield 9, 3) := by decide +kernel
theorem d_R_add_32 : decode prog_5_method_4_code 32 = .ok (.return_, 1) := by decide +kernel
theorem d_R_indexOf_0 : decode prog_5_method_5_code 0 = .ok (.iconst 0, 1) := by decide +kernel
theorem d_R_indexOf_1 : decode prog_5_method_5_code 1 = .ok (.istore_n 2, 1) := by decide +kernel
theorem d_R_indexOf_2 : decode prog_5_method_5_code 2 = .ok (.iload_n 2, 1) := by decide +kernel
theorem d_R_indexOf_3 : decode prog_5_method_5_code 3 = .ok (.aload_n 0, 1) := by decide +kernel
theorem d_R_indexOf_4 : decode prog_5_method_5_code 4 = .ok (.getfield 9, 3) := by decide +kernel
theorem d_R_indexOf_7 : decode prog_5_method_5_code 7 = .ok (.if_icmp .ge 21, 3) := by decide +kernel
theorem d_R_indexOf_10 : decode prog_5_method_5_code 10 = .ok (.aload_n 0, 1) := by decide +kernel
theorem d_R_indexOf_11 : decode prog_5_method_5_code 11 = .ok (.getfield 21, 3) := by decide +kernel
theorem d_R_indexOf_14 : decode prog_5_method_5_code 14 = .ok (.iload_n 2, 1) := by decide +kernel
theorem d_R_indexOf_15 : decode prog_5_method_5_code 15 = .ok (.iaload, 1) := by decide +kernel
theorem d_R_indexOf_16 : decode prog_5_method_5_code 16 = .ok (.iload_n 1, 1) := by decide +kernel
theorem d_R_indexOf_17 : decode prog_5_method_5_code 17 = .ok (.if_icmp .ne 5, 3) := by decide +kernel
theorem d_R_indexOf_20 : decode prog_5_method_5_code 20 = .ok (.iload_n 2, 1) := by decide +kernel
theorem d_R_indexOf_21 : decode prog_5_method_5_code 21 = .ok (.ireturn, 1) := by decide +kernel
theorem d_R_indexOf_22 : decode prog_5_method_5_code 22 = .ok (.iinc 2 1, 3) := by decide +kernel
theorem d_R_indexOf_25 : decode prog_5_method_5_code 25 = .ok (.goto (-23), 3) := by decide +kernel
theorem d_R_indexOf_28 : decode prog_5_method_5_code 28 = .ok (.iconst (-1), 1) := by decide +kernel
theorem d_R_indexOf_29 : decode prog_5_method_5_code 29 = .ok (.ireturn, 1) := by decide +kernel
theorem d_R_holds_0 : decode prog_5_method_6_code 0 = .ok (.aload_n 0, 1) := by decide +kernel
theorem d_R_holds_1 : decode prog_5_method_6_code 1 = .ok (.iload_n 1, 1) := by decide +kernel
theorem d_R_holds_2 : decode prog_5_method_6_code 2 = .ok (.invokevirtual 25, 3) := by decide +kernel
theorem d_R_holds_5 : decode prog_5_method_6_code 5 = .ok (.iconst (-1), 1) := by decide +kernel
theorem d_R_holds_6 : decode prog_5_method_6_code 6 = .ok (.if_icmp .eq 7, 3) := by decide +kernel
theorem d_R_holds_9 : decode prog_5_method_6_code 9 = .ok (.iconst 1, 1) := by decide +kernel
theorem d_R_holds_10 : decode prog_5_method_6_code 10 = .ok (.goto 4, 3) := by decide +kernel
theorem d_R_holds_13 : decode prog_5_method_6_code 13 = .ok (.iconst 0, 1) := by decide +kernel
theorem d_R_holds_14 : decode prog_5_method_6_code 14 = .ok (.ireturn, 1) := by decide +kernel
theorem d_R_remove_0 : decode prog_5_method_7_code 0 = .ok (.aload_n 0, 1) := by decide +kernel
theorem d_R_remove_1 : decode prog_5_method_7_code 1 = .ok (.aload_n 0, 1) := by decide +kernel
theorem d_R_remove_2 : decode prog_5_method_7_code 2 = .ok (.iload_n 1, 1) := by decide +kernel
theorem d_R_remove_3 : decode prog_5_method_7_code 3 = .ok (.invokevirtual 25, 3) := by decide +kernel
theorem d_R_remove_6 : decode prog_5_method_7_code 6 = .ok (.invokevirtual 29, 3) := by decide +kernel
theorem d_R_remove_9 : decode prog_5_method_7_code 9 = .ok (.return_, 1) := by decide +kernel
theorem d_R_takeFirst_0 : decode prog_5_method_8_code 0 = .ok (.aload_n 0, 1) := by decide +kernel
theorem d_R_takeFirst_1 : decode prog_5_method_8_code 1 = .ok (.iconst 0, 1) := by decide +kernel
theorem d_R_takeFirst_2 : decode prog_5_method_8_code 2 = .ok (.invokevirtual 33, 3) := by decide +kernel
theorem d_R_takeFirst_5 : decode prog_5_method_8_code 5 = .ok (.istore_n 1, 1) := by decide +kernel
theorem d_R_takeFirst_6 : decode prog_5_method_8_code 6 = .ok (.aload_n 0, 1) := by decide +kernel
theorem d_R_takeFirst_7 : decode prog_5_method_8_code 7 = .ok (.iconst 0, 1) := by decide +kernel
theorem d_R_takeFirst_8 : decode prog_5_method_8_code 8 = .ok (.invokevirtual 29, 3) := by decide +kernel
theorem d_R_takeFirst_11 : decode prog_5_method_8_code 11 = .ok (.iload_n 1, 1) := by decide +kernel
theorem d_R_takeFirst_12 : decode prog_5_method_8_code 12 = .ok (.ireturn, 1) := by decide +kernel
theorem d_R_removeAt_0 : decode prog_5_method_9_code 0 = .ok (.iload_n 1, 1) := by decide +kernel
theorem d_R_removeAt_1 : decode prog_5_method_9_code 1 = .ok (.ifCond .lt 11, 3) := by decide +kernel
theorem d_R_removeAt_4 : decode prog_5_method_9_code 4 = .ok (.iload_n 1, 1) := by decide +kernel
theorem d_R_removeAt_5 : decode prog_5_method_9_code 5 = .ok (.aload_n 0, 1) := by decide +kernel
theorem d_R_removeAt_6 : decode prog_5_method_9_code 6 = .ok (.getfield 9, 3) := by decide +kernel
theorem d_R_removeAt_9 : decode prog_5_method_9_code 9 = .ok (.if_icmp .lt 4, 3) := by decide +kernel
theorem d_R_removeAt_12 : decode prog_5_method_9_code 12 = .ok (.return_, 1) := by decide +kernel
theorem d_R_removeAt_13 : decode prog_5_method_9_code 13 = .ok (.aload_n 0, 1) := by decide +kernel
theorem d_R_removeAt_14 : decode prog_5_method_9_code 14 = .ok (.dup, 1) := by decide +kernel
theorem d_R_removeAt_15 : decode prog_5_method_9_code 15 = .ok (.getfield 9, 3) := by decide +kernel
theorem d_R_removeAt_18 : decode prog_5_method_9_code 18 = .ok (.iconst 1, 1) := by decide +kernel
theorem d_R_removeAt_19 : decode prog_5_method_9_code 19 = .ok (.isub, 1) := by decide +kernel
theorem d_R_removeAt_20 : decode prog_5_method_9_code 20 = .ok (.putfield 9, 3) := by decide +kernel
theorem d_R_removeAt_23 : decode prog_5_method_9_code 23 = .ok (.iload_n 1, 1) := by decide +kernel
theorem d_R_removeAt_24 : decode prog_5_method_9_code 24 = .ok (.istore_n 2, 1) := by decide +kernel
theorem d_R_removeAt_25 : decode prog_5_method_9_code 25 = .ok (.iload_n 2, 1) := by decide +kernel
theorem d_R_removeAt_26 : decode prog_5_method_9_code 26 = .ok (.aload_n 0, 1) := by decide +kernel
theorem d_R_removeAt_27 : decode prog_5_method_9_code 27 = .ok (.getfield 9, 3) := by decide +kernel
theorem d_R_removeAt_30 : decode prog_5_method_9_code 30 = .ok (.if_icmp .ge 23, 3) := by decide +kernel
theorem d_R_removeAt_33 : decode prog_5_method_9_code 33 = .ok (.aload_n 0, 1) := by decide +kernel
theorem d_R_removeAt_34 : decode prog_5_method_9_code 34 = .ok (.getfield 21, 3) := by decide +kernel
theorem d_R_removeAt_37 : decode prog_5_method_9_code 37 = .ok (.iload_n 2, 1) := by decide +kernel
theorem d_R_removeAt_38 : decode prog_5_method_9_code 38 = .ok (.aload_n 0, 1) := by decide +kernel
theorem d_R_removeAt_39 : decode prog_5_method_9_code 39 = .ok (.getfield 21, 3) := by decide +kernel
theorem d_R_removeAt_42 : decode prog_5_method_9_code 42 = .ok (.iload_n 2, 1) := by decide +kernel
theorem d_R_removeAt_43 : decode prog_5_method_9_code 43 = .ok (.iconst 1, 1) := by decide +kernel
theorem d_R_removeAt_44 : decode prog_5_method_9_code 44 = .ok (.iadd, 1) := by decide +kernel
theorem d_R_removeAt_45 : decode prog_5_method_9_code 45 = .ok (.iaload, 1) := by decide +kernel
theorem d_R_removeAt_46 : decode prog_5_method_9_code 46 = .ok (.iastore, 1) := by decide +kernel
theorem d_R_removeAt_47 : decode prog_5_method_9_code 47 = .ok (.iinc 2 1, 3) := by decide +kernel
theorem d_R_removeAt_50 : decode prog_5_method_9_code 50 = .ok (.goto (-25), 3) := by decide +kernel
theorem d_R_removeAt_53 : decode prog_5_method_9_code 53 = .ok (.return_, 1) := by decide +kernel
theorem d_T_init_0 : decode prog_6_method_1_code 0 = .ok (.aload_n 0, 1) := by decide +kernel
theorem d_T_init_1 : decode prog_6_method_1_code 1 = .ok (.invokespecial 3, 3) := by decide +kernel
theorem d_T_init_4 : decode prog_6_method_1_code 4 = .ok (.aload_n 0, 1) := by decide +kernel
theorem d_T_init_5 : decode prog_6_method_1_code 5 = .ok (.iconst 1, 1) := by decide +kernel
theorem d_T_init_6 : decode prog_6_method_1_code 6 = .ok (.putfield 9, 3) := by decide +kernel
theorem d_T_init_9 : decode prog_6_method_1_code 9 = .ok (.aload_n 0, 1) := by decide +kernel
theorem d_T_init_10 : decode prog_6_method_1_code 10 = .ok (.iconst 0, 1) := by decide +kernel
theorem d_T_init_11 : decode prog_6_method_1_code 11 = .ok (.putfield 15, 3) := by decide +kernel
theorem d_T_init_14 : decode prog_6_method_1_code 14 = .ok (.aload_n 0, 1) := by decide +kernel
theorem d_T_init_15 : decode prog_6_method_1_code 15 = .ok (.iconst 0, 1) := by decide +kernel
theorem d_T_init_16 : decode prog_6_method_1_code 16 = .ok (.putfield 18, 3) := by decide +kernel
theorem d_T_init_19 : decode prog_6_method_1_code 19 = .ok (.aload_n 0, 1) := by decide +kernel
theorem d_T_init_20 : decode prog_6_method_1_code 20 = .ok (.iconst 4, 1) := by decide +kernel
theorem d_T_init_21 : decode prog_6_method_1_code 21 = .ok (.putfield 21, 3) := by decide +kernel
theorem d_T_init_24 : decode prog_6_method_1_code 24 = .ok (.aload_n 0, 1) := by decide +kernel
theorem d_T_init_25 : decode prog_6_method_1_code 25 = .ok (.iconst 0, 1) := by decide +kernel
theorem d_T_init_26 : decode prog_6_method_1_code 26 = .ok (.putfield 24, 3) := by decide +kernel
theorem d_T_init_29 : decode prog_6_method_1_code 29 = .ok (.aload_n 0, 1) := by decide +kernel
theorem d_T_init_30 : decode prog_6_method_1_code 30 = .ok (.bipush 12, 2) := by decide +kernel
theorem d_T_init_32 : decode prog_6_method_1_code 32 = .ok (.newarray .int, 2) := by decide +kernel
theorem d_T_init_34 : decode prog_6_method_1_code 34 = .ok (.putfield 28, 3) := by decide +kernel
theorem d_T_init_37 : decode prog_6_method_1_code 37 = .ok (.aload_n 0, 1) := by decide +kernel
theorem d_T_init_38 : decode prog_6_method_1_code 38 = .ok (.bipush 12, 2) := by decide +kernel
theorem d_T_init_40 : decode prog_6_method_1_code 40 = .ok (.newarray .int, 2) := by decide +kernel
theorem d_T_init_42 : decode prog_6_method_1_code 42 = .ok (.putfield 32, 3) := by decide +kernel
theorem d_T_init_45 : decode prog_6_method_1_code 45 = .ok (.aload_n 0, 1) := by decide +kernel
theorem d_T_init_46 : decode prog_6_method_1_code 46 = .ok (.bipush 12, 2) := by decide +kernel
theorem d_T_init_48 : decode prog_6_method_1_code 48 = .ok (.newarray .int, 2) := by decide +kernel
theorem d_T_init_50 : decode prog_6_method_1_code 50 = .ok (.putfield 35, 3) := by decide +kernel
theorem d_T_init_53 : decode prog_6_method_1_code 53 = .ok (.aload_n 0, 1) := by decide +kernel
theorem d_T_init_54 : decode prog_6_method_1_code 54 = .ok (.iload_n 1, 1) := by decide +kernel
theorem d_T_init_55 : decode prog_6_method_1_code 55 = .ok (.putfield 38, 3) := by decide +kernel
theorem d_T_init_58 : decode prog_6_method_1_code 58 = .ok (.aload_n 0, 1) := by decide +kernel
theorem d_T_init_59 : decode prog_6_method_1_code 59 = .ok (.iload_n 2, 1) := by decide +kernel
theorem d_T_init_60 : decode prog_6_method_1_code 60 = .ok (.putfield 41, 3) := by decide +kernel
theorem d_T_init_63 : decode prog_6_method_1_code 63 = .ok (.aload_n 0, 1) := by decide +kernel
theorem d_T_init_64 : decode prog_6_method_1_code 64 = .ok (.aload_n 3, 1) := by decide +kernel
theorem d_T_init_65 : decode prog_6_method_1_code 65 = .ok (.putfield 44, 3) := by decide +kernel
theorem d_T_init_68 : decode prog_6_method_1_code 68 = .ok (.iconst 0, 1) := by decide +kernel
theorem d_T_init_69 : decode prog_6_method_1_code 69 = .ok (.istore 4, 2) := by decide +kernel
theorem d_T_init_71 : decode prog_6_method_1_code 71 = .ok (.iload 4, 2) := by decide +kernel
theorem d_T_init_73 : decode prog_6_method_1_code 73 = .ok (.bipush 12, 2) := by decide +kernel
theorem d_T_init_75 : decode prog_6_method_1_code 75 = .ok (.if_icmp .ge 17, 3) := by decide +kernel
theorem d_T_init_78 : decode prog_6_method_1_code 78 = .ok (.aload_n 0, 1) := by decide +kernel
theorem d_T_init_79 : decode prog_6_method_1_code 79 = .ok (.getfield 35, 3) := by decide +kernel
theorem d_T_init_82 : decode prog_6_method_1_code 82 = .ok (.iload 4, 2) := by decide +kernel
theorem d_T_init_84 : decode prog_6_method_1_code 84 = .ok (.iconst (-1), 1) := by decide +kernel
theorem d_T_init_85 : decode prog_6_method_1_code 85 = .ok (.iastore, 1) := by decide +kernel
theorem d_T_init_86 : decode prog_6_method_1_code 86 = .ok (.iinc 4 1, 3) := by decide +kernel
theorem d_T_init_89 : decode prog_6_method_1_code 89 = .ok (.goto (-18), 3) := by decide +kernel
theorem d_T_init_92 : decode prog_6_method_1_code 92 = .ok (.return_, 1) := by decide +kernel
theorem d_T_hasEnded_0 : decode prog_6_method_2_code 0 = .ok (.aload_n 0, 1) := by decide +kernel
theorem d_T_hasEnded_1 : decode prog_6_method_2_code 1 = .ok (.getfield 9, 3) := by decide +kernel
theorem d_T_hasEnded_4 : decode prog_6_method_2_code 4 = .ok (.iconst 2, 1) := by decide +kernel
theorem d_T_hasEnded_5 : decode prog_6_method_2_code 5 = .ok (.if_icmp .eq 19, 3) := by decide +kernel
theorem d_T_hasEnded_8 : decode prog_6_method_2_code 8 = .ok (.aload_n 0, 1) := by decide +kernel
theorem d_T_hasEnded_9 : decode prog_6_method_2_code 9 = .ok (.getfield 9, 3) := by decide +kernel
theorem d_T_hasEnded_12 : decode prog_6_method_2_code 12 = .ok (.iconst 3, 1) := by decide +kernel
theorem d_T_hasEnded_13 : decode prog_6_method_2_code 13 = .ok (.if_icmp .eq 11, 3) := by decide +kernel
theorem d_T_hasEnded_16 : decode prog_6_method_2_code 16 = .ok (.aload_n 0, 1) := by decide +kernel
theorem d_T_hasEnded_17 : decode prog_6_method_2_code 17 = .ok (.getfield 9, 3) := by decide +kernel
theorem d_T_hasEnded_20 : decode prog_6_method_2_code 20 = .ok (.iconst 4, 1) := by decide +kernel
theorem d_T_hasEnded_21 : decode prog_6_method_2_code 21 = .ok (.if_icmp .ne 7, 3) := by decide +kernel
theorem d_T_hasEnded_24 : decode prog_6_method_2_code 24 = .ok (.iconst 1, 1) := by decide +kernel
theorem d_T_hasEnded_25 : decode prog_6_method_2_code 25 = .ok (.goto 4, 3) := by decide +kernel
theorem d_T_hasEnded_28 : decode prog_6_method_2_code 28 = .ok (.iconst 0, 1) := by decide +kernel
theorem d_T_hasEnded_29 : decode prog_6_method_2_code 29 = .ok (.ireturn, 1) := by decide +kernel
theorem d_T_placeOf_0 : decode prog_6_method_3_code 0 = .ok (.aload_n 0, 1) := by decide +kernel
theorem d_T_placeOf_1 : decode prog_6_method_3_code 1 = .ok (.getfield 38, 3) := by decide +kernel
theorem d_T_placeOf_4 : decode prog_6_method_3_code 4 = .ok (.bipush 12, 2) := by decide +kernel
theorem d_T_placeOf_6 : decode prog_6_method_3_code 6 = .ok (.imul, 1) := by decide +kernel
theorem d_T_placeOf_7 : decode prog_6_method_3_code 7 = .ok (.iload_n 1, 1) := by decide +kernel
theorem d_T_placeOf_8 : decode prog_6_method_3_code 8 = .ok (.iadd, 1) := by decide +kernel
theorem d_T_placeOf_9 : decode prog_6_method_3_code 9 = .ok (.ireturn, 1) := by decide +kernel
theorem d_T_phaseOf_0 : decode prog_6_method_4_code 0 = .ok (.aload_n 0, 1) := by decide +kernel
theorem d_T_phaseOf_1 : decode prog_6_method_4_code 1 = .ok (.getfield 44, 3) := by decide +kernel
theorem d_T_phaseOf_4 : decode prog_6_method_4_code 4 = .ok (.iload_n 1, 1) := by decide +kernel
theorem d_T_phaseOf_5 : decode prog_6_method_4_code 5 = .ok (.invokevirtual 48, 3) := by decide +kernel
theorem d_T_phaseOf_8 : decode prog_6_method_4_code 8 = .ok (.ifCond .eq 12, 3) := by decide +kernel
theorem d_T_phaseOf_11 : decode prog_6_method_4_code 11 = .ok (.aload_n 0, 1) := by decide +kernel
theorem d_T_phaseOf_12 : decode prog_6_method_4_code 12 = .ok (.getfield 28, 3) := by decide +kernel
theorem d_T_phaseOf_15 : decode prog_6_method_4_code 15 = .ok (.iload_n 1, 1) := by decide +kernel
theorem d_T_phaseOf_16 : decode prog_6_method_4_code 16 = .ok (.iaload, 1) := by decide +kernel
theorem d_T_phaseOf_17 : decode prog_6_method_4_code 17 = .ok (.goto 4, 3) := by decide +kernel
theorem d_T_phaseOf_20 : decode prog_6_method_4_code 20 = .ok (.iconst 0, 1) := by decide +kernel
theorem d_T_phaseOf_21 : decode prog_6_method_4_code 21 = .ok (.ireturn, 1) := by decide +kernel
theorem d_T_resultOf_0 : decode prog_6_method_5_code 0 = .ok (.aload_n 0, 1) := by decide +kernel
theorem d_T_resultOf_1 : decode prog_6_method_5_code 1 = .ok (.getfield 44, 3) := by decide +kernel
theorem d_T_resultOf_4 : decode prog_6_method_5_code 4 = .ok (.iload_n 1, 1) := by decide +kernel
theorem d_T_resultOf_5 : decode prog_6_method_5_code 5 = .ok (.invokevirtual 48, 3) := by decide +kernel
theorem d_T_resultOf_8 : decode prog_6_method_5_code 8 = .ok (.ifCond .eq 12, 3) := by decide +kernel
theorem d_T_resultOf_11 : decode prog_6_method_5_code 11 = .ok (.aload_n 0, 1) := by decide +kernel
theorem d_T_resultOf_12 : decode prog_6_method_5_code 12 = .ok (.getfield 32, 3) := by decide +kernel
theorem d_T_resultOf_15 : decode prog_6_method_5_code 15 = .ok (.iload_n 1, 1) := by decide +kernel
theorem d_T_resultOf_16 : decode prog_6_method_5_code 16 = .ok (.iaload, 1) := by decide +kernel
theorem d_T_resultOf_17 : decode prog_6_method_5_code 17 = .ok (.goto 4, 3) := by decide +kernel
theorem d_T_resultOf_20 : decode prog_6_method_5_code 20 = .ok (.iconst 0, 1) := by decide +kernel
theorem d_T_resultOf_21 : decode prog_6_method_5_code 21 = .ok (.ireturn, 1) := by decide +kernel
theorem d_T_makeReady_0 : decode prog_6_method_6_code 0 = .ok (.aload_n 0, 1) := by decide +kernel
theorem d_T_makeReady_1 : decode prog_6_method_6_code 1 = .ok (.getfield 28, 3) := by decide +kernel
theorem d_T_makeReady_4 : decode prog_6_method_6_code 4 = .ok (.iload_n 1, 1) := by decide +kernel
theorem d_T_makeReady_5 : decode prog_6_method_6_code 5 = .ok (.iconst 2, 1) := by decide +kernel
theorem d_T_makeReady_6 : decode prog_6_method_6_code 6 = .ok (.iastore, 1) := by decide +kernel
theorem d_T_makeReady_7 : decode prog_6_method_6_code 7 = .ok (.aload_n 0, 1) := by decide +kernel
theorem d_T_makeReady_8 : decode prog_6_method_6_code 8 = .ok (.getfield 32, 3) := by decide +kernel
theorem d_T_makeReady_11 : decode prog_6_method_6_code 11 = .ok (.iload_n 1, 1) := by decide +kernel
theorem d_T_makeReady_12 : decode prog_6_method_6_code 12 = .ok (.iload_n 2, 1) := by decide +kernel
theorem d_T_makeReady_13 : decode prog_6_method_6_code 13 = .ok (.iastore, 1) := by decide +kernel
theorem d_T_makeReady_14 : decode prog_6_method_6_code 14 = .ok (.return_, 1) := by decide +kernel
theorem d_T_makeBroken_0 : decode prog_6_method_7_code 0 = .ok (.aload_n 0, 1) := by decide +kernel
theorem d_T_makeBroken_1 : decode prog_6_method_7_code 1 = .ok (.getfield 28, 3) := by decide +kernel
theorem d_T_makeBroken_4 : decode prog_6_method_7_code 4 = .ok (.iload_n 1, 1) := by decide +kernel
theorem d_T_makeBroken_5 : decode prog_6_method_7_code 5 = .ok (.iconst 3, 1) := by decide +kernel
theorem d_T_makeBroken_6 : decode prog_6_method_7_code 6 = .ok (.iastore, 1) := by decide +kernel
theorem d_T_makeBroken_7 : decode prog_6_method_7_code 7 = .ok (.aload_n 0, 1) := by decide +kernel
theorem d_T_makeBroken_8 : decode prog_6_method_7_code 8 = .ok (.getfield 32, 3) := by decide +kernel
theorem d_T_makeBroken_11 : decode prog_6_method_7_code 11 = .ok (.iload_n 1, 1) := by decide +kernel
theorem d_T_makeBroken_12 : decode prog_6_method_7_code 12 = .ok (.iload_n 2, 1) := by decide +kernel
theorem d_T_makeBroken_13 : decode prog_6_method_7_code 13 = .ok (.iastore, 1) := by decide +kernel
theorem d_T_makeBroken_14 : decode prog_6_method_7_code 14 = .ok (.return_, 1) := by decide +kernel
theorem d_T_follow_0 : decode prog_6_method_8_code 0 = .ok (.aload_n 0, 1) := by decide +kernel
theorem d_T_follow_1 : decode prog_6_method_8_code 1 = .ok (.getfield 28, 3) := by decide +kernel
theorem d_T_follow_4 : decode prog_6_method_8_code 4 = .ok (.iload_n 1, 1) := by decide +kernel
theorem d_T_follow_5 : decode prog_6_method_8_code 5 = .ok (.aload_n 0, 1) := by decide +kernel
theorem d_T_follow_6 : decode prog_6_method_8_code 6 = .ok (.iload_n 2, 1) := by decide +kernel
theorem d_T_follow_7 : decode prog_6_method_8_code 7 = .ok (.invokevirtual 54, 3) := by decide +kernel
theorem d_T_follow_10 : decode prog_6_method_8_code 10 = .ok (.iastore, 1) := by decide +kernel
theorem d_T_follow_11 : decode prog_6_method_8_code 11 = .ok (.aload_n 0, 1) := by decide +kernel
theorem d_T_follow_12 : decode prog_6_method_8_code 12 = .ok (.getfield 32, 3) := by decide +kernel
theorem d_T_follow_15 : decode prog_6_method_8_code 15 = .ok (.iload_n 1, 1) := by decide +kernel
theorem d_T_follow_16 : decode prog_6_method_8_code 16 = .ok (.aload_n 0, 1) := by decide +kernel
theorem d_T_follow_17 : decode prog_6_method_8_code 17 = .ok (.iload_n 2, 1) := by decide +kernel
theorem d_T_follow_18 : decode prog_6_method_8_code 18 = .ok (.invokevirtual 58, 3) := by decide +kernel
theorem d_T_follow_21 : decode prog_6_method_8_code 21 = .ok (.iastore, 1) := by decide +kernel
theorem d_T_follow_22 : decode prog_6_method_8_code 22 = .ok (.return_, 1) := by decide +kernel
theorem d_T_end_0 : decode prog_6_method_9_code 0 = .ok (.aload_n 0, 1) := by decide +kernel
theorem d_T_end_1 : decode prog_6_method_9_code 1 = .ok (.aload_n 0, 1) := by decide +kernel
theorem d_T_end_2 : decode prog_6_method_9_code 2 = .ok (.iconst 0, 1) := by decide +kernel
theorem d_T_end_3 : decode prog_6_method_9_code 3 = .ok (.invokevirtual 54, 3) := by decide +kernel
theorem d_T_end_6 : decode prog_6_method_9_code 6 = .ok (.iconst 2, 1) := by decide +kernel
theorem d_T_end_7 : decode prog_6_method_9_code 7 = .ok (.if_icmp .ne 7, 3) := by decide +kernel
theorem d_T_end_10 : decode prog_6_method_9_code 10 = .ok (.iconst 2, 1) := by decide +kernel
theorem d_T_end_11 : decode prog_6_method_9_code 11 = .ok (.goto 4, 3) := by decide +kernel
theorem d_T_end_14 : decode prog_6_method_9_code 14 = .ok (.iconst 3, 1) := by decide +kernel
theorem d_T_end_15 : decode prog_6_method_9_code 15 = .ok (.putfield 9, 3) := by decide +kernel
theorem d_T_end_18 : decode prog_6_method_9_code 18 = .ok (.aload_n 0, 1) := by decide +kernel
theorem d_T_end_19 : decode prog_6_method_9_code 19 = .ok (.aload_n 0, 1) := by decide +kernel
theorem d_T_end_20 : decode prog_6_method_9_code 20 = .ok (.iconst 0, 1) := by decide +kernel
theorem d_T_end_21 : decode prog_6_method_9_code 21 = .ok (.invokevirtual 58, 3) := by decide +kernel
theorem d_T_end_24 : decode prog_6_method_9_code 24 = .ok (.putfield 15, 3) := by decide +kernel
theorem d_T_end_27 : decode prog_6_method_9_code 27 = .ok (.return_, 1) := by decide +kernel
theorem d_T_reaps_0 : decode prog_6_method_10_code 0 = .ok (.iconst 0, 1) := by decide +kernel
theorem d_T_reaps_1 : decode prog_6_method_10_code 1 = .ok (.istore_n 2, 1) := by decide +kernel
theorem d_T_reaps_2 : decode prog_6_method_10_code 2 = .ok (.iload_n 2, 1) := by decide +kernel
theorem d_T_reaps_3 : decode prog_6_method_10_code 3 = .ok (.aload_n 0, 1) := by decide +kernel
theorem d_T_reaps_4 : decode prog_6_method_10_code 4 = .ok (.getfield 44, 3) := by decide +kernel
theorem d_T_reaps_7 : decode prog_6_method_10_code 7 = .ok (.getfield 61, 3) := by decide +kernel
theorem d_T_reaps_10 : decode prog_6_method_10_code 10 = .ok (.if_icmp .ge 67, 3) := by decide +kernel
theorem d_T_reaps_13 : decode prog_6_method_10_code 13 = .ok (.aload_n 0, 1) := by decide +kernel
theorem d_T_reaps_14 : decode prog_6_method_10_code 14 = .ok (.getfield 44, 3) := by decide +kernel
theorem d_T_reaps_17 : decode prog_6_method_10_code 17 = .ok (.getfield 64, 3) := by decide +kernel
theorem d_T_reaps_20 : decode prog_6_method_10_code 20 = .ok (.iload_n 2, 1) := by decide +kernel
theorem d_T_reaps_21 : decode prog_6_method_10_code 21 = .ok (.iaload, 1) := by decide +kernel
theorem d_T_reaps_22 : decode prog_6_method_10_code 22 = .ok (.bipush 8, 2) := by decide +kernel
theorem d_T_reaps_24 : decode prog_6_method_10_code 24 = .ok (.if_icmp .ne 28, 3) := by decide +kernel
theorem d_T_reaps_27 : decode prog_6_method_10_code 27 = .ok (.aload_n 0, 1) := by decide +kernel
theorem d_T_reaps_28 : decode prog_6_method_10_code 28 = .ok (.getfield 28, 3) := by decide +kernel
theorem d_T_reaps_31 : decode prog_6_method_10_code 31 = .ok (.iload_n 2, 1) := by decide +kernel
theorem d_T_reaps_32 : decode prog_6_method_10_code 32 = .ok (.iaload, 1) := by decide +kernel
theorem d_T_reaps_33 : decode prog_6_method_10_code 33 = .ok (.iconst 1, 1) := by decide +kernel
theorem d_T_reaps_34 : decode prog_6_method_10_code 34 = .ok (.if_icmp .ne 18, 3) := by decide +kernel
theorem d_T_reaps_37 : decode prog_6_method_10_code 37 = .ok (.aload_n 0, 1) := by decide +kernel
theorem d_T_reaps_38 : decode prog_6_method_10_code 38 = .ok (.iload_n 2, 1) := by decide +kernel
theorem d_T_reaps_39 : decode prog_6_method_10_code 39 = .ok (.iconst 1, 1) := by decide +kernel
theorem d_T_reaps_40 : decode prog_6_method_10_code 40 = .ok (.iadd, 1) := by decide +kernel
theorem d_T_reaps_41 : decode prog_6_method_10_code 41 = .ok (.invokevirtual 54, 3) := by decide +kernel
theorem d_T_reaps_44 : decode prog_6_method_10_code 44 = .ok (.iconst 2, 1) := by decide +kernel
theorem d_T_reaps_45 : decode prog_6_method_10_code 45 = .ok (.if_icmp .ne 7, 3) := by decide +kernel
theorem d_T_reaps_48 : decode prog_6_method_10_code 48 = .ok (.iconst 1, 1) := by decide +kernel
theorem d_T_reaps_49 : decode prog_6_method_10_code 49 = .ok (.goto 4, 3) := by decide +kernel
theorem d_T_reaps_52 : decode prog_6_method_10_code 52 = .ok (.iconst 0, 1) := by decide +kernel
theorem d_T_reaps_53 : decode prog_6_method_10_code 53 = .ok (.istore_n 3, 1) := by decide +kernel
theorem d_T_reaps_54 : decode prog_6_method_10_code 54 = .ok (.iload_n 3, 1) := by decide +kernel
theorem d_T_reaps_55 : decode prog_6_method_10_code 55 = .ok (.ifCond .eq 16, 3) := by decide +kernel
theorem d_T_reaps_58 : decode prog_6_method_10_code 58 = .ok (.aload_n 0, 1) := by decide +kernel
theorem d_T_reaps_59 : decode prog_6_method_10_code 59 = .ok (.iload_n 2, 1) := by decide +kernel
theorem d_T_reaps_60 : decode prog_6_method_10_code 60 = .ok (.iconst 1, 1) := by decide +kernel
theorem d_T_reaps_61 : decode prog_6_method_10_code 61 = .ok (.iadd, 1) := by decide +kernel
theorem d_T_reaps_62 : decode prog_6_method_10_code 62 = .ok (.invokevirtual 58, 3) := by decide +kernel
theorem d_T_reaps_65 : decode prog_6_method_10_code 65 = .ok (.iload_n 1, 1) := by decide +kernel
theorem d_T_reaps_66 : decode prog_6_method_10_code 66 = .ok (.if_icmp .ne 5, 3) := by decide +kernel
theorem d_T_reaps_69 : decode prog_6_method_10_code 69 = .ok (.iconst 1, 1) := by decide +kernel
theorem d_T_reaps_70 : decode prog_6_method_10_code 70 = .ok (.ireturn, 1) := by decide +kernel
theorem d_T_reaps_71 : decode prog_6_method_10_code 71 = .ok (.iinc 2 1, 3) := by decide +kernel
theorem d_T_reaps_74 : decode prog_6_method_10_code 74 = .ok (.goto (-72), 3) := by decide +kernel
theorem d_T_reaps_77 : decode prog_6_method_10_code 77 = .ok (.iconst 0, 1) := by decide +kernel
theorem d_T_reaps_78 : decode prog_6_method_10_code 78 = .ok (.ireturn, 1) := by decide +kernel
theorem d_T_isDueAt_0 : decode prog_6_method_11_code 0 = .ok (.iconst 0, 1) := by decide +kernel
theorem d_T_isDueAt_1 : decode prog_6_method_11_code 1 = .ok (.istore_n 2, 1) := by decide +kernel
theorem d_T_isDueAt_2 : decode prog_6_method_11_code 2 = .ok (.iload_n 2, 1) := by decide +kernel
theorem d_T_isDueAt_3 : decode prog_6_method_11_code 3 = .ok (.aload_n 0, 1) := by decide +kernel
theorem d_T_isDueAt_4 : decode prog_6_method_11_code 4 = .ok (.getfield 44, 3) := by decide +kernel
theorem d_T_isDueAt_7 : decode prog_6_method_11_code 7 = .ok (.getfield 61, 3) := by decide +kernel
theorem d_T_isDueAt_10 : decode prog_6_method_11_code 10 = .ok (.if_icmp .ge 110, 3) := by decide +kernel
theorem d_T_isDueAt_13 : decode prog_6_method_11_code 13 = .ok (.aload_n 0, 1) := by decide +kernel
theorem d_T_isDueAt_14 : decode prog_6_method_11_code 14 = .ok (.getfield 44, 3) := by decide +kernel
theorem d_T_isDueAt_17 : decode prog_6_method_11_code 17 = .ok (.getfield 64, 3) := by decide +kernel
theorem d_T_isDueAt_20 : decode prog_6_method_11_code 20 = .ok (.iload_n 2, 1) := by decide +kernel
theorem d_T_isDueAt_21 : decode prog_6_method_11_code 21 = .ok (.iaload, 1) := by decide +kernel
theorem d_T_isDueAt_22 : decode prog_6_method_11_code 22 = .ok (.iconst 2, 1) := by decide +kernel
theorem d_T_isDueAt_23 : decode prog_6_method_11_code 23 = .ok (.if_icmp .eq 17, 3) := by decide +kernel
theorem d_T_isDueAt_26 : decode prog_6_method_11_code 26 = .ok (.aload_n 0, 1) := by decide +kernel
theorem d_T_isDueAt_27 : decode prog_6_method_11_code 27 = .ok (.getfield 44, 3) := by decide +kernel
theorem d_T_isDueAt_30 : decode prog_6_method_11_code 30 = .ok (.getfield 64, 3) := by decide +kernel
theorem d_T_isDueAt_33 : decode prog_6_method_11_code 33 = .ok (.iload_n 2, 1) := by decide +kernel
theorem d_T_isDueAt_34 : decode prog_6_method_11_code 34 = .ok (.iaload, 1) := by decide +kernel
theorem d_T_isDueAt_35 : decode prog_6_method_11_code 35 = .ok (.bipush 13, 2) := by decide +kernel
theorem d_T_isDueAt_37 : decode prog_6_method_11_code 37 = .ok (.if_icmp .ne 7, 3) := by decide +kernel
theorem d_T_isDueAt_40 : decode prog_6_method_11_code 40 = .ok (.iconst 1, 1) := by decide +kernel
theorem d_T_isDueAt_41 : decode prog_6_method_11_code 41 = .ok (.goto 4, 3) := by decide +kernel
theorem d_T_isDueAt_44 : decode prog_6_method_11_code 44 = .ok (.iconst 0, 1) := by decide +kernel
theorem d_T_isDueAt_45 : decode prog_6_method_11_code 45 = .ok (.istore_n 3, 1) := by decide +kernel
theorem d_T_isDueAt_46 : decode prog_6_method_11_code 46 = .ok (.aload_n 0, 1) := by decide +kernel
theorem d_T_isDueAt_47 : decode prog_6_method_11_code 47 = .ok (.getfield 35, 3) := by decide +kernel
theorem d_T_isDueAt_50 : decode prog_6_method_11_code 50 = .ok (.iload_n 2, 1) := by decide +kernel
theorem d_T_isDueAt_51 : decode prog_6_method_11_code 51 = .ok (.iaload, 1) := by decide +kernel
theorem d_T_isDueAt_52 : decode prog_6_method_11_code 52 = .ok (.iconst (-1), 1) := by decide +kernel
theorem d_T_isDueAt_53 : decode prog_6_method_11_code 53 = .ok (.if_icmp .eq 27, 3) := by decide +kernel
theorem d_T_isDueAt_56 : decode prog_6_method_11_code 56 = .ok (.aload_n 0, 1) := by decide +kernel
theorem d_T_isDueAt_57 : decode prog_6_method_11_code 57 = .ok (.getfield 28, 3) := by decide +kernel
theorem d_T_isDueAt_60 : decode prog_6_method_11_code 60 = .ok (.iload_n 2, 1) := by decide +kernel
theorem d_T_isDueAt_61 : decode prog_6_method_11_code 61 = .ok (.iaload, 1) := by decide +kernel
theorem d_T_isDueAt_62 : decode prog_6_method_11_code 62 = .ok (.iconst 2, 1) := by decide +kernel
theorem d_T_isDueAt_63 : decode prog_6_method_11_code 63 = .ok (.if_icmp .eq 17, 3) := by decide +kernel
theorem d_T_isDueAt_66 : decode prog_6_method_11_code 66 = .ok (.aload_n 0, 1) := by decide +kernel
theorem d_T_isDueAt_67 : decode prog_6_method_11_code 67 = .ok (.getfield 28, 3) := by decide +kernel
theorem d_T_isDueAt_70 : decode prog_6_method_11_code 70 = .ok (.iload_n 2, 1) := by decide +kernel
theorem d_T_isDueAt_71 : decode prog_6_method_11_code 71 = .ok (.iaload, 1) := by decide +kernel
theorem d_T_isDueAt_72 : decode prog_6_method_11_code 72 = .ok (.iconst 4, 1) := by decide +kernel
theorem d_T_isDueAt_73 : decode prog_6_method_11_code 73 = .ok (.if_icmp .eq 7, 3) := by decide +kernel
theorem d_T_isDueAt_76 : decode prog_6_method_11_code 76 = .ok (.iconst 1, 1) := by decide +kernel
theorem d_T_isDueAt_77 : decode prog_6_method_11_code 77 = .ok (.goto 4, 3) := by decide +kernel
theorem d_T_isDueAt_80 : decode prog_6_method_11_code 80 = .ok (.iconst 0, 1) := by decide +kernel
theorem d_T_isDueAt_81 : decode prog_6_method_11_code 81 = .ok (.istore 4, 2) := by decide +kernel
theorem d_T_isDueAt_83 : decode prog_6_method_11_code 83 = .ok (.iload_n 3, 1) := by decide +kernel
theorem d_T_isDueAt_84 : decode prog_6_method_11_code 84 = .ok (.ifCond .eq 30, 3) := by decide +kernel
theorem d_T_isDueAt_87 : decode prog_6_method_11_code 87 = .ok (.iload 4, 2) := by decide +kernel
theorem d_T_isDueAt_89 : decode prog_6_method_11_code 89 = .ok (.ifCond .eq 25, 3) := by decide +kernel
theorem d_T_isDueAt_92 : decode prog_6_method_11_code 92 = .ok (.iload_n 1, 1) := by decide +kernel
theorem d_T_isDueAt_93 : decode prog_6_method_11_code 93 = .ok (.aload_n 0, 1) := by decide +kernel
theorem d_T_isDueAt_94 : decode prog_6_method_11_code 94 = .ok (.getfield 35, 3) := by decide +kernel
theorem d_T_isDueAt_97 : decode prog_6_method_11_code 97 = .ok (.iload_n 2, 1) := by decide +kernel
theorem d_T_isDueAt_98 : decode prog_6_method_11_code 98 = .ok (.iaload, 1) := by decide +kernel
theorem d_T_isDueAt_99 : decode prog_6_method_11_code 99 = .ok (.isub, 1) := by decide +kernel
theorem d_T_isDueAt_100 : decode prog_6_method_11_code 100 = .ok (.aload_n 0, 1) := by decide +kernel
theorem d_T_isDueAt_101 : decode prog_6_method_11_code 101 = .ok (.getfield 44, 3) := by decide +kernel
theorem d_T_isDueAt_104 : decode prog_6_method_11_code 104 = .ok (.getfield 67, 3) := by decide +kernel
theorem d_T_isDueAt_107 : decode prog_6_method_11_code 107 = .ok (.iload_n 2, 1) := by decide +kernel
theorem d_T_isDueAt_108 : decode prog_6_method_11_code 108 = .ok (.iaload, 1) := by decide +kernel
theorem d_T_isDueAt_109 : decode prog_6_method_11_code 109 = .ok (.if_icmp .ne 5, 3) := by decide +kernel
theorem d_T_isDueAt_112 : decode prog_6_method_11_code 112 = .ok (.iconst 1, 1) := by decide +kernel
theorem d_T_isDueAt_113 : decode prog_6_method_11_code 113 = .ok (.ireturn, 1) := by decide +kernel
theorem d_T_isDueAt_114 : decode prog_6_method_11_code 114 = .ok (.iinc 2 1, 3) := by decide +kernel
theorem d_T_isDueAt_117 : decode prog_6_method_11_code 117 = .ok (.goto (-115), 3) := by decide +kernel
theorem d_T_isDueAt_120 : decode prog_6_method_11_code 120 = .ok (.iconst 0, 1) := by decide +kernel
theorem d_T_isDueAt_121 : decode prog_6_method_11_code 121 = .ok (.ireturn, 1) := by decide +kernel
theorem d_K_init_0 : decode prog_7_method_1_code 0 = .ok (.aload_n 0, 1) := by decide +kernel
theorem d_K_init_1 : decode prog_7_method_1_code 1 = .ok (.invokespecial 3, 3) := by decide +kernel
theorem d_K_init_4 : decode prog_7_method_1_code 4 = .ok (.aload_n 0, 1) := by decide +kernel
theorem d_K_init_5 : decode prog_7_method_1_code 5 = .ok (.new 9, 3) := by decide +kernel
theorem d_K_init_8 : decode prog_7_method_1_code 8 = .ok (.dup, 1) := by decide +kernel
theorem d_K_init_9 : decode prog_7_method_1_code 9 = .ok (.iconst 4, 1) := by decide +kernel
theorem d_K_init_10 : decode prog_7_method_1_code 10 = .ok (.invokespecial 11, 3) := by decide +kernel
theorem d_K_init_13 : decode prog_7_method_1_code 13 = .ok (.putfield 14, 3) := by decide +kernel
theorem d_K_init_16 : decode prog_7_method_1_code 16 = .ok (.aload_n 0, 1) := by decide +kernel
theorem d_K_init_17 : decode prog_7_method_1_code 17 = .ok (.iconst (-1), 1) := by decide +kernel
theorem d_K_init_18 : decode prog_7_method_1_code 18 = .ok (.putfield 20, 3) := by decide +kernel
theorem d_K_init_21 : decode prog_7_method_1_code 21 = .ok (.aload_n 0, 1) := by decide +kernel
theorem d_K_init_22 : decode prog_7_method_1_code 22 = .ok (.iconst 0, 1) := by decide +kernel
theorem d_K_init_23 : decode prog_7_method_1_code 23 = .ok (.putfield 24, 3) := by decide +kernel
theorem d_K_init_26 : decode prog_7_method_1_code 26 = .ok (.aload_n 0, 1) := by decide +kernel
theorem d_K_init_27 : decode prog_7_method_1_code 27 = .ok (.iconst 0, 1) := by decide +kernel
theorem d_K_init_28 : decode prog_7_method_1_code 28 = .ok (.putfield 27, 3) := by decide +kernel
theorem d_K_init_31 : decode prog_7_method_1_code 31 = .ok (.aload_n 0, 1) := by decide +kernel
theorem d_K_init_32 : decode prog_7_method_1_code 32 = .ok (.iload_n 1, 1) := by decide +kernel
theorem d_K_init_33 : decode prog_7_method_1_code 33 = .ok (.putfield 30, 3) := by decide +kernel
theorem d_K_init_36 : decode prog_7_method_1_code 36 = .ok (.return_, 1) := by decide +kernel
theorem d_K_emptySlot_0 : decode prog_7_method_2_code 0 = .ok (.aload_n 0, 1) := by decide +kernel
theorem d_K_emptySlot_1 : decode prog_7_method_2_code 1 = .ok (.getfield 20, 3) := by decide +kernel
theorem d_K_emptySlot_4 : decode prog_7_method_2_code 4 = .ok (.istore_n 1, 1) := by decide +kernel
theorem d_K_emptySlot_5 : decode prog_7_method_2_code 5 = .ok (.aload_n 0, 1) := by decide +kernel
theorem d_K_emptySlot_6 : decode prog_7_method_2_code 6 = .ok (.iconst (-1), 1) := by decide +kernel
theorem d_K_emptySlot_7 : decode prog_7_method_2_code 7 = .ok (.putfield 20, 3) := by decide +kernel
theorem d_K_emptySlot_10 : decode prog_7_method_2_code 10 = .ok (.iload_n 1, 1) := by decide +kernel
theorem d_K_emptySlot_11 : decode prog_7_method_2_code 11 = .ok (.ireturn, 1) := by decide +kernel
end
section
theorem d_Y_init_0 : decode prog_1_method_1_code 0 = .ok (.aload_n 0, 1) := by decide +kernel
theorem d_Y_init_1 : decode prog_1_method_1_code 1 = .ok (.invokespecial 1, 3) := by decide +kernel
theorem d_Y_init_4 : decode prog_1_method_1_code 4 = .ok (.aload_n 0, 1) := by decide +kernel
theorem d_Y_init_5 : decode prog_1_method_1_code 5 = .ok (.new 7, 3) := by decide +kernel
theorem d_Y_init_8 : decode prog_1_method_1_code 8 = .ok (.dup, 1) := by decide +kernel
theorem d_Y_init_9 : decode prog_1_method_1_code 9 = .ok (.invokespecial 9, 3) := by decide +kernel
theorem d_Y_init_12 : decode prog_1_method_1_code 12 = .ok (.putfield 10, 3) := by decide +kernel
theorem d_Y_init_15 : decode prog_1_method_1_code 15 = .ok (.aload_n 0, 1) := by decide +kernel
theorem d_Y_init_16 : decode prog_1_method_1_code 16 = .ok (.bipush 6, 2) := by decide +kernel
theorem d_Y_init_18 : decode prog_1_method_1_code 18 = .ok (.anewarray 7, 3) := by decide +kernel
theorem d_Y_init_21 : decode prog_1_method_1_code 21 = .ok (.putfield 16, 3) := by decide +kernel
theorem d_Y_init_24 : decode prog_1_method_1_code 24 = .ok (.aload_n 0, 1) := by decide +kernel
theorem d_Y_init_25 : decode prog_1_method_1_code 25 = .ok (.iconst 0, 1) := by decide +kernel
theorem d_Y_init_26 : decode prog_1_method_1_code 26 = .ok (.putfield 20, 3) := by decide +kernel
theorem d_Y_init_29 : decode prog_1_method_1_code 29 = .ok (.aload_n 0, 1) := by decide +kernel
theorem d_Y_init_30 : decode prog_1_method_1_code 30 = .ok (.bipush 12, 2) := by decide +kernel
theorem d_Y_init_32 : decode prog_1_method_1_code 32 = .ok (.anewarray 24, 3) := by decide +kernel
theorem d_Y_init_35 : decode prog_1_method_1_code 35 = .ok (.putfield 26, 3) := by decide +kernel
theorem d_Y_init_38 : decode prog_1_method_1_code 38 = .ok (.aload_n 0, 1) := by decide +kernel
theorem d_Y_init_39 : decode prog_1_method_1_code 39 = .ok (.iconst 0, 1) := by decide +kernel
theorem d_Y_init_40 : decode prog_1_method_1_code 40 = .ok (.putfield 30, 3) := by decide +kernel
theorem d_Y_init_43 : decode prog_1_method_1_code 43 = .ok (.aload_n 0, 1) := by decide +kernel
theorem d_Y_init_44 : decode prog_1_method_1_code 44 = .ok (.iconst 3, 1) := by decide +kernel
theorem d_Y_init_45 : decode prog_1_method_1_code 45 = .ok (.anewarray 33, 3) := by decide +kernel
theorem d_Y_init_48 : decode prog_1_method_1_code 48 = .ok (.dup, 1) := by decide +kernel
theorem d_Y_init_49 : decode prog_1_method_1_code 49 = .ok (.iconst 0, 1) := by decide +kernel
theorem d_Y_init_50 : decode prog_1_method_1_code 50 = .ok (.new 33, 3) := by decide +kernel
theorem d_Y_init_53 : decode prog_1_method_1_code 53 = .ok (.dup, 1) := by decide +kernel
theorem d_Y_init_54 : decode prog_1_method_1_code 54 = .ok (.iconst 0, 1) := by decide +kernel
theorem d_Y_init_55 : decode prog_1_method_1_code 55 = .ok (.invokespecial 35, 3) := by decide +kernel
theorem d_Y_init_58 : decode prog_1_method_1_code 58 = .ok (.aastore, 1) := by decide +kernel
theorem d_Y_init_59 : decode prog_1_method_1_code 59 = .ok (.dup, 1) := by decide +kernel
theorem d_Y_init_60 : decode prog_1_method_1_code 60 = .ok (.iconst 1, 1) := by decide +kernel
theorem d_Y_init_61 : decode prog_1_method_1_code 61 = .ok (.new 33, 3) := by decide +kernel
theorem d_Y_init_64 : decode prog_1_method_1_code 64 = .ok (.dup, 1) := by decide +kernel
theorem d_Y_init_65 : decode prog_1_method_1_code 65 = .ok (.iconst 1, 1) := by decide +kernel
theorem d_Y_init_66 : decode prog_1_method_1_code 66 = .ok (.invokespecial 35, 3) := by decide +kernel
theorem d_Y_init_69 : decode prog_1_method_1_code 69 = .ok (.aastore, 1) := by decide +kernel
theorem d_Y_init_70 : decode prog_1_method_1_code 70 = .ok (.dup, 1) := by decide +kernel
theorem d_Y_init_71 : decode prog_1_method_1_code 71 = .ok (.iconst 2, 1) := by decide +kernel
theorem d_Y_init_72 : decode prog_1_method_1_code 72 = .ok (.new 33, 3) := by decide +kernel
theorem d_Y_init_75 : decode prog_1_method_1_code 75 = .ok (.dup, 1) := by decide +kernel
theorem d_Y_init_76 : decode prog_1_method_1_code 76 = .ok (.iconst 2, 1) := by decide +kernel
theorem d_Y_init_77 : decode prog_1_method_1_code 77 = .ok (.invokespecial 35, 3) := by decide +kernel
theorem d_Y_init_80 : decode prog_1_method_1_code 80 = .ok (.aastore, 1) := by decide +kernel
theorem d_Y_init_81 : decode prog_1_method_1_code 81 = .ok (.putfield 38, 3) := by decide +kernel
theorem d_Y_init_84 : decode prog_1_method_1_code 84 = .ok (.aload_n 0, 1) := by decide +kernel
theorem d_Y_init_85 : decode prog_1_method_1_code 85 = .ok (.new 42, 3) := by decide +kernel
theorem d_Y_init_88 : decode prog_1_method_1_code 88 = .ok (.dup, 1) := by decide +kernel
theorem d_Y_init_89 : decode prog_1_method_1_code 89 = .ok (.bipush 12, 2) := by decide +kernel
theorem d_Y_init_91 : decode prog_1_method_1_code 91 = .ok (.invokespecial 44, 3) := by decide +kernel
theorem d_Y_init_94 : decode prog_1_method_1_code 94 = .ok (.putfield 45, 3) := by decide +kernel
theorem d_Y_init_97 : decode prog_1_method_1_code 97 = .ok (.aload_n 0, 1) := by decide +kernel
theorem d_Y_init_98 : decode prog_1_method_1_code 98 = .ok (.new 42, 3) := by decide +kernel
theorem d_Y_init_101 : decode prog_1_method_1_code 101 = .ok (.dup, 1) := by decide +kernel
theorem d_Y_init_102 : decode prog_1_method_1_code 102 = .ok (.bipush 12, 2) := by decide +kernel
theorem d_Y_init_104 : decode prog_1_method_1_code 104 = .ok (.invokespecial 44, 3) := by decide +kernel
theorem d_Y_init_107 : decode prog_1_method_1_code 107 = .ok (.putfield 49, 3) := by decide +kernel
theorem d_Y_init_110 : decode prog_1_method_1_code 110 = .ok (.aload_n 0, 1) := by decide +kernel
theorem d_Y_init_111 : decode prog_1_method_1_code 111 = .ok (.iconst 2, 1) := by decide +kernel
theorem d_Y_init_112 : decode prog_1_method_1_code 112 = .ok (.anewarray 52, 3) := by decide +kernel
theorem d_Y_init_115 : decode prog_1_method_1_code 115 = .ok (.dup, 1) := by decide +kernel
theorem d_Y_init_116 : decode prog_1_method_1_code 116 = .ok (.iconst 0, 1) := by decide +kernel
theorem d_Y_init_117 : decode prog_1_method_1_code 117 = .ok (.new 52, 3) := by decide +kernel
theorem d_Y_init_120 : decode prog_1_method_1_code 120 = .ok (.dup, 1) := by decide +kernel
theorem d_Y_init_121 : decode prog_1_method_1_code 121 = .ok (.invokespecial 54, 3) := by decide +kernel
theorem d_Y_init_124 : decode prog_1_method_1_code 124 = .ok (.aastore, 1) := by decide +kernel
theorem d_Y_init_125 : decode prog_1_method_1_code 125 = .ok (.dup, 1) := by decide +kernel
theorem d_Y_init_126 : decode prog_1_method_1_code 126 = .ok (.iconst 1, 1) := by decide +kernel
theorem d_Y_init_127 : decode prog_1_method_1_code 127 = .ok (.new 52, 3) := by decide +kernel
theorem d_Y_init_130 : decode prog_1_method_1_code 130 = .ok (.dup, 1) := by decide +kernel
theorem d_Y_init_131 : decode prog_1_method_1_code 131 = .ok (.invokespecial 54, 3) := by decide +kernel
theorem d_Y_init_134 : decode prog_1_method_1_code 134 = .ok (.aastore, 1) := by decide +kernel
theorem d_Y_init_135 : decode prog_1_method_1_code 135 = .ok (.putfield 55, 3) := by decide +kernel
theorem d_Y_init_138 : decode prog_1_method_1_code 138 = .ok (.aload_n 0, 1) := by decide +kernel
theorem d_Y_init_139 : decode prog_1_method_1_code 139 = .ok (.iconst 2, 1) := by decide +kernel
theorem d_Y_init_140 : decode prog_1_method_1_code 140 = .ok (.anewarray 59, 3) := by decide +kernel
theorem d_Y_init_143 : decode prog_1_method_1_code 143 = .ok (.dup, 1) := by decide +kernel
theorem d_Y_init_144 : decode prog_1_method_1_code 144 = .ok (.iconst 0, 1) := by decide +kernel
theorem d_Y_init_145 : decode prog_1_method_1_code 145 = .ok (.new 59, 3) := by decide +kernel
theorem d_Y_init_148 : decode prog_1_method_1_code 148 = .ok (.dup, 1) := by decide +kernel
theorem d_Y_init_149 : decode prog_1_method_1_code 149 = .ok (.invokespecial 61, 3) := by decide +kernel
theorem d_Y_init_152 : decode prog_1_method_1_code 152 = .ok (.aastore, 1) := by decide +kernel
theorem d_Y_init_153 : decode prog_1_method_1_code 153 = .ok (.dup, 1) := by decide +kernel
theorem d_Y_init_154 : decode prog_1_method_1_code 154 = .ok (.iconst 1, 1) := by decide +kernel
theorem d_Y_init_155 : decode prog_1_method_1_code 155 = .ok (.new 59, 3) := by decide +kernel
theorem d_Y_init_158 : decode prog_1_method_1_code 158 = .ok (.dup, 1) := by decide +kernel
theorem d_Y_init_159 : decode prog_1_method_1_code 159 = .ok (.invokespecial 61, 3) := by decide +kernel
theorem d_Y_init_162 : decode prog_1_method_1_code 162 = .ok (.aastore, 1) := by decide +kernel
theorem d_Y_init_163 : decode prog_1_method_1_code 163 = .ok (.putfield 62, 3) := by decide +kernel
theorem d_Y_init_166 : decode prog_1_method_1_code 166 = .ok (.aload_n 0, 1) := by decide +kernel
theorem d_Y_init_167 : decode prog_1_method_1_code 167 = .ok (.iconst 0, 1) := by decide +kernel
theorem d_Y_init_168 : decode prog_1_method_1_code 168 = .ok (.putfield 66, 3) := by decide +kernel
theorem d_Y_init_171 : decode prog_1_method_1_code 171 = .ok (.aload_n 0, 1) := by decide +kernel
theorem d_Y_init_172 : decode prog_1_method_1_code 172 = .ok (.iconst 0, 1) := by decide +kernel
theorem d_Y_init_173 : decode prog_1_method_1_code 173 = .ok (.putfield 69, 3) := by decide +kernel
theorem d_Y_init_176 : decode prog_1_method_1_code 176 = .ok (.aload_n 0, 1) := by decide +kernel
theorem d_Y_init_177 : decode prog_1_method_1_code 177 = .ok (.iconst 0, 1) := by decide +kernel
theorem d_Y_init_178 : decode prog_1_method_1_code 178 = .ok (.putfield 72, 3) := by decide +kernel
theorem d_Y_init_181 : decode prog_1_method_1_code 181 = .ok (.aload_n 0, 1) := by decide +kernel
theorem d_Y_init_182 : decode prog_1_method_1_code 182 = .ok (.iconst 0, 1) := by decide +kernel
theorem d_Y_init_183 : decode prog_1_method_1_code 183 = .ok (.putfield 75, 3) := by decide +kernel
theorem d_Y_init_186 : decode prog_1_method_1_code 186 = .ok (.return_, 1) := by decide +kernel
theorem d_Y_token_0 : decode prog_1_method_2_code 0 = .ok (.iload_n 1, 1) := by decide +kernel
theorem d_Y_token_1 : decode prog_1_method_2_code 1 = .ok (.ifCond .lt 27, 3) := by decide +kernel
theorem d_Y_token_4 : decode prog_1_method_2_code 4 = .ok (.iload_n 1, 1) := by decide +kernel
theorem d_Y_token_5 : decode prog_1_method_2_code 5 = .ok (.bipush 16, 2) := by decide +kernel
theorem d_Y_token_7 : decode prog_1_method_2_code 7 = .ok (.if_icmp .ge 21, 3) := by decide +kernel
theorem d_Y_token_10 : decode prog_1_method_2_code 10 = .ok (.iload_n 2, 1) := by decide +kernel
theorem d_Y_token_11 : decode prog_1_method_2_code 11 = .ok (.getstatic 78, 3) := by decide +kernel
theorem d_Y_token_14 : decode prog_1_method_2_code 14 = .ok (.iload_n 1, 1) := by decide +kernel
theorem d_Y_token_15 : decode prog_1_method_2_code 15 = .ok (.iaload, 1) := by decide +kernel
theorem d_Y_token_16 : decode prog_1_method_2_code 16 = .ok (.if_icmp .lt 12, 3) := by decide +kernel
theorem d_Y_token_19 : decode prog_1_method_2_code 19 = .ok (.iload_n 2, 1) := by decide +kernel
theorem d_Y_token_20 : decode prog_1_method_2_code 20 = .ok (.getstatic 82, 3) := by decide +kernel
theorem d_Y_token_23 : decode prog_1_method_2_code 23 = .ok (.iload_n 1, 1) := by decide +kernel
theorem d_Y_token_24 : decode prog_1_method_2_code 24 = .ok (.iaload, 1) := by decide +kernel
theorem d_Y_token_25 : decode prog_1_method_2_code 25 = .ok (.if_icmp .le 5, 3) := by decide +kernel
theorem d_Y_token_28 : decode prog_1_method_2_code 28 = .ok (.iconst (-1), 1) := by decide +kernel
theorem d_Y_token_29 : decode prog_1_method_2_code 29 = .ok (.ireturn, 1) := by decide +kernel
theorem d_Y_token_30 : decode prog_1_method_2_code 30 = .ok (.aload_n 0, 1) := by decide +kernel
theorem d_Y_token_31 : decode prog_1_method_2_code 31 = .ok (.getfield 10, 3) := by decide +kernel
theorem d_Y_token_34 : decode prog_1_method_2_code 34 = .ok (.iload_n 1, 1) := by decide +kernel
theorem d_Y_token_35 : decode prog_1_method_2_code 35 = .ok (.iload_n 2, 1) := by decide +kernel
theorem d_Y_token_36 : decode prog_1_method_2_code 36 = .ok (.invokevirtual 85, 3) := by decide +kernel
theorem d_Y_token_39 : decode prog_1_method_2_code 39 = .ok (.ifCond .eq 13, 3) := by decide +kernel
theorem d_Y_token_42 : decode prog_1_method_2_code 42 = .ok (.aload_n 0, 1) := by decide +kernel
theorem d_Y_token_43 : decode prog_1_method_2_code 43 = .ok (.getfield 10, 3) := by decide +kernel
theorem d_Y_token_46 : decode prog_1_method_2_code 46 = .ok (.getfield 89, 3) := by decide +kernel
theorem d_Y_token_49 : decode prog_1_method_2_code 49 = .ok (.goto 5, 3) := by decide +kernel
theorem d_Y_token_52 : decode prog_1_method_2_code 52 = .ok (.bipush (-2), 2) := by decide +kernel
theorem d_Y_token_54 : decode prog_1_method_2_code 54 = .ok (.ireturn, 1) := by decide +kernel
theorem d_Y_define_0 : decode prog_1_method_3_code 0 = .ok (.aload_n 0, 1) := by decide +kernel
theorem d_Y_define_1 : decode prog_1_method_3_code 1 = .ok (.getfield 10, 3) := by decide +kernel
theorem d_Y_define_4 : decode prog_1_method_3_code 4 = .ok (.invokevirtual 92, 3) := by decide +kernel
theorem d_Y_define_7 : decode prog_1_method_3_code 7 = .ok (.ifCond .ne 5, 3) := by decide +kernel
theorem d_Y_define_10 : decode prog_1_method_3_code 10 = .ok (.iconst (-1), 1) := by decide +kernel
theorem d_Y_define_11 : decode prog_1_method_3_code 11 = .ok (.ireturn, 1) := by decide +kernel
theorem d_Y_define_12 : decode prog_1_method_3_code 12 = .ok (.aload_n 0, 1) := by decide +kernel
theorem d_Y_define_13 : decode prog_1_method_3_code 13 = .ok (.getfield 20, 3) := by decide +kernel
theorem d_Y_define_16 : decode prog_1_method_3_code 16 = .ok (.bipush 6, 2) := by decide +kernel
theorem d_Y_define_18 : decode prog_1_method_3_code 18 = .ok (.if_icmp .lt 6, 3) := by decide +kernel
theorem d_Y_define_21 : decode prog_1_method_3_code 21 = .ok (.bipush (-2), 2) := by decide +kernel
theorem d_Y_define_23 : decode prog_1_method_3_code 23 = .ok (.ireturn, 1) := by decide +kernel
theorem d_Y_define_24 : decode prog_1_method_3_code 24 = .ok (.aload_n 0, 1) := by decide +kernel
theorem d_Y_define_25 : decode prog_1_method_3_code 25 = .ok (.getfield 10, 3) := by decide +kernel
theorem d_Y_define_28 : decode prog_1_method_3_code 28 = .ok (.invokevirtual 96, 3) := by decide +kernel
theorem d_Y_define_31 : decode prog_1_method_3_code 31 = .ok (.aload_n 0, 1) := by decide +kernel
theorem d_Y_define_32 : decode prog_1_method_3_code 32 = .ok (.getfield 16, 3) := by decide +kernel
theorem d_Y_define_35 : decode prog_1_method_3_code 35 = .ok (.aload_n 0, 1) := by decide +kernel
theorem d_Y_define_36 : decode prog_1_method_3_code 36 = .ok (.getfield 20, 3) := by decide +kernel
theorem d_Y_define_39 : decode prog_1_method_3_code 39 = .ok (.aload_n 0, 1) := by decide +kernel
theorem d_Y_define_40 : decode prog_1_method_3_code 40 = .ok (.getfield 10, 3) := by decide +kernel
theorem d_Y_define_43 : decode prog_1_method_3_code 43 = .ok (.aastore, 1) := by decide +kernel
theorem d_Y_define_44 : decode prog_1_method_3_code 44 = .ok (.aload_n 0, 1) := by decide +kernel
theorem d_Y_define_45 : decode prog_1_method_3_code 45 = .ok (.new 7, 3) := by decide +kernel
theorem d_Y_define_48 : decode prog_1_method_3_code 48 = .ok (.dup, 1) := by decide +kernel
theorem d_Y_define_49 : decode prog_1_method_3_code 49 = .ok (.invokespecial 9, 3) := by decide +kernel
theorem d_Y_define_52 : decode prog_1_method_3_code 52 = .ok (.putfield 10, 3) := by decide +kernel
theorem d_Y_define_55 : decode prog_1_method_3_code 55 = .ok (.aload_n 0, 1) := by decide +kernel
theorem d_Y_define_56 : decode prog_1_method_3_code 56 = .ok (.dup, 1) := by decide +kernel
theorem d_Y_define_57 : decode prog_1_method_3_code 57 = .ok (.getfield 20, 3) := by decide +kernel
theorem d_Y_define_60 : decode prog_1_method_3_code 60 = .ok (.dup_x1, 1) := by decide +kernel
theorem d_Y_define_61 : decode prog_1_method_3_code 61 = .ok (.iconst 1, 1) := by decide +kernel
theorem d_Y_define_62 : decode prog_1_method_3_code 62 = .ok (.iadd, 1) := by decide +kernel
theorem d_Y_define_63 : decode prog_1_method_3_code 63 = .ok (.putfield 20, 3) := by decide +kernel
theorem d_Y_define_66 : decode prog_1_method_3_code 66 = .ok (.ireturn, 1) := by decide +kernel
theorem d_Y_clear_0 : decode prog_1_method_4_code 0 = .ok (.aload_n 0, 1) := by decide +kernel
theorem d_Y_clear_1 : decode prog_1_method_4_code 1 = .ok (.getfield 10, 3) := by decide +kernel
theorem d_Y_clear_4 : decode prog_1_method_4_code 4 = .ok (.getfield 89, 3) := by decide +kernel
theorem d_Y_clear_7 : decode prog_1_method_4_code 7 = .ok (.istore_n 1, 1) := by decide +kernel
theorem d_Y_clear_8 : decode prog_1_method_4_code 8 = .ok (.aload_n 0, 1) := by decide +kernel
theorem d_Y_clear_9 : decode prog_1_method_4_code 9 = .ok (.getfield 10, 3) := by decide +kernel
theorem d_Y_clear_12 : decode prog_1_method_4_code 12 = .ok (.iconst 0, 1) := by decide +kernel
theorem d_Y_clear_13 : decode prog_1_method_4_code 13 = .ok (.putfield 89, 3) := by decide +kernel
theorem d_Y_clear_16 : decode prog_1_method_4_code 16 = .ok (.iload_n 1, 1) := by decide +kernel
theorem d_Y_clear_17 : decode prog_1_method_4_code 17 = .ok (.ireturn, 1) := by decide +kernel
theorem d_Y_spawn_0 : decode prog_1_method_5_code 0 = .ok (.iload_n 1, 1) := by decide +kernel
theorem d_Y_spawn_1 : decode prog_1_method_5_code 1 = .ok (.ifCond .lt 11, 3) := by decide +kernel
theorem d_Y_spawn_4 : decode prog_1_method_5_code 4 = .ok (.iload_n 1, 1) := by decide +kernel
theorem d_Y_spawn_5 : decode prog_1_method_5_code 5 = .ok (.aload_n 0, 1) := by decide +kernel
theorem d_Y_spawn_6 : decode prog_1_method_5_code 6 = .ok (.getfield 20, 3) := by decide +kernel
theorem d_Y_spawn_9 : decode prog_1_method_5_code 9 = .ok (.if_icmp .lt 5, 3) := by decide +kernel
theorem d_Y_spawn_12 : decode prog_1_method_5_code 12 = .ok (.iconst (-1), 1) := by decide +kernel
theorem d_Y_spawn_13 : decode prog_1_method_5_code 13 = .ok (.ireturn, 1) := by decide +kernel
theorem d_Y_spawn_14 : decode prog_1_method_5_code 14 = .ok (.aload_n 0, 1) := by decide +kernel
theorem d_Y_spawn_15 : decode prog_1_method_5_code 15 = .ok (.getfield 30, 3) := by decide +kernel
theorem d_Y_spawn_18 : decode prog_1_method_5_code 18 = .ok (.bipush 12, 2) := by decide +kernel
theorem d_Y_spawn_20 : decode prog_1_method_5_code 20 = .ok (.if_icmp .lt 6, 3) := by decide +kernel
theorem d_Y_spawn_23 : decode prog_1_method_5_code 23 = .ok (.bipush (-2), 2) := by decide +kernel
theorem d_Y_spawn_25 : decode prog_1_method_5_code 25 = .ok (.ireturn, 1) := by decide +kernel
theorem d_Y_spawn_26 : decode prog_1_method_5_code 26 = .ok (.aload_n 0, 1) := by decide +kernel
theorem d_Y_spawn_27 : decode prog_1_method_5_code 27 = .ok (.iload_n 1, 1) := by decide +kernel
theorem d_Y_spawn_28 : decode prog_1_method_5_code 28 = .ok (.invokevirtual 99, 3) := by decide +kernel
theorem d_Y_spawn_31 : decode prog_1_method_5_code 31 = .ok (.istore_n 2, 1) := by decide +kernel
theorem d_Y_spawn_32 : decode prog_1_method_5_code 32 = .ok (.aload_n 0, 1) := by decide +kernel
theorem d_Y_spawn_33 : decode prog_1_method_5_code 33 = .ok (.invokevirtual 103, 3) := by decide +kernel
theorem d_Y_spawn_36 : decode prog_1_method_5_code 36 = .ok (.iload_n 2, 1) := by decide +kernel
theorem d_Y_spawn_37 : decode prog_1_method_5_code 37 = .ok (.ireturn, 1) := by decide +kernel
theorem d_Y_turn_0 : decode prog_1_method_6_code 0 = .ok (.iload_n 1, 1) := by decide +kernel
theorem d_Y_turn_1 : decode prog_1_method_6_code 1 = .ok (.ifCond .lt 8, 3) := by decide +kernel
theorem d_Y_turn_4 : decode prog_1_method_6_code 4 = .ok (.iload_n 1, 1) := by decide +kernel
theorem d_Y_turn_5 : decode prog_1_method_6_code 5 = .ok (.iconst 3, 1) := by decide +kernel
theorem d_Y_turn_6 : decode prog_1_method_6_code 6 = .ok (.if_icmp .lt 7, 3) := by decide +kernel
theorem d_Y_turn_9 : decode prog_1_method_6_code 9 = .ok (.iconst (-1), 1) := by decide +kernel
theorem d_Y_turn_10 : decode prog_1_method_6_code 10 = .ok (.goto 13, 3) := by decide +kernel
theorem d_Y_turn_13 : decode prog_1_method_6_code 13 = .ok (.aload_n 0, 1) := by decide +kernel
theorem d_Y_turn_14 : decode prog_1_method_6_code 14 = .ok (.aload_n 0, 1) := by decide +kernel
theorem d_Y_turn_15 : decode prog_1_method_6_code 15 = .ok (.getfield 38, 3) := by decide +kernel
theorem d_Y_turn_18 : decode prog_1_method_6_code 18 = .ok (.iload_n 1, 1) := by decide +kernel
theorem d_Y_turn_19 : decode prog_1_method_6_code 19 = .ok (.aaload, 1) := by decide +kernel
theorem d_Y_turn_20 : decode prog_1_method_6_code 20 = .ok (.invokevirtual 106, 3) := by decide +kernel
theorem d_Y_turn_23 : decode prog_1_method_6_code 23 = .ok (.ireturn, 1) := by decide +kernel
theorem d_Y_run_0 : decode prog_1_method_7_code 0 = .ok (.iload_n 1, 1) := by decide +kernel
theorem d_Y_run_1 : decode prog_1_method_7_code 1 = .ok (.iconst 1, 1) := by decide +kernel
theorem d_Y_run_2 : decode prog_1_method_7_code 2 = .ok (.if_icmp .lt 9, 3) := by decide +kernel
theorem d_Y_run_5 : decode prog_1_method_7_code 5 = .ok (.iload_n 1, 1) := by decide +kernel
theorem d_Y_run_6 : decode prog_1_method_7_code 6 = .ok (.bipush 30, 2) := by decide +kernel
theorem d_Y_run_8 : decode prog_1_method_7_code 8 = .ok (.if_icmp .le 5, 3) := by decide +kernel
theorem d_Y_run_11 : decode prog_1_method_7_code 11 = .ok (.iconst (-1), 1) := by decide +kernel
theorem d_Y_run_12 : decode prog_1_method_7_code 12 = .ok (.ireturn, 1) := by decide +kernel
theorem d_Y_run_13 : decode prog_1_method_7_code 13 = .ok (.iconst 0, 1) := by decide +kernel
theorem d_Y_run_14 : decode prog_1_method_7_code 14 = .ok (.istore_n 2, 1) := by decide +kernel
theorem d_Y_run_15 : decode prog_1_method_7_code 15 = .ok (.iconst 0, 1) := by decide +kernel
theorem d_Y_run_16 : decode prog_1_method_7_code 16 = .ok (.istore_n 3, 1) := by decide +kernel
theorem d_Y_run_17 : decode prog_1_method_7_code 17 = .ok (.iload_n 3, 1) := by decide +kernel
theorem d_Y_run_18 : decode prog_1_method_7_code 18 = .ok (.iload_n 1, 1) := by decide +kernel
theorem d_Y_run_19 : decode prog_1_method_7_code 19 = .ok (.if_icmp .ge 42, 3) := by decide +kernel
theorem d_Y_run_22 : decode prog_1_method_7_code 22 = .ok (.aload_n 0, 1) := by decide +kernel
theorem d_Y_run_23 : decode prog_1_method_7_code 23 = .ok (.aload_n 0, 1) := by decide +kernel
theorem d_Y_run_24 : decode prog_1_method_7_code 24 = .ok (.getfield 38, 3) := by decide +kernel
theorem d_Y_run_27 : decode prog_1_method_7_code 27 = .ok (.aload_n 0, 1) := by decide +kernel
theorem d_Y_run_28 : decode prog_1_method_7_code 28 = .ok (.getfield 75, 3) := by decide +kernel
theorem d_Y_run_31 : decode prog_1_method_7_code 31 = .ok (.aaload, 1) := by decide +kernel
theorem d_Y_run_32 : decode prog_1_method_7_code 32 = .ok (.invokevirtual 106, 3) := by decide +kernel
theorem d_Y_run_35 : decode prog_1_method_7_code 35 = .ok (.bipush (-2), 2) := by decide +kernel
theorem d_Y_run_37 : decode prog_1_method_7_code 37 = .ok (.if_icmp .eq 6, 3) := by decide +kernel
theorem d_Y_run_40 : decode prog_1_method_7_code 40 = .ok (.iinc 2 1, 3) := by decide +kernel
theorem d_Y_run_43 : decode prog_1_method_7_code 43 = .ok (.aload_n 0, 1) := by decide +kernel
theorem d_Y_run_44 : decode prog_1_method_7_code 44 = .ok (.aload_n 0, 1) := by decide +kernel
theorem d_Y_run_45 : decode prog_1_method_7_code 45 = .ok (.getfield 75, 3) := by decide +kernel
theorem d_Y_run_48 : decode prog_1_method_7_code 48 = .ok (.iconst 1, 1) := by decide +kernel
theorem d_Y_run_49 : decode prog_1_method_7_code 49 = .ok (.iadd, 1) := by decide +kernel
theorem d_Y_run_50 : decode prog_1_method_7_code 50 = .ok (.iconst 3, 1) := by decide +kernel
theorem d_Y_run_51 : decode prog_1_method_7_code 51 = .ok (.irem, 1) := by decide +kernel
theorem d_Y_run_52 : decode prog_1_method_7_code 52 = .ok (.putfield 75, 3) := by decide +kernel
theorem d_Y_run_55 : decode prog_1_method_7_code 55 = .ok (.iinc 3 1, 3) := by decide +kernel
theorem d_Y_run_58 : decode prog_1_method_7_code 58 = .ok (.goto (-41), 3) := by decide +kernel
theorem d_Y_run_61 : decode prog_1_method_7_code 61 = .ok (.iload_n 2, 1) := by decide +kernel
theorem d_Y_run_62 : decode prog_1_method_7_code 62 = .ok (.ireturn, 1) := by decide +kernel
theorem d_Y_tick_0 : decode prog_1_method_8_code 0 = .ok (.iload_n 1, 1) := by decide +kernel
theorem d_Y_tick_1 : decode prog_1_method_8_code 1 = .ok (.iconst 1, 1) := by decide +kernel
theorem d_Y_tick_2 : decode prog_1_method_8_code 2 = .ok (.if_icmp .lt 9, 3) := by decide +kernel
theorem d_Y_tick_5 : decode prog_1_method_8_code 5 = .ok (.iload_n 1, 1) := by decide +kernel
theorem d_Y_tick_6 : decode prog_1_method_8_code 6 = .ok (.bipush 20, 2) := by decide +kernel
theorem d_Y_tick_8 : decode prog_1_method_8_code 8 = .ok (.if_icmp .le 5, 3) := by decide +kernel
theorem d_Y_tick_11 : decode prog_1_method_8_code 11 = .ok (.iconst (-1), 1) := by decide +kernel
theorem d_Y_tick_12 : decode prog_1_method_8_code 12 = .ok (.ireturn, 1) := by decide +kernel
theorem d_Y_tick_13 : decode prog_1_method_8_code 13 = .ok (.iconst 0, 1) := by decide +kernel
theorem d_Y_tick_14 : decode prog_1_method_8_code 14 = .ok (.istore_n 2, 1) := by decide +kernel
theorem d_Y_tick_15 : decode prog_1_method_8_code 15 = .ok (.iload_n 2, 1) := by decide +kernel
theorem d_Y_tick_16 : decode prog_1_method_8_code 16 = .ok (.iload_n 1, 1) := by decide +kernel
theorem d_Y_tick_17 : decode prog_1_method_8_code 17 = .ok (.if_icmp .ge 23, 3) := by decide +kernel
theorem d_Y_tick_20 : decode prog_1_method_8_code 20 = .ok (.aload_n 0, 1) := by decide +kernel
theorem d_Y_tick_21 : decode prog_1_method_8_code 21 = .ok (.dup, 1) := by decide +kernel
theorem d_Y_tick_22 : decode prog_1_method_8_code 22 = .ok (.getfield 66, 3) := by decide +kernel
theorem d_Y_tick_25 : decode prog_1_method_8_code 25 = .ok (.iconst 1, 1) := by decide +kernel
theorem d_Y_tick_26 : decode prog_1_method_8_code 26 = .ok (.iadd, 1) := by decide +kernel
theorem d_Y_tick_27 : decode prog_1_method_8_code 27 = .ok (.putfield 66, 3) := by decide +kernel
theorem d_Y_tick_30 : decode prog_1_method_8_code 30 = .ok (.aload_n 0, 1) := by decide +kernel
theorem d_Y_tick_31 : decode prog_1_method_8_code 31 = .ok (.invokevirtual 110, 3) := by decide +kernel
theorem d_Y_tick_34 : decode prog_1_method_8_code 34 = .ok (.iinc 2 1, 3) := by decide +kernel
theorem d_Y_tick_37 : decode prog_1_method_8_code 37 = .ok (.goto (-22), 3) := by decide +kernel
theorem d_Y_tick_40 : decode prog_1_method_8_code 40 = .ok (.aload_n 0, 1) := by decide +kernel
theorem d_Y_tick_41 : decode prog_1_method_8_code 41 = .ok (.invokevirtual 103, 3) := by decide +kernel
theorem d_Y_tick_44 : decode prog_1_method_8_code 44 = .ok (.aload_n 0, 1) := by decide +kernel
theorem d_Y_tick_45 : decode prog_1_method_8_code 45 = .ok (.getfield 66, 3) := by decide +kernel
theorem d_Y_tick_48 : decode prog_1_method_8_code 48 = .ok (.ireturn, 1) := by decide +kernel
theorem d_Y_abort_0 : decode prog_1_method_9_code 0 = .ok (.aload_n 0, 1) := by decide +kernel
theorem d_Y_abort_1 : decode prog_1_method_9_code 1 = .ok (.iload_n 1, 1) := by decide +kernel
theorem d_Y_abort_2 : decode prog_1_method_9_code 2 = .ok (.invokevirtual 113, 3) := by decide +kernel
theorem d_Y_abort_5 : decode prog_1_method_9_code 5 = .ok (.astore_n 2, 1) := by decide +kernel
theorem d_Y_abort_6 : decode prog_1_method_9_code 6 = .ok (.aload_n 2, 1) := by decide +kernel
theorem d_Y_abort_7 : decode prog_1_method_9_code 7 = .ok (.ifnull 10, 3) := by decide +kernel
theorem d_Y_abort_10 : decode prog_1_method_9_code 10 = .ok (.aload_n 2, 1) := by decide +kernel
theorem d_Y_abort_11 : decode prog_1_method_9_code 11 = .ok (.invokevirtual 117, 3) := by decide +kernel
theorem d_Y_abort_14 : decode prog_1_method_9_code 14 = .ok (.ifCond .eq 5, 3) := by decide +kernel
theorem d_Y_abort_17 : decode prog_1_method_9_code 17 = .ok (.iconst 0, 1) := by decide +kernel
theorem d_Y_abort_18 : decode prog_1_method_9_code 18 = .ok (.ireturn, 1) := by decide +kernel
theorem d_Y_abort_19 : decode prog_1_method_9_code 19 = .ok (.aload_n 0, 1) := by decide +kernel
theorem d_Y_abort_20 : decode prog_1_method_9_code 20 = .ok (.iload_n 1, 1) := by decide +kernel
theorem d_Y_abort_21 : decode prog_1_method_9_code 21 = .ok (.invokevirtual 120, 3) := by decide +kernel
theorem d_Y_abort_24 : decode prog_1_method_9_code 24 = .ok (.aload_n 2, 1) := by decide +kernel
theorem d_Y_abort_25 : decode prog_1_method_9_code 25 = .ok (.iconst 4, 1) := by decide +kernel
theorem d_Y_abort_26 : decode prog_1_method_9_code 26 = .ok (.putfield 123, 3) := by decide +kernel
theorem d_Y_abort_29 : decode prog_1_method_9_code 29 = .ok (.aload_n 0, 1) := by decide +kernel
theorem d_Y_abort_30 : decode prog_1_method_9_code 30 = .ok (.aload_n 2, 1) := by decide +kernel
theorem d_Y_abort_31 : decode prog_1_method_9_code 31 = .ok (.iconst 0, 1) := by decide +kernel
theorem d_Y_abort_32 : decode prog_1_method_9_code 32 = .ok (.invokevirtual 126, 3) := by decide +kernel
theorem d_Y_abort_35 : decode prog_1_method_9_code 35 = .ok (.aload_n 0, 1) := by decide +kernel
theorem d_Y_abort_36 : decode prog_1_method_9_code 36 = .ok (.iload_n 1, 1) := by decide +kernel
theorem d_Y_abort_37 : decode prog_1_method_9_code 37 = .ok (.invokevirtual 130, 3) := by decide +kernel
theorem d_Y_abort_40 : decode prog_1_method_9_code 40 = .ok (.aload_n 0, 1) := by decide +kernel
theorem d_Y_abort_41 : decode prog_1_method_9_code 41 = .ok (.invokevirtual 103, 3) := by decide +kernel
theorem d_Y_abort_44 : decode prog_1_method_9_code 44 = .ok (.iconst 1, 1) := by decide +kernel
theorem d_Y_abort_45 : decode prog_1_method_9_code 45 = .ok (.ireturn, 1) := by decide +kernel
theorem d_Y_put_0 : decode prog_1_method_10_code 0 = .ok (.iload_n 1, 1) := by decide +kernel
theorem d_Y_put_1 : decode prog_1_method_10_code 1 = .ok (.ifCond .lt 19, 3) := by decide +kernel
theorem d_Y_put_4 : decode prog_1_method_10_code 4 = .ok (.iload_n 1, 1) := by decide +kernel
theorem d_Y_put_5 : decode prog_1_method_10_code 5 = .ok (.iconst 1, 1) := by decide +kernel
theorem d_Y_put_6 : decode prog_1_method_10_code 6 = .ok (.if_icmp .gt 14, 3) := by decide +kernel
theorem d_Y_put_9 : decode prog_1_method_10_code 9 = .ok (.iload_n 2, 1) := by decide +kernel
theorem d_Y_put_10 : decode prog_1_method_10_code 10 = .ok (.iconst 1, 1) := by decide +kernel
theorem d_Y_put_11 : decode prog_1_method_10_code 11 = .ok (.if_icmp .lt 9, 3) := by decide +kernel
theorem d_Y_put_14 : decode prog_1_method_10_code 14 = .ok (.iload_n 2, 1) := by decide +kernel
theorem d_Y_put_15 : decode prog_1_method_10_code 15 = .ok (.bipush 9, 2) := by decide +kernel
theorem d_Y_put_17 : decode prog_1_method_10_code 17 = .ok (.if_icmp .le 5, 3) := by decide +kernel
theorem d_Y_put_20 : decode prog_1_method_10_code 20 = .ok (.iconst (-1), 1) := by decide +kernel
theorem d_Y_put_21 : decode prog_1_method_10_code 21 = .ok (.ireturn, 1) := by decide +kernel
theorem d_Y_put_22 : decode prog_1_method_10_code 22 = .ok (.aload_n 0, 1) := by decide +kernel
theorem d_Y_put_23 : decode prog_1_method_10_code 23 = .ok (.aload_n 0, 1) := by decide +kernel
theorem d_Y_put_24 : decode prog_1_method_10_code 24 = .ok (.getfield 55, 3) := by decide +kernel
theorem d_Y_put_27 : decode prog_1_method_10_code 27 = .ok (.iload_n 1, 1) := by decide +kernel
theorem d_Y_put_28 : decode prog_1_method_10_code 28 = .ok (.aaload, 1) := by decide +kernel
theorem d_Y_put_29 : decode prog_1_method_10_code 29 = .ok (.iload_n 2, 1) := by decide +kernel
theorem d_Y_put_30 : decode prog_1_method_10_code 30 = .ok (.invokevirtual 133, 3) := by decide +kernel
theorem d_Y_put_33 : decode prog_1_method_10_code 33 = .ok (.aload_n 0, 1) := by decide +kernel
theorem d_Y_put_34 : decode prog_1_method_10_code 34 = .ok (.invokevirtual 103, 3) := by decide +kernel
theorem d_Y_put_37 : decode prog_1_method_10_code 37 = .ok (.aload_n 0, 1) := by decide +kernel
theorem d_Y_put_38 : decode prog_1_method_10_code 38 = .ok (.getfield 55, 3) := by decide +kernel
theorem d_Y_put_41 : decode prog_1_method_10_code 41 = .ok (.iload_n 1, 1) := by decide +kernel
theorem d_Y_put_42 : decode prog_1_method_10_code 42 = .ok (.aaload, 1) := by decide +kernel
theorem d_Y_put_43 : decode prog_1_method_10_code 43 = .ok (.getfield 137, 3) := by decide +kernel
theorem d_Y_put_46 : decode prog_1_method_10_code 46 = .ok (.ireturn, 1) := by decide +kernel
theorem d_Y_wake_0 : decode prog_1_method_11_code 0 = .ok (.iload_n 1, 1) := by decide +kernel
theorem d_Y_wake_1 : decode prog_1_method_11_code 1 = .ok (.ifCond .lt 8, 3) := by decide +kernel
theorem d_Y_wake_4 : decode prog_1_method_11_code 4 = .ok (.iload_n 1, 1) := by decide +kernel
theorem d_Y_wake_5 : decode prog_1_method_11_code 5 = .ok (.iconst 1, 1) := by decide +kernel
theorem d_Y_wake_6 : decode prog_1_method_11_code 6 = .ok (.if_icmp .le 5, 3) := by decide +kernel
theorem d_Y_wake_9 : decode prog_1_method_11_code 9 = .ok (.iconst (-1), 1) := by decide +kernel
theorem d_Y_wake_10 : decode prog_1_method_11_code 10 = .ok (.ireturn, 1) := by decide +kernel
theorem d_Y_wake_11 : decode prog_1_method_11_code 11 = .ok (.aload_n 0, 1) := by decide +kernel
theorem d_Y_wake_12 : decode prog_1_method_11_code 12 = .ok (.aload_n 0, 1) := by decide +kernel
theorem d_Y_wake_13 : decode prog_1_method_11_code 13 = .ok (.getfield 62, 3) := by decide +kernel
theorem d_Y_wake_16 : decode prog_1_method_11_code 16 = .ok (.iload_n 1, 1) := by decide +kernel
theorem d_Y_wake_17 : decode prog_1_method_11_code 17 = .ok (.aaload, 1) := by decide +kernel
theorem d_Y_wake_18 : decode prog_1_method_11_code 18 = .ok (.invokevirtual 140, 3) := by decide +kernel
theorem d_Y_wake_21 : decode prog_1_method_11_code 21 = .ok (.istore_n 2, 1) := by decide +kernel
theorem d_Y_wake_22 : decode prog_1_method_11_code 22 = .ok (.aload_n 0, 1) := by decide +kernel
theorem d_Y_wake_23 : decode prog_1_method_11_code 23 = .ok (.invokevirtual 103, 3) := by decide +kernel
theorem d_Y_wake_26 : decode prog_1_method_11_code 26 = .ok (.iload_n 2, 1) := by decide +kernel
theorem d_Y_wake_27 : decode prog_1_method_11_code 27 = .ok (.ifCond .eq 7, 3) := by decide +kernel
theorem d_Y_wake_30 : decode prog_1_method_11_code 30 = .ok (.iconst 1, 1) := by decide +kernel
theorem d_Y_wake_31 : decode prog_1_method_11_code 31 = .ok (.goto 4, 3) := by decide +kernel
theorem d_Y_wake_34 : decode prog_1_method_11_code 34 = .ok (.iconst 0, 1) := by decide +kernel
theorem d_Y_wake_35 : decode prog_1_method_11_code 35 = .ok (.ireturn, 1) := by decide +kernel
theorem d_Y_task_0 : decode prog_1_method_12_code 0 = .ok (.aload_n 0, 1) := by decide +kernel
theorem d_Y_task_1 : decode prog_1_method_12_code 1 = .ok (.iload_n 1, 1) := by decide +kernel
theorem d_Y_task_2 : decode prog_1_method_12_code 2 = .ok (.invokevirtual 113, 3) := by decide +kernel
theorem d_Y_task_5 : decode prog_1_method_12_code 5 = .ok (.astore_n 3, 1) := by decide +kernel
theorem d_Y_task_6 : decode prog_1_method_12_code 6 = .ok (.aload_n 3, 1) := by decide +kernel
theorem d_Y_task_7 : decode prog_1_method_12_code 7 = .ok (.ifnonnull 5, 3) := by decide +kernel
theorem d_Y_task_10 : decode prog_1_method_12_code 10 = .ok (.iconst (-1), 1) := by decide +kernel
theorem d_Y_task_11 : decode prog_1_method_12_code 11 = .ok (.ireturn, 1) := by decide +kernel
theorem d_Y_task_12 : decode prog_1_method_12_code 12 = .ok (.iload_n 2, 1) := by decide +kernel
theorem d_Y_task_13 : decode prog_1_method_12_code 13 = .ok (.tableswitch 70 0 5 #[39, 44, 49, 54, 59, 64], 39) := by decide +kernel
theorem d_Y_task_52 : decode prog_1_method_12_code 52 = .ok (.aload_n 3, 1) := by decide +kernel
theorem d_Y_task_53 : decode prog_1_method_12_code 53 = .ok (.getfield 123, 3) := by decide +kernel
theorem d_Y_task_56 : decode prog_1_method_12_code 56 = .ok (.ireturn, 1) := by decide +kernel
theorem d_Y_task_57 : decode prog_1_method_12_code 57 = .ok (.aload_n 3, 1) := by decide +kernel
theorem d_Y_task_58 : decode prog_1_method_12_code 58 = .ok (.getfield 144, 3) := by decide +kernel
theorem d_Y_task_61 : decode prog_1_method_12_code 61 = .ok (.ireturn, 1) := by decide +kernel
theorem d_Y_task_62 : decode prog_1_method_12_code 62 = .ok (.aload_n 3, 1) := by decide +kernel
theorem d_Y_task_63 : decode prog_1_method_12_code 63 = .ok (.getfield 147, 3) := by decide +kernel
theorem d_Y_task_66 : decode prog_1_method_12_code 66 = .ok (.ireturn, 1) := by decide +kernel
theorem d_Y_task_67 : decode prog_1_method_12_code 67 = .ok (.aload_n 3, 1) := by decide +kernel
theorem d_Y_task_68 : decode prog_1_method_12_code 68 = .ok (.getfield 150, 3) := by decide +kernel
theorem d_Y_task_71 : decode prog_1_method_12_code 71 = .ok (.ireturn, 1) := by decide +kernel
theorem d_Y_task_72 : decode prog_1_method_12_code 72 = .ok (.aload_n 3, 1) := by decide +kernel
theorem d_Y_task_73 : decode prog_1_method_12_code 73 = .ok (.getfield 153, 3) := by decide +kernel
theorem d_Y_task_76 : decode prog_1_method_12_code 76 = .ok (.ireturn, 1) := by decide +kernel
theorem d_Y_task_77 : decode prog_1_method_12_code 77 = .ok (.aload_n 0, 1) := by decide +kernel
theorem d_Y_task_78 : decode prog_1_method_12_code 78 = .ok (.iload_n 1, 1) := by decide +kernel
theorem d_Y_task_79 : decode prog_1_method_12_code 79 = .ok (.invokevirtual 156, 3) := by decide +kernel
theorem d_Y_task_82 : decode prog_1_method_12_code 82 = .ok (.ireturn, 1) := by decide +kernel
theorem d_Y_task_83 : decode prog_1_method_12_code 83 = .ok (.iconst (-1), 1) := by decide +kernel
theorem d_Y_task_84 : decode prog_1_method_12_code 84 = .ok (.ireturn, 1) := by decide +kernel
theorem d_Y_worker_0 : decode prog_1_method_13_code 0 = .ok (.iload_n 1, 1) := by decide +kernel
theorem d_Y_worker_1 : decode prog_1_method_13_code 1 = .ok (.ifCond .lt 8, 3) := by decide +kernel
theorem d_Y_worker_4 : decode prog_1_method_13_code 4 = .ok (.iload_n 1, 1) := by decide +kernel
theorem d_Y_worker_5 : decode prog_1_method_13_code 5 = .ok (.iconst 3, 1) := by decide +kernel
theorem d_Y_worker_6 : decode prog_1_method_13_code 6 = .ok (.if_icmp .lt 5, 3) := by decide +kernel
theorem d_Y_worker_9 : decode prog_1_method_13_code 9 = .ok (.iconst (-1), 1) := by decide +kernel
theorem d_Y_worker_10 : decode prog_1_method_13_code 10 = .ok (.ireturn, 1) := by decide +kernel
theorem d_Y_worker_11 : decode prog_1_method_13_code 11 = .ok (.aload_n 0, 1) := by decide +kernel
theorem d_Y_worker_12 : decode prog_1_method_13_code 12 = .ok (.getfield 38, 3) := by decide +kernel
theorem d_Y_worker_15 : decode prog_1_method_13_code 15 = .ok (.iload_n 1, 1) := by decide +kernel
theorem d_Y_worker_16 : decode prog_1_method_13_code 16 = .ok (.aaload, 1) := by decide +kernel
theorem d_Y_worker_17 : decode prog_1_method_13_code 17 = .ok (.astore_n 3, 1) := by decide +kernel
theorem d_Y_worker_18 : decode prog_1_method_13_code 18 = .ok (.iload_n 2, 1) := by decide +kernel
theorem d_Y_worker_19 : decode prog_1_method_13_code 19 = .ok (.tableswitch 79 0 7 #[45, 50, 55, 63, 63, 63, 63, 74], 45) := by decide +kernel
theorem d_Y_worker_64 : decode prog_1_method_13_code 64 = .ok (.aload_n 3, 1) := by decide +kernel
theorem d_Y_worker_65 : decode prog_1_method_13_code 65 = .ok (.getfield 159, 3) := by decide +kernel
theorem d_Y_worker_68 : decode prog_1_method_13_code 68 = .ok (.ireturn, 1) := by decide +kernel
theorem d_Y_worker_69 : decode prog_1_method_13_code 69 = .ok (.aload_n 3, 1) := by decide +kernel
theorem d_Y_worker_70 : decode prog_1_method_13_code 70 = .ok (.getfield 162, 3) := by decide +kernel
theorem d_Y_worker_73 : decode prog_1_method_13_code 73 = .ok (.ireturn, 1) := by decide +kernel
theorem d_Y_worker_74 : decode prog_1_method_13_code 74 = .ok (.aload_n 3, 1) := by decide +kernel
theorem d_Y_worker_75 : decode prog_1_method_13_code 75 = .ok (.getfield 165, 3) := by decide +kernel
theorem d_Y_worker_78 : decode prog_1_method_13_code 78 = .ok (.getfield 168, 3) := by decide +kernel
theorem d_Y_worker_81 : decode prog_1_method_13_code 81 = .ok (.ireturn, 1) := by decide +kernel
theorem d_Y_worker_82 : decode prog_1_method_13_code 82 = .ok (.aload_n 3, 1) := by decide +kernel
theorem d_Y_worker_83 : decode prog_1_method_13_code 83 = .ok (.getfield 165, 3) := by decide +kernel
theorem d_Y_worker_86 : decode prog_1_method_13_code 86 = .ok (.iload_n 2, 1) := by decide +kernel
theorem d_Y_worker_87 : decode prog_1_method_13_code 87 = .ok (.iconst 3, 1) := by decide +kernel
theorem d_Y_worker_88 : decode prog_1_method_13_code 88 = .ok (.isub, 1) := by decide +kernel
theorem d_Y_worker_89 : decode prog_1_method_13_code 89 = .ok (.invokevirtual 169, 3) := by decide +kernel
theorem d_Y_worker_92 : decode prog_1_method_13_code 92 = .ok (.ireturn, 1) := by decide +kernel
theorem d_Y_worker_93 : decode prog_1_method_13_code 93 = .ok (.aload_n 3, 1) := by decide +kernel
theorem d_Y_worker_94 : decode prog_1_method_13_code 94 = .ok (.getfield 172, 3) := by decide +kernel
theorem d_Y_worker_97 : decode prog_1_method_13_code 97 = .ok (.ireturn, 1) := by decide +kernel
theorem d_Y_worker_98 : decode prog_1_method_13_code 98 = .ok (.iconst (-1), 1) := by decide +kernel
theorem d_Y_worker_99 : decode prog_1_method_13_code 99 = .ok (.ireturn, 1) := by decide +kernel
theorem d_Y_injected_0 : decode prog_1_method_14_code 0 = .ok (.iload_n 1, 1) := by decide +kernel
theorem d_Y_injected_1 : decode prog_1_method_14_code 1 = .ok (.ifCond .lt 14, 3) := by decide +kernel
theorem d_Y_injected_4 : decode prog_1_method_14_code 4 = .ok (.iload_n 1, 1) := by decide +kernel
theorem d_Y_injected_5 : decode prog_1_method_14_code 5 = .ok (.aload_n 0, 1) := by decide +kernel
theorem d_Y_injected_6 : decode prog_1_method_14_code 6 = .ok (.getfield 45, 3) := by decide +kernel
theorem d_Y_injected_9 : decode prog_1_method_14_code 9 = .ok (.getfield 168, 3) := by decide +kernel
theorem d_Y_injected_12 : decode prog_1_method_14_code 12 = .ok (.if_icmp .lt 7, 3) := by decide +kernel
theorem d_Y_injected_15 : decode prog_1_method_14_code 15 = .ok (.iconst (-1), 1) := by decide +kernel
theorem d_Y_injected_16 : decode prog_1_method_14_code 16 = .ok (.goto 11, 3) := by decide +kernel
theorem d_Y_injected_19 : decode prog_1_method_14_code 19 = .ok (.aload_n 0, 1) := by decide +kernel
theorem d_Y_injected_20 : decode prog_1_method_14_code 20 = .ok (.getfield 45, 3) := by decide +kernel
theorem d_Y_injected_23 : decode prog_1_method_14_code 23 = .ok (.iload_n 1, 1) := by decide +kernel
theorem d_Y_injected_24 : decode prog_1_method_14_code 24 = .ok (.invokevirtual 169, 3) := by decide +kernel
theorem d_Y_injected_27 : decode prog_1_method_14_code 27 = .ok (.ireturn, 1) := by decide +kernel
theorem d_Y_gate_0 : decode prog_1_method_15_code 0 = .ok (.iload_n 1, 1) := by decide +kernel
theorem d_Y_gate_1 : decode prog_1_method_15_code 1 = .ok (.ifCond .lt 8, 3) := by decide +kernel
theorem d_Y_gate_4 : decode prog_1_method_15_code 4 = .ok (.iload_n 1, 1) := by decide +kernel
theorem d_Y_gate_5 : decode prog_1_method_15_code 5 = .ok (.iconst 1, 1) := by decide +kernel
theorem d_Y_gate_6 : decode prog_1_method_15_code 6 = .ok (.if_icmp .le 5, 3) := by decide +kernel
theorem d_Y_gate_9 : decode prog_1_method_15_code 9 = .ok (.iconst (-1), 1) := by decide +kernel
theorem d_Y_gate_10 : decode prog_1_method_15_code 10 = .ok (.ireturn, 1) := by decide +kernel
theorem d_Y_gate_11 : decode prog_1_method_15_code 11 = .ok (.iload_n 2, 1) := by decide +kernel
theorem d_Y_gate_12 : decode prog_1_method_15_code 12 = .ok (.tableswitch 101 0 4 #[36, 46, 59, 70, 88], 36) := by decide +kernel
theorem d_Y_gate_48 : decode prog_1_method_15_code 48 = .ok (.aload_n 0, 1) := by decide +kernel
theorem d_Y_gate_49 : decode prog_1_method_15_code 49 = .ok (.getfield 55, 3) := by decide +kernel
theorem d_Y_gate_52 : decode prog_1_method_15_code 52 = .ok (.iload_n 1, 1) := by decide +kernel
theorem d_Y_gate_53 : decode prog_1_method_15_code 53 = .ok (.aaload, 1) := by decide +kernel
theorem d_Y_gate_54 : decode prog_1_method_15_code 54 = .ok (.getfield 137, 3) := by decide +kernel
theorem d_Y_gate_57 : decode prog_1_method_15_code 57 = .ok (.ireturn, 1) := by decide +kernel
theorem d_Y_gate_58 : decode prog_1_method_15_code 58 = .ok (.aload_n 0, 1) := by decide +kernel
theorem d_Y_gate_59 : decode prog_1_method_15_code 59 = .ok (.getfield 55, 3) := by decide +kernel
theorem d_Y_gate_62 : decode prog_1_method_15_code 62 = .ok (.iload_n 1, 1) := by decide +kernel
theorem d_Y_gate_63 : decode prog_1_method_15_code 63 = .ok (.aaload, 1) := by decide +kernel
theorem d_Y_gate_64 : decode prog_1_method_15_code 64 = .ok (.getfield 175, 3) := by decide +kernel
theorem d_Y_gate_67 : decode prog_1_method_15_code 67 = .ok (.getfield 168, 3) := by decide +kernel
theorem d_Y_gate_70 : decode prog_1_method_15_code 70 = .ok (.ireturn, 1) := by decide +kernel
theorem d_Y_gate_71 : decode prog_1_method_15_code 71 = .ok (.aload_n 0, 1) := by decide +kernel
theorem d_Y_gate_72 : decode prog_1_method_15_code 72 = .ok (.aload_n 0, 1) := by decide +kernel
theorem d_Y_gate_73 : decode prog_1_method_15_code 73 = .ok (.getfield 55, 3) := by decide +kernel
theorem d_Y_gate_76 : decode prog_1_method_15_code 76 = .ok (.iload_n 1, 1) := by decide +kernel
theorem d_Y_gate_77 : decode prog_1_method_15_code 77 = .ok (.aaload, 1) := by decide +kernel
theorem d_Y_gate_78 : decode prog_1_method_15_code 78 = .ok (.invokevirtual 178, 3) := by decide +kernel
theorem d_Y_gate_81 : decode prog_1_method_15_code 81 = .ok (.ireturn, 1) := by decide +kernel
theorem d_Y_gate_82 : decode prog_1_method_15_code 82 = .ok (.aload_n 0, 1) := by decide +kernel
theorem d_Y_gate_83 : decode prog_1_method_15_code 83 = .ok (.getfield 62, 3) := by decide +kernel
theorem d_Y_gate_86 : decode prog_1_method_15_code 86 = .ok (.iload_n 1, 1) := by decide +kernel
theorem d_Y_gate_87 : decode prog_1_method_15_code 87 = .ok (.aaload, 1) := by decide +kernel
theorem d_Y_gate_88 : decode prog_1_method_15_code 88 = .ok (.getfield 182, 3) := by decide +kernel
theorem d_Y_gate_91 : decode prog_1_method_15_code 91 = .ok (.ifCond .eq 7, 3) := by decide +kernel
theorem d_Y_gate_94 : decode prog_1_method_15_code 94 = .ok (.iconst 1, 1) := by decide +kernel
theorem d_Y_gate_95 : decode prog_1_method_15_code 95 = .ok (.goto 4, 3) := by decide +kernel
theorem d_Y_gate_98 : decode prog_1_method_15_code 98 = .ok (.iconst 0, 1) := by decide +kernel
theorem d_Y_gate_99 : decode prog_1_method_15_code 99 = .ok (.ireturn, 1) := by decide +kernel
theorem d_Y_gate_100 : decode prog_1_method_15_code 100 = .ok (.aload_n 0, 1) := by decide +kernel
theorem d_Y_gate_101 : decode prog_1_method_15_code 101 = .ok (.getfield 62, 3) := by decide +kernel
theorem d_Y_gate_104 : decode prog_1_method_15_code 104 = .ok (.iload_n 1, 1) := by decide +kernel
theorem d_Y_gate_105 : decode prog_1_method_15_code 105 = .ok (.aaload, 1) := by decide +kernel
theorem d_Y_gate_106 : decode prog_1_method_15_code 106 = .ok (.getfield 186, 3) := by decide +kernel
theorem d_Y_gate_109 : decode prog_1_method_15_code 109 = .ok (.getfield 168, 3) := by decide +kernel
theorem d_Y_gate_112 : decode prog_1_method_15_code 112 = .ok (.ireturn, 1) := by decide +kernel
theorem d_Y_gate_113 : decode prog_1_method_15_code 113 = .ok (.iconst (-1), 1) := by decide +kernel
theorem d_Y_gate_114 : decode prog_1_method_15_code 114 = .ok (.ireturn, 1) := by decide +kernel
theorem d_Y_count_0 : decode prog_1_method_16_code 0 = .ok (.iload_n 1, 1) := by decide +kernel
theorem d_Y_count_1 : decode prog_1_method_16_code 1 = .ok (.tableswitch 93 0 7 #[47, 52, 57, 62, 67, 72, 80, 85], 47) := by decide +kernel
theorem d_Y_count_48 : decode prog_1_method_16_code 48 = .ok (.aload_n 0, 1) := by decide +kernel
theorem d_Y_count_49 : decode prog_1_method_16_code 49 = .ok (.getfield 20, 3) := by decide +kernel
theorem d_Y_count_52 : decode prog_1_method_16_code 52 = .ok (.ireturn, 1) := by decide +kernel
theorem d_Y_count_53 : decode prog_1_method_16_code 53 = .ok (.aload_n 0, 1) := by decide +kernel
theorem d_Y_count_54 : decode prog_1_method_16_code 54 = .ok (.getfield 30, 3) := by decide +kernel
theorem d_Y_count_57 : decode prog_1_method_16_code 57 = .ok (.ireturn, 1) := by decide +kernel
theorem d_Y_count_58 : decode prog_1_method_16_code 58 = .ok (.aload_n 0, 1) := by decide +kernel
theorem d_Y_count_59 : decode prog_1_method_16_code 59 = .ok (.invokevirtual 187, 3) := by decide +kernel
theorem d_Y_count_62 : decode prog_1_method_16_code 62 = .ok (.ireturn, 1) := by decide +kernel
theorem d_Y_count_63 : decode prog_1_method_16_code 63 = .ok (.aload_n 0, 1) := by decide +kernel
theorem d_Y_count_64 : decode prog_1_method_16_code 64 = .ok (.getfield 66, 3) := by decide +kernel
theorem d_Y_count_67 : decode prog_1_method_16_code 67 = .ok (.ireturn, 1) := by decide +kernel
theorem d_Y_count_68 : decode prog_1_method_16_code 68 = .ok (.aload_n 0, 1) := by decide +kernel
theorem d_Y_count_69 : decode prog_1_method_16_code 69 = .ok (.getfield 69, 3) := by decide +kernel
theorem d_Y_count_72 : decode prog_1_method_16_code 72 = .ok (.ireturn, 1) := by decide +kernel
theorem d_Y_count_73 : decode prog_1_method_16_code 73 = .ok (.aload_n 0, 1) := by decide +kernel
theorem d_Y_count_74 : decode prog_1_method_16_code 74 = .ok (.getfield 45, 3) := by decide +kernel
theorem d_Y_count_77 : decode prog_1_method_16_code 77 = .ok (.getfield 168, 3) := by decide +kernel
theorem d_Y_count_80 : decode prog_1_method_16_code 80 = .ok (.ireturn, 1) := by decide +kernel
theorem d_Y_count_81 : decode prog_1_method_16_code 81 = .ok (.aload_n 0, 1) := by decide +kernel
theorem d_Y_count_82 : decode prog_1_method_16_code 82 = .ok (.getfield 72, 3) := by decide +kernel
theorem d_Y_count_85 : decode prog_1_method_16_code 85 = .ok (.ireturn, 1) := by decide +kernel
theorem d_Y_count_86 : decode prog_1_method_16_code 86 = .ok (.aload_n 0, 1) := by decide +kernel
theorem d_Y_count_87 : decode prog_1_method_16_code 87 = .ok (.getfield 10, 3) := by decide +kernel
theorem d_Y_count_90 : decode prog_1_method_16_code 90 = .ok (.getfield 89, 3) := by decide +kernel
theorem d_Y_count_93 : decode prog_1_method_16_code 93 = .ok (.ireturn, 1) := by decide +kernel
theorem d_Y_count_94 : decode prog_1_method_16_code 94 = .ok (.iconst (-1), 1) := by decide +kernel
theorem d_Y_count_95 : decode prog_1_method_16_code 95 = .ok (.ireturn, 1) := by decide +kernel
theorem d_Y_whereQueued_0 : decode prog_1_method_17_code 0 = .ok (.aload_n 0, 1) := by decide +kernel
theorem d_Y_whereQueued_1 : decode prog_1_method_17_code 1 = .ok (.getfield 45, 3) := by decide +kernel
theorem d_Y_whereQueued_4 : decode prog_1_method_17_code 4 = .ok (.iload_n 1, 1) := by decide +kernel
theorem d_Y_whereQueued_5 : decode prog_1_method_17_code 5 = .ok (.invokevirtual 191, 3) := by decide +kernel
theorem d_Y_whereQueued_8 : decode prog_1_method_17_code 8 = .ok (.ifCond .eq 5, 3) := by decide +kernel
theorem d_Y_whereQueued_11 : decode prog_1_method_17_code 11 = .ok (.iconst 1, 1) := by decide +kernel
theorem d_Y_whereQueued_12 : decode prog_1_method_17_code 12 = .ok (.ireturn, 1) := by decide +kernel
theorem d_Y_whereQueued_13 : decode prog_1_method_17_code 13 = .ok (.aload_n 0, 1) := by decide +kernel
theorem d_Y_whereQueued_14 : decode prog_1_method_17_code 14 = .ok (.getfield 38, 3) := by decide +kernel
theorem d_Y_whereQueued_17 : decode prog_1_method_17_code 17 = .ok (.astore_n 2, 1) := by decide +kernel
theorem d_Y_whereQueued_18 : decode prog_1_method_17_code 18 = .ok (.aload_n 2, 1) := by decide +kernel
theorem d_Y_whereQueued_19 : decode prog_1_method_17_code 19 = .ok (.arraylength, 1) := by decide +kernel
theorem d_Y_whereQueued_20 : decode prog_1_method_17_code 20 = .ok (.istore_n 3, 1) := by decide +kernel
theorem d_Y_whereQueued_21 : decode prog_1_method_17_code 21 = .ok (.iconst 0, 1) := by decide +kernel
theorem d_Y_whereQueued_22 : decode prog_1_method_17_code 22 = .ok (.istore 4, 2) := by decide +kernel
theorem d_Y_whereQueued_24 : decode prog_1_method_17_code 24 = .ok (.iload 4, 2) := by decide +kernel
theorem d_Y_whereQueued_26 : decode prog_1_method_17_code 26 = .ok (.iload_n 3, 1) := by decide +kernel
theorem d_Y_whereQueued_27 : decode prog_1_method_17_code 27 = .ok (.if_icmp .ge 52, 3) := by decide +kernel
theorem d_Y_whereQueued_30 : decode prog_1_method_17_code 30 = .ok (.aload_n 2, 1) := by decide +kernel
theorem d_Y_whereQueued_31 : decode prog_1_method_17_code 31 = .ok (.iload 4, 2) := by decide +kernel
theorem d_Y_whereQueued_33 : decode prog_1_method_17_code 33 = .ok (.aaload, 1) := by decide +kernel
theorem d_Y_whereQueued_34 : decode prog_1_method_17_code 34 = .ok (.astore 5, 2) := by decide +kernel
theorem d_Y_whereQueued_36 : decode prog_1_method_17_code 36 = .ok (.aload 5, 2) := by decide +kernel
theorem d_Y_whereQueued_38 : decode prog_1_method_17_code 38 = .ok (.getfield 159, 3) := by decide +kernel
theorem d_Y_whereQueued_41 : decode prog_1_method_17_code 41 = .ok (.iload_n 1, 1) := by decide +kernel
theorem d_Y_whereQueued_42 : decode prog_1_method_17_code 42 = .ok (.if_icmp .ne 11, 3) := by decide +kernel
theorem d_Y_whereQueued_45 : decode prog_1_method_17_code 45 = .ok (.iconst 2, 1) := by decide +kernel
theorem d_Y_whereQueued_46 : decode prog_1_method_17_code 46 = .ok (.aload 5, 2) := by decide +kernel
theorem d_Y_whereQueued_48 : decode prog_1_method_17_code 48 = .ok (.getfield 195, 3) := by decide +kernel
theorem d_Y_whereQueued_51 : decode prog_1_method_17_code 51 = .ok (.iadd, 1) := by decide +kernel
theorem d_Y_whereQueued_52 : decode prog_1_method_17_code 52 = .ok (.ireturn, 1) := by decide +kernel
theorem d_Y_whereQueued_53 : decode prog_1_method_17_code 53 = .ok (.aload 5, 2) := by decide +kernel
theorem d_Y_whereQueued_55 : decode prog_1_method_17_code 55 = .ok (.getfield 165, 3) := by decide +kernel
theorem d_Y_whereQueued_58 : decode prog_1_method_17_code 58 = .ok (.iload_n 1, 1) := by decide +kernel
theorem d_Y_whereQueued_59 : decode prog_1_method_17_code 59 = .ok (.invokevirtual 191, 3) := by decide +kernel
theorem d_Y_whereQueued_62 : decode prog_1_method_17_code 62 = .ok (.ifCond .eq 11, 3) := by decide +kernel
theorem d_Y_whereQueued_65 : decode prog_1_method_17_code 65 = .ok (.iconst 5, 1) := by decide +kernel
theorem d_Y_whereQueued_66 : decode prog_1_method_17_code 66 = .ok (.aload 5, 2) := by decide +kernel
theorem d_Y_whereQueued_68 : decode prog_1_method_17_code 68 = .ok (.getfield 195, 3) := by decide +kernel
theorem d_Y_whereQueued_71 : decode prog_1_method_17_code 71 = .ok (.iadd, 1) := by decide +kernel
theorem d_Y_whereQueued_72 : decode prog_1_method_17_code 72 = .ok (.ireturn, 1) := by decide +kernel
theorem d_Y_whereQueued_73 : decode prog_1_method_17_code 73 = .ok (.iinc 4 1, 3) := by decide +kernel
theorem d_Y_whereQueued_76 : decode prog_1_method_17_code 76 = .ok (.goto (-52), 3) := by decide +kernel
theorem d_Y_whereQueued_79 : decode prog_1_method_17_code 79 = .ok (.iconst 0, 1) := by decide +kernel
theorem d_Y_whereQueued_80 : decode prog_1_method_17_code 80 = .ok (.ireturn, 1) := by decide +kernel
theorem d_Y_gotByFirst_0 : decode prog_1_method_18_code 0 = .ok (.aload_n 1, 1) := by decide +kernel
theorem d_Y_gotByFirst_1 : decode prog_1_method_18_code 1 = .ok (.getfield 175, 3) := by decide +kernel
theorem d_Y_gotByFirst_4 : decode prog_1_method_18_code 4 = .ok (.invokevirtual 198, 3) := by decide +kernel
theorem d_Y_gotByFirst_7 : decode prog_1_method_18_code 7 = .ok (.ifCond .eq 5, 3) := by decide +kernel
theorem d_Y_gotByFirst_10 : decode prog_1_method_18_code 10 = .ok (.iconst 0, 1) := by decide +kernel
theorem d_Y_gotByFirst_11 : decode prog_1_method_18_code 11 = .ok (.ireturn, 1) := by decide +kernel
theorem d_Y_gotByFirst_12 : decode prog_1_method_18_code 12 = .ok (.aload_n 1, 1) := by decide +kernel
theorem d_Y_gotByFirst_13 : decode prog_1_method_18_code 13 = .ok (.getfield 175, 3) := by decide +kernel
theorem d_Y_gotByFirst_16 : decode prog_1_method_18_code 16 = .ok (.iconst 0, 1) := by decide +kernel
theorem d_Y_gotByFirst_17 : decode prog_1_method_18_code 17 = .ok (.invokevirtual 169, 3) := by decide +kernel
theorem d_Y_gotByFirst_20 : decode prog_1_method_18_code 20 = .ok (.istore_n 2, 1) := by decide +kernel
theorem d_Y_gotByFirst_21 : decode prog_1_method_18_code 21 = .ok (.aload_n 0, 1) := by decide +kernel
theorem d_Y_gotByFirst_22 : decode prog_1_method_18_code 22 = .ok (.iload_n 2, 1) := by decide +kernel
theorem d_Y_gotByFirst_23 : decode prog_1_method_18_code 23 = .ok (.invokevirtual 201, 3) := by decide +kernel
theorem d_Y_gotByFirst_26 : decode prog_1_method_18_code 26 = .ok (.astore_n 3, 1) := by decide +kernel
theorem d_Y_gotByFirst_27 : decode prog_1_method_18_code 27 = .ok (.aload_n 3, 1) := by decide +kernel
theorem d_Y_gotByFirst_28 : decode prog_1_method_18_code 28 = .ok (.ifnonnull 7, 3) := by decide +kernel
theorem d_Y_gotByFirst_31 : decode prog_1_method_18_code 31 = .ok (.iconst 0, 1) := by decide +kernel
theorem d_Y_gotByFirst_32 : decode prog_1_method_18_code 32 = .ok (.goto 12, 3) := by decide +kernel
theorem d_Y_gotByFirst_35 : decode prog_1_method_18_code 35 = .ok (.aload_n 3, 1) := by decide +kernel
theorem d_Y_gotByFirst_36 : decode prog_1_method_18_code 36 = .ok (.getfield 204, 3) := by decide +kernel
theorem d_Y_gotByFirst_39 : decode prog_1_method_18_code 39 = .ok (.iload_n 2, 1) := by decide +kernel
theorem d_Y_gotByFirst_40 : decode prog_1_method_18_code 40 = .ok (.bipush 12, 2) := by decide +kernel
theorem d_Y_gotByFirst_42 : decode prog_1_method_18_code 42 = .ok (.irem, 1) := by decide +kernel
theorem d_Y_gotByFirst_43 : decode prog_1_method_18_code 43 = .ok (.iaload, 1) := by decide +kernel
theorem d_Y_gotByFirst_44 : decode prog_1_method_18_code 44 = .ok (.ireturn, 1) := by decide +kernel
theorem d_Y_tasksNotEnded_0 : decode prog_1_method_19_code 0 = .ok (.iconst 0, 1) := by decide +kernel
theorem d_Y_tasksNotEnded_1 : decode prog_1_method_19_code 1 = .ok (.istore_n 1, 1) := by decide +kernel
theorem d_Y_tasksNotEnded_2 : decode prog_1_method_19_code 2 = .ok (.iconst 0, 1) := by decide +kernel
theorem d_Y_tasksNotEnded_3 : decode prog_1_method_19_code 3 = .ok (.istore_n 2, 1) := by decide +kernel
theorem d_Y_tasksNotEnded_4 : decode prog_1_method_19_code 4 = .ok (.iload_n 2, 1) := by decide +kernel
theorem d_Y_tasksNotEnded_5 : decode prog_1_method_19_code 5 = .ok (.aload_n 0, 1) := by decide +kernel
theorem d_Y_tasksNotEnded_6 : decode prog_1_method_19_code 6 = .ok (.getfield 30, 3) := by decide +kernel
theorem d_Y_tasksNotEnded_9 : decode prog_1_method_19_code 9 = .ok (.if_icmp .ge 29, 3) := by decide +kernel
theorem d_Y_tasksNotEnded_12 : decode prog_1_method_19_code 12 = .ok (.aload_n 0, 1) := by decide +kernel
theorem d_Y_tasksNotEnded_13 : decode prog_1_method_19_code 13 = .ok (.iload_n 2, 1) := by decide +kernel
theorem d_Y_tasksNotEnded_14 : decode prog_1_method_19_code 14 = .ok (.invokevirtual 113, 3) := by decide +kernel
theorem d_Y_tasksNotEnded_17 : decode prog_1_method_19_code 17 = .ok (.astore_n 3, 1) := by decide +kernel
theorem d_Y_tasksNotEnded_18 : decode prog_1_method_19_code 18 = .ok (.aload_n 3, 1) := by decide +kernel
theorem d_Y_tasksNotEnded_19 : decode prog_1_method_19_code 19 = .ok (.ifnull 13, 3) := by decide +kernel
theorem d_Y_tasksNotEnded_22 : decode prog_1_method_19_code 22 = .ok (.aload_n 3, 1) := by decide +kernel
theorem d_Y_tasksNotEnded_23 : decode prog_1_method_19_code 23 = .ok (.invokevirtual 117, 3) := by decide +kernel
theorem d_Y_tasksNotEnded_26 : decode prog_1_method_19_code 26 = .ok (.ifCond .ne 6, 3) := by decide +kernel
theorem d_Y_tasksNotEnded_29 : decode prog_1_method_19_code 29 = .ok (.iinc 1 1, 3) := by decide +kernel
theorem d_Y_tasksNotEnded_32 : decode prog_1_method_19_code 32 = .ok (.iinc 2 1, 3) := by decide +kernel
theorem d_Y_tasksNotEnded_35 : decode prog_1_method_19_code 35 = .ok (.goto (-31), 3) := by decide +kernel
theorem d_Y_tasksNotEnded_38 : decode prog_1_method_19_code 38 = .ok (.iload_n 1, 1) := by decide +kernel
theorem d_Y_tasksNotEnded_39 : decode prog_1_method_19_code 39 = .ok (.ireturn, 1) := by decide +kernel
theorem d_Y_taskAt_0 : decode prog_1_method_20_code 0 = .ok (.iload_n 1, 1) := by decide +kernel
theorem d_Y_taskAt_1 : decode prog_1_method_20_code 1 = .ok (.ifCond .lt 17, 3) := by decide +kernel
theorem d_Y_taskAt_4 : decode prog_1_method_20_code 4 = .ok (.iload_n 1, 1) := by decide +kernel
theorem d_Y_taskAt_5 : decode prog_1_method_20_code 5 = .ok (.aload_n 0, 1) := by decide +kernel
theorem d_Y_taskAt_6 : decode prog_1_method_20_code 6 = .ok (.getfield 30, 3) := by decide +kernel
theorem d_Y_taskAt_9 : decode prog_1_method_20_code 9 = .ok (.if_icmp .ge 9, 3) := by decide +kernel
theorem d_Y_taskAt_12 : decode prog_1_method_20_code 12 = .ok (.iload_n 1, 1) := by decide +kernel
theorem d_Y_taskAt_13 : decode prog_1_method_20_code 13 = .ok (.bipush 12, 2) := by decide +kernel
theorem d_Y_taskAt_15 : decode prog_1_method_20_code 15 = .ok (.if_icmp .lt 7, 3) := by decide +kernel
theorem d_Y_taskAt_18 : decode prog_1_method_20_code 18 = .ok (.aconst_null, 1) := by decide +kernel
theorem d_Y_taskAt_19 : decode prog_1_method_20_code 19 = .ok (.goto 9, 3) := by decide +kernel
theorem d_Y_taskAt_22 : decode prog_1_method_20_code 22 = .ok (.aload_n 0, 1) := by decide +kernel
theorem d_Y_taskAt_23 : decode prog_1_method_20_code 23 = .ok (.getfield 26, 3) := by decide +kernel
theorem d_Y_taskAt_26 : decode prog_1_method_20_code 26 = .ok (.iload_n 1, 1) := by decide +kernel
theorem d_Y_taskAt_27 : decode prog_1_method_20_code 27 = .ok (.aaload, 1) := by decide +kernel
theorem d_Y_taskAt_28 : decode prog_1_method_20_code 28 = .ok (.areturn, 1) := by decide +kernel
theorem d_Y_ownerOf_0 : decode prog_1_method_21_code 0 = .ok (.iload_n 1, 1) := by decide +kernel
theorem d_Y_ownerOf_1 : decode prog_1_method_21_code 1 = .ok (.ifCond .ge 7, 3) := by decide +kernel
theorem d_Y_ownerOf_4 : decode prog_1_method_21_code 4 = .ok (.aconst_null, 1) := by decide +kernel
theorem d_Y_ownerOf_5 : decode prog_1_method_21_code 5 = .ok (.goto 11, 3) := by decide +kernel
theorem d_Y_ownerOf_8 : decode prog_1_method_21_code 8 = .ok (.aload_n 0, 1) := by decide +kernel
theorem d_Y_ownerOf_9 : decode prog_1_method_21_code 9 = .ok (.iload_n 1, 1) := by decide +kernel
theorem d_Y_ownerOf_10 : decode prog_1_method_21_code 10 = .ok (.bipush 12, 2) := by decide +kernel
theorem d_Y_ownerOf_12 : decode prog_1_method_21_code 12 = .ok (.idiv, 1) := by decide +kernel
theorem d_Y_ownerOf_13 : decode prog_1_method_21_code 13 = .ok (.invokevirtual 113, 3) := by decide +kernel
theorem d_Y_ownerOf_16 : decode prog_1_method_21_code 16 = .ok (.areturn, 1) := by decide +kernel
theorem d_Y_makeTask_0 : decode prog_1_method_22_code 0 = .ok (.iload_n 1, 1) := by decide +kernel
theorem d_Y_makeTask_1 : decode prog_1_method_22_code 1 = .ok (.ifCond .lt 20, 3) := by decide +kernel
theorem d_Y_makeTask_4 : decode prog_1_method_22_code 4 = .ok (.iload_n 1, 1) := by decide +kernel
theorem d_Y_makeTask_5 : decode prog_1_method_22_code 5 = .ok (.aload_n 0, 1) := by decide +kernel
theorem d_Y_makeTask_6 : decode prog_1_method_22_code 6 = .ok (.getfield 20, 3) := by decide +kernel
theorem d_Y_makeTask_9 : decode prog_1_method_22_code 9 = .ok (.if_icmp .ge 12, 3) := by decide +kernel
theorem d_Y_makeTask_12 : decode prog_1_method_22_code 12 = .ok (.aload_n 0, 1) := by decide +kernel
theorem d_Y_makeTask_13 : decode prog_1_method_22_code 13 = .ok (.getfield 30, 3) := by decide +kernel
theorem d_Y_makeTask_16 : decode prog_1_method_22_code 16 = .ok (.bipush 12, 2) := by decide +kernel
theorem d_Y_makeTask_18 : decode prog_1_method_22_code 18 = .ok (.if_icmp .lt 5, 3) := by decide +kernel
theorem d_Y_makeTask_21 : decode prog_1_method_22_code 21 = .ok (.iconst (-1), 1) := by decide +kernel
theorem d_Y_makeTask_22 : decode prog_1_method_22_code 22 = .ok (.ireturn, 1) := by decide +kernel
theorem d_Y_makeTask_23 : decode prog_1_method_22_code 23 = .ok (.aload_n 0, 1) := by decide +kernel
theorem d_Y_makeTask_24 : decode prog_1_method_22_code 24 = .ok (.getfield 30, 3) := by decide +kernel
theorem d_Y_makeTask_27 : decode prog_1_method_22_code 27 = .ok (.istore_n 2, 1) := by decide +kernel
theorem d_Y_makeTask_28 : decode prog_1_method_22_code 28 = .ok (.aload_n 0, 1) := by decide +kernel
theorem d_Y_makeTask_29 : decode prog_1_method_22_code 29 = .ok (.getfield 26, 3) := by decide +kernel
theorem d_Y_makeTask_32 : decode prog_1_method_22_code 32 = .ok (.iload_n 2, 1) := by decide +kernel
theorem d_Y_makeTask_33 : decode prog_1_method_22_code 33 = .ok (.new 24, 3) := by decide +kernel
theorem d_Y_makeTask_36 : decode prog_1_method_22_code 36 = .ok (.dup, 1) := by decide +kernel
theorem d_Y_makeTask_37 : decode prog_1_method_22_code 37 = .ok (.iload_n 2, 1) := by decide +kernel
theorem d_Y_makeTask_38 : decode prog_1_method_22_code 38 = .ok (.iload_n 1, 1) := by decide +kernel
theorem d_Y_makeTask_39 : decode prog_1_method_22_code 39 = .ok (.aload_n 0, 1) := by decide +kernel
theorem d_Y_makeTask_40 : decode prog_1_method_22_code 40 = .ok (.getfield 16, 3) := by decide +kernel
theorem d_Y_makeTask_43 : decode prog_1_method_22_code 43 = .ok (.iload_n 1, 1) := by decide +kernel
theorem d_Y_makeTask_44 : decode prog_1_method_22_code 44 = .ok (.aaload, 1) := by decide +kernel
theorem d_Y_makeTask_45 : decode prog_1_method_22_code 45 = .ok (.invokespecial 207, 3) := by decide +kernel
theorem d_Y_makeTask_48 : decode prog_1_method_22_code 48 = .ok (.aastore, 1) := by decide +kernel
theorem d_Y_makeTask_49 : decode prog_1_method_22_code 49 = .ok (.aload_n 0, 1) := by decide +kernel
theorem d_Y_makeTask_50 : decode prog_1_method_22_code 50 = .ok (.dup, 1) := by decide +kernel
theorem d_Y_makeTask_51 : decode prog_1_method_22_code 51 = .ok (.getfield 30, 3) := by decide +kernel
theorem d_Y_makeTask_54 : decode prog_1_method_22_code 54 = .ok (.iconst 1, 1) := by decide +kernel
theorem d_Y_makeTask_55 : decode prog_1_method_22_code 55 = .ok (.iadd, 1) := by decide +kernel
theorem d_Y_makeTask_56 : decode prog_1_method_22_code 56 = .ok (.putfield 30, 3) := by decide +kernel
theorem d_Y_makeTask_59 : decode prog_1_method_22_code 59 = .ok (.aload_n 0, 1) := by decide +kernel
theorem d_Y_makeTask_60 : decode prog_1_method_22_code 60 = .ok (.getfield 49, 3) := by decide +kernel
theorem d_Y_makeTask_63 : decode prog_1_method_22_code 63 = .ok (.iload_n 2, 1) := by decide +kernel
theorem d_Y_makeTask_64 : decode prog_1_method_22_code 64 = .ok (.invokevirtual 210, 3) := by decide +kernel
theorem d_Y_makeTask_67 : decode prog_1_method_22_code 67 = .ok (.iload_n 2, 1) := by decide +kernel
theorem d_Y_makeTask_68 : decode prog_1_method_22_code 68 = .ok (.ireturn, 1) := by decide +kernel
theorem d_Y_wakeTask_0 : decode prog_1_method_23_code 0 = .ok (.aload_n 1, 1) := by decide +kernel
theorem d_Y_wakeTask_1 : decode prog_1_method_23_code 1 = .ok (.getfield 123, 3) := by decide +kernel
theorem d_Y_wakeTask_4 : decode prog_1_method_23_code 4 = .ok (.ifCond .ne 22, 3) := by decide +kernel
theorem d_Y_wakeTask_7 : decode prog_1_method_23_code 7 = .ok (.aload_n 1, 1) := by decide +kernel
theorem d_Y_wakeTask_8 : decode prog_1_method_23_code 8 = .ok (.iconst 1, 1) := by decide +kernel
theorem d_Y_wakeTask_9 : decode prog_1_method_23_code 9 = .ok (.putfield 123, 3) := by decide +kernel
theorem d_Y_wakeTask_12 : decode prog_1_method_23_code 12 = .ok (.aload_n 0, 1) := by decide +kernel
theorem d_Y_wakeTask_13 : decode prog_1_method_23_code 13 = .ok (.getfield 49, 3) := by decide +kernel
theorem d_Y_wakeTask_16 : decode prog_1_method_23_code 16 = .ok (.aload_n 1, 1) := by decide +kernel
theorem d_Y_wakeTask_17 : decode prog_1_method_23_code 17 = .ok (.getfield 213, 3) := by decide +kernel
theorem d_Y_wakeTask_20 : decode prog_1_method_23_code 20 = .ok (.invokevirtual 210, 3) := by decide +kernel
theorem d_Y_wakeTask_23 : decode prog_1_method_23_code 23 = .ok (.goto 16, 3) := by decide +kernel
theorem d_Y_wakeTask_26 : decode prog_1_method_23_code 26 = .ok (.aload_n 1, 1) := by decide +kernel
theorem d_Y_wakeTask_27 : decode prog_1_method_23_code 27 = .ok (.getfield 123, 3) := by decide +kernel
theorem d_Y_wakeTask_30 : decode prog_1_method_23_code 30 = .ok (.iconst 5, 1) := by decide +kernel
theorem d_Y_wakeTask_31 : decode prog_1_method_23_code 31 = .ok (.if_icmp .ne 8, 3) := by decide +kernel
theorem d_Y_wakeTask_34 : decode prog_1_method_23_code 34 = .ok (.aload_n 1, 1) := by decide +kernel
theorem d_Y_wakeTask_35 : decode prog_1_method_23_code 35 = .ok (.iconst 1, 1) := by decide +kernel
theorem d_Y_wakeTask_36 : decode prog_1_method_23_code 36 = .ok (.putfield 214, 3) := by decide +kernel
theorem d_Y_wakeTask_39 : decode prog_1_method_23_code 39 = .ok (.return_, 1) := by decide +kernel
theorem d_Y_wakeReapers_0 : decode prog_1_method_24_code 0 = .ok (.iconst 0, 1) := by decide +kernel
theorem d_Y_wakeReapers_1 : decode prog_1_method_24_code 1 = .ok (.istore_n 2, 1) := by decide +kernel
theorem d_Y_wakeReapers_2 : decode prog_1_method_24_code 2 = .ok (.iload_n 2, 1) := by decide +kernel
theorem d_Y_wakeReapers_3 : decode prog_1_method_24_code 3 = .ok (.aload_n 0, 1) := by decide +kernel
theorem d_Y_wakeReapers_4 : decode prog_1_method_24_code 4 = .ok (.getfield 30, 3) := by decide +kernel
theorem d_Y_wakeReapers_7 : decode prog_1_method_24_code 7 = .ok (.if_icmp .ge 32, 3) := by decide +kernel
theorem d_Y_wakeReapers_10 : decode prog_1_method_24_code 10 = .ok (.aload_n 0, 1) := by decide +kernel
theorem d_Y_wakeReapers_11 : decode prog_1_method_24_code 11 = .ok (.iload_n 2, 1) := by decide +kernel
theorem d_Y_wakeReapers_12 : decode prog_1_method_24_code 12 = .ok (.invokevirtual 113, 3) := by decide +kernel
theorem d_Y_wakeReapers_15 : decode prog_1_method_24_code 15 = .ok (.astore_n 3, 1) := by decide +kernel
theorem d_Y_wakeReapers_16 : decode prog_1_method_24_code 16 = .ok (.aload_n 3, 1) := by decide +kernel
theorem d_Y_wakeReapers_17 : decode prog_1_method_24_code 17 = .ok (.ifnull 16, 3) := by decide +kernel
theorem d_Y_wakeReapers_20 : decode prog_1_method_24_code 20 = .ok (.aload_n 3, 1) := by decide +kernel
theorem d_Y_wakeReapers_21 : decode prog_1_method_24_code 21 = .ok (.iload_n 1, 1) := by decide +kernel
theorem d_Y_wakeReapers_22 : decode prog_1_method_24_code 22 = .ok (.invokevirtual 217, 3) := by decide +kernel
theorem d_Y_wakeReapers_25 : decode prog_1_method_24_code 25 = .ok (.ifCond .eq 8, 3) := by decide +kernel
theorem d_Y_wakeReapers_28 : decode prog_1_method_24_code 28 = .ok (.aload_n 0, 1) := by decide +kernel
theorem d_Y_wakeReapers_29 : decode prog_1_method_24_code 29 = .ok (.aload_n 3, 1) := by decide +kernel
theorem d_Y_wakeReapers_30 : decode prog_1_method_24_code 30 = .ok (.invokevirtual 220, 3) := by decide +kernel
theorem d_Y_wakeReapers_33 : decode prog_1_method_24_code 33 = .ok (.iinc 2 1, 3) := by decide +kernel
theorem d_Y_wakeReapers_36 : decode prog_1_method_24_code 36 = .ok (.goto (-34), 3) := by decide +kernel
theorem d_Y_wakeReapers_39 : decode prog_1_method_24_code 39 = .ok (.return_, 1) := by decide +kernel
theorem d_Y_wakeTheDue_0 : decode prog_1_method_25_code 0 = .ok (.iconst 0, 1) := by decide +kernel
theorem d_Y_wakeTheDue_1 : decode prog_1_method_25_code 1 = .ok (.istore_n 1, 1) := by decide +kernel
theorem d_Y_wakeTheDue_2 : decode prog_1_method_25_code 2 = .ok (.iload_n 1, 1) := by decide +kernel
theorem d_Y_wakeTheDue_3 : decode prog_1_method_25_code 3 = .ok (.aload_n 0, 1) := by decide +kernel
theorem d_Y_wakeTheDue_4 : decode prog_1_method_25_code 4 = .ok (.getfield 30, 3) := by decide +kernel
theorem d_Y_wakeTheDue_7 : decode prog_1_method_25_code 7 = .ok (.if_icmp .ge 35, 3) := by decide +kernel
theorem d_Y_wakeTheDue_10 : decode prog_1_method_25_code 10 = .ok (.aload_n 0, 1) := by decide +kernel
theorem d_Y_wakeTheDue_11 : decode prog_1_method_25_code 11 = .ok (.iload_n 1, 1) := by decide +kernel
theorem d_Y_wakeTheDue_12 : decode prog_1_method_25_code 12 = .ok (.invokevirtual 113, 3) := by decide +kernel
theorem d_Y_wakeTheDue_15 : decode prog_1_method_25_code 15 = .ok (.astore_n 2, 1) := by decide +kernel
theorem d_Y_wakeTheDue_16 : decode prog_1_method_25_code 16 = .ok (.aload_n 2, 1) := by decide +kernel
theorem d_Y_wakeTheDue_17 : decode prog_1_method_25_code 17 = .ok (.ifnull 19, 3) := by decide +kernel
theorem d_Y_wakeTheDue_20 : decode prog_1_method_25_code 20 = .ok (.aload_n 2, 1) := by decide +kernel
theorem d_Y_wakeTheDue_21 : decode prog_1_method_25_code 21 = .ok (.aload_n 0, 1) := by decide +kernel
theorem d_Y_wakeTheDue_22 : decode prog_1_method_25_code 22 = .ok (.getfield 66, 3) := by decide +kernel
theorem d_Y_wakeTheDue_25 : decode prog_1_method_25_code 25 = .ok (.invokevirtual 224, 3) := by decide +kernel
theorem d_Y_wakeTheDue_28 : decode prog_1_method_25_code 28 = .ok (.ifCond .eq 8, 3) := by decide +kernel
theorem d_Y_wakeTheDue_31 : decode prog_1_method_25_code 31 = .ok (.aload_n 0, 1) := by decide +kernel
theorem d_Y_wakeTheDue_32 : decode prog_1_method_25_code 32 = .ok (.aload_n 2, 1) := by decide +kernel
theorem d_Y_wakeTheDue_33 : decode prog_1_method_25_code 33 = .ok (.invokevirtual 220, 3) := by decide +kernel
theorem d_Y_wakeTheDue_36 : decode prog_1_method_25_code 36 = .ok (.iinc 1 1, 3) := by decide +kernel
theorem d_Y_wakeTheDue_39 : decode prog_1_method_25_code 39 = .ok (.goto (-37), 3) := by decide +kernel
theorem d_Y_wakeTheDue_42 : decode prog_1_method_25_code 42 = .ok (.return_, 1) := by decide +kernel
theorem d_Y_injectWoken_0 : decode prog_1_method_26_code 0 = .ok (.iconst 0, 1) := by decide +kernel
theorem d_Y_injectWoken_1 : decode prog_1_method_26_code 1 = .ok (.istore_n 1, 1) := by decide +kernel
theorem d_Y_injectWoken_2 : decode prog_1_method_26_code 2 = .ok (.iload_n 1, 1) := by decide +kernel
theorem d_Y_injectWoken_3 : decode prog_1_method_26_code 3 = .ok (.aload_n 0, 1) := by decide +kernel
theorem d_Y_injectWoken_4 : decode prog_1_method_26_code 4 = .ok (.getfield 49, 3) := by decide +kernel
theorem d_Y_injectWoken_7 : decode prog_1_method_26_code 7 = .ok (.getfield 168, 3) := by decide +kernel
theorem d_Y_injectWoken_10 : decode prog_1_method_26_code 10 = .ok (.if_icmp .ge 24, 3) := by decide +kernel
theorem d_Y_injectWoken_13 : decode prog_1_method_26_code 13 = .ok (.aload_n 0, 1) := by decide +kernel
theorem d_Y_injectWoken_14 : decode prog_1_method_26_code 14 = .ok (.getfield 45, 3) := by decide +kernel
theorem d_Y_injectWoken_17 : decode prog_1_method_26_code 17 = .ok (.aload_n 0, 1) := by decide +kernel
theorem d_Y_injectWoken_18 : decode prog_1_method_26_code 18 = .ok (.getfield 49, 3) := by decide +kernel
theorem d_Y_injectWoken_21 : decode prog_1_method_26_code 21 = .ok (.iload_n 1, 1) := by decide +kernel
theorem d_Y_injectWoken_22 : decode prog_1_method_26_code 22 = .ok (.invokevirtual 169, 3) := by decide +kernel
theorem d_Y_injectWoken_25 : decode prog_1_method_26_code 25 = .ok (.invokevirtual 210, 3) := by decide +kernel
theorem d_Y_injectWoken_28 : decode prog_1_method_26_code 28 = .ok (.iinc 1 1, 3) := by decide +kernel
theorem d_Y_injectWoken_31 : decode prog_1_method_26_code 31 = .ok (.goto (-29), 3) := by decide +kernel
theorem d_Y_injectWoken_34 : decode prog_1_method_26_code 34 = .ok (.aload_n 0, 1) := by decide +kernel
theorem d_Y_injectWoken_35 : decode prog_1_method_26_code 35 = .ok (.getfield 49, 3) := by decide +kernel
theorem d_Y_injectWoken_38 : decode prog_1_method_26_code 38 = .ok (.iconst 0, 1) := by decide +kernel
theorem d_Y_injectWoken_39 : decode prog_1_method_26_code 39 = .ok (.putfield 168, 3) := by decide +kernel
theorem d_Y_injectWoken_42 : decode prog_1_method_26_code 42 = .ok (.return_, 1) := by decide +kernel
theorem d_Y_slotWoken_0 : decode prog_1_method_27_code 0 = .ok (.iconst 0, 1) := by decide +kernel
theorem d_Y_slotWoken_1 : decode prog_1_method_27_code 1 = .ok (.istore_n 2, 1) := by decide +kernel
theorem d_Y_slotWoken_2 : decode prog_1_method_27_code 2 = .ok (.iload_n 2, 1) := by decide +kernel
theorem d_Y_slotWoken_3 : decode prog_1_method_27_code 3 = .ok (.aload_n 0, 1) := by decide +kernel
theorem d_Y_slotWoken_4 : decode prog_1_method_27_code 4 = .ok (.getfield 49, 3) := by decide +kernel
theorem d_Y_slotWoken_7 : decode prog_1_method_27_code 7 = .ok (.getfield 168, 3) := by decide +kernel
theorem d_Y_slotWoken_10 : decode prog_1_method_27_code 10 = .ok (.if_icmp .ge 38, 3) := by decide +kernel
theorem d_Y_slotWoken_13 : decode prog_1_method_27_code 13 = .ok (.aload_n 1, 1) := by decide +kernel
theorem d_Y_slotWoken_14 : decode prog_1_method_27_code 14 = .ok (.getfield 159, 3) := by decide +kernel
theorem d_Y_slotWoken_17 : decode prog_1_method_27_code 17 = .ok (.iconst (-1), 1) := by decide +kernel
theorem d_Y_slotWoken_18 : decode prog_1_method_27_code 18 = .ok (.if_icmp .eq 12, 3) := by decide +kernel
theorem d_Y_slotWoken_21 : decode prog_1_method_27_code 21 = .ok (.aload_n 0, 1) := by decide +kernel
theorem d_Y_slotWoken_22 : decode prog_1_method_27_code 22 = .ok (.aload_n 1, 1) := by decide +kernel
theorem d_Y_slotWoken_23 : decode prog_1_method_27_code 23 = .ok (.aload_n 1, 1) := by decide +kernel
theorem d_Y_slotWoken_24 : decode prog_1_method_27_code 24 = .ok (.getfield 159, 3) := by decide +kernel
theorem d_Y_slotWoken_27 : decode prog_1_method_27_code 27 = .ok (.invokevirtual 227, 3) := by decide +kernel
theorem d_Y_slotWoken_30 : decode prog_1_method_27_code 30 = .ok (.aload_n 1, 1) := by decide +kernel
theorem d_Y_slotWoken_31 : decode prog_1_method_27_code 31 = .ok (.aload_n 0, 1) := by decide +kernel
theorem d_Y_slotWoken_32 : decode prog_1_method_27_code 32 = .ok (.getfield 49, 3) := by decide +kernel
theorem d_Y_slotWoken_35 : decode prog_1_method_27_code 35 = .ok (.iload_n 2, 1) := by decide +kernel
theorem d_Y_slotWoken_36 : decode prog_1_method_27_code 36 = .ok (.invokevirtual 169, 3) := by decide +kernel
theorem d_Y_slotWoken_39 : decode prog_1_method_27_code 39 = .ok (.putfield 159, 3) := by decide +kernel
theorem d_Y_slotWoken_42 : decode prog_1_method_27_code 42 = .ok (.iinc 2 1, 3) := by decide +kernel
theorem d_Y_slotWoken_45 : decode prog_1_method_27_code 45 = .ok (.goto (-43), 3) := by decide +kernel
theorem d_Y_slotWoken_48 : decode prog_1_method_27_code 48 = .ok (.aload_n 0, 1) := by decide +kernel
theorem d_Y_slotWoken_49 : decode prog_1_method_27_code 49 = .ok (.getfield 49, 3) := by decide +kernel
theorem d_Y_slotWoken_52 : decode prog_1_method_27_code 52 = .ok (.iconst 0, 1) := by decide +kernel
theorem d_Y_slotWoken_53 : decode prog_1_method_27_code 53 = .ok (.putfield 168, 3) := by decide +kernel
theorem d_Y_slotWoken_56 : decode prog_1_method_27_code 56 = .ok (.return_, 1) := by decide +kernel
theorem d_Y_pushToRing_0 : decode prog_1_method_28_code 0 = .ok (.aload_n 1, 1) := by decide +kernel
theorem d_Y_pushToRing_1 : decode prog_1_method_28_code 1 = .ok (.getfield 165, 3) := by decide +kernel
theorem d_Y_pushToRing_4 : decode prog_1_method_28_code 4 = .ok (.getfield 168, 3) := by decide +kernel
theorem d_Y_pushToRing_7 : decode prog_1_method_28_code 7 = .ok (.iconst 4, 1) := by decide +kernel
theorem d_Y_pushToRing_8 : decode prog_1_method_28_code 8 = .ok (.if_icmp .ge 12, 3) := by decide +kernel
theorem d_Y_pushToRing_11 : decode prog_1_method_28_code 11 = .ok (.aload_n 1, 1) := by decide +kernel
theorem d_Y_pushToRing_12 : decode prog_1_method_28_code 12 = .ok (.getfield 165, 3) := by decide +kernel
theorem d_Y_pushToRing_15 : decode prog_1_method_28_code 15 = .ok (.iload_n 2, 1) := by decide +kernel
theorem d_Y_pushToRing_16 : decode prog_1_method_28_code 16 = .ok (.invokevirtual 210, 3) := by decide +kernel
theorem d_Y_pushToRing_19 : decode prog_1_method_28_code 19 = .ok (.return_, 1) := by decide +kernel
theorem d_Y_pushToRing_20 : decode prog_1_method_28_code 20 = .ok (.aload_n 0, 1) := by decide +kernel
theorem d_Y_pushToRing_21 : decode prog_1_method_28_code 21 = .ok (.getfield 45, 3) := by decide +kernel
theorem d_Y_pushToRing_24 : decode prog_1_method_28_code 24 = .ok (.aload_n 1, 1) := by decide +kernel
theorem d_Y_pushToRing_25 : decode prog_1_method_28_code 25 = .ok (.getfield 165, 3) := by decide +kernel
theorem d_Y_pushToRing_28 : decode prog_1_method_28_code 28 = .ok (.invokevirtual 231, 3) := by decide +kernel
theorem d_Y_pushToRing_31 : decode prog_1_method_28_code 31 = .ok (.invokevirtual 210, 3) := by decide +kernel
theorem d_Y_pushToRing_34 : decode prog_1_method_28_code 34 = .ok (.aload_n 0, 1) := by decide +kernel
theorem d_Y_pushToRing_35 : decode prog_1_method_28_code 35 = .ok (.getfield 45, 3) := by decide +kernel
theorem d_Y_pushToRing_38 : decode prog_1_method_28_code 38 = .ok (.aload_n 1, 1) := by decide +kernel
theorem d_Y_pushToRing_39 : decode prog_1_method_28_code 39 = .ok (.getfield 165, 3) := by decide +kernel
theorem d_Y_pushToRing_42 : decode prog_1_method_28_code 42 = .ok (.invokevirtual 231, 3) := by decide +kernel
theorem d_Y_pushToRing_45 : decode prog_1_method_28_code 45 = .ok (.invokevirtual 210, 3) := by decide +kernel
theorem d_Y_pushToRing_48 : decode prog_1_method_28_code 48 = .ok (.aload_n 0, 1) := by decide +kernel
theorem d_Y_pushToRing_49 : decode prog_1_method_28_code 49 = .ok (.getfield 45, 3) := by decide +kernel
theorem d_Y_pushToRing_52 : decode prog_1_method_28_code 52 = .ok (.iload_n 2, 1) := by decide +kernel
theorem d_Y_pushToRing_53 : decode prog_1_method_28_code 53 = .ok (.invokevirtual 210, 3) := by decide +kernel
theorem d_Y_pushToRing_56 : decode prog_1_method_28_code 56 = .ok (.return_, 1) := by decide +kernel
theorem d_Y_unqueue_0 : decode prog_1_method_29_code 0 = .ok (.aload_n 0, 1) := by decide +kernel
theorem d_Y_unqueue_1 : decode prog_1_method_29_code 1 = .ok (.getfield 45, 3) := by decide +kernel
theorem d_Y_unqueue_4 : decode prog_1_method_29_code 4 = .ok (.iload_n 1, 1) := by decide +kernel
theorem d_Y_unqueue_5 : decode prog_1_method_29_code 5 = .ok (.invokevirtual 234, 3) := by decide +kernel
theorem d_Y_unqueue_8 : decode prog_1_method_29_code 8 = .ok (.aload_n 0, 1) := by decide +kernel
theorem d_Y_unqueue_9 : decode prog_1_method_29_code 9 = .ok (.getfield 38, 3) := by decide +kernel
theorem d_Y_unqueue_12 : decode prog_1_method_29_code 12 = .ok (.astore_n 2, 1) := by decide +kernel
theorem d_Y_unqueue_13 : decode prog_1_method_29_code 13 = .ok (.aload_n 2, 1) := by decide +kernel
theorem d_Y_unqueue_14 : decode prog_1_method_29_code 14 = .ok (.arraylength, 1) := by decide +kernel
theorem d_Y_unqueue_15 : decode prog_1_method_29_code 15 = .ok (.istore_n 3, 1) := by decide +kernel
theorem d_Y_unqueue_16 : decode prog_1_method_29_code 16 = .ok (.iconst 0, 1) := by decide +kernel
theorem d_Y_unqueue_17 : decode prog_1_method_29_code 17 = .ok (.istore 4, 2) := by decide +kernel
theorem d_Y_unqueue_19 : decode prog_1_method_29_code 19 = .ok (.iload 4, 2) := by decide +kernel
theorem d_Y_unqueue_21 : decode prog_1_method_29_code 21 = .ok (.iload_n 3, 1) := by decide +kernel
theorem d_Y_unqueue_22 : decode prog_1_method_29_code 22 = .ok (.if_icmp .ge 39, 3) := by decide +kernel
theorem d_Y_unqueue_25 : decode prog_1_method_29_code 25 = .ok (.aload_n 2, 1) := by decide +kernel
theorem d_Y_unqueue_26 : decode prog_1_method_29_code 26 = .ok (.iload 4, 2) := by decide +kernel
theorem d_Y_unqueue_28 : decode prog_1_method_29_code 28 = .ok (.aaload, 1) := by decide +kernel
theorem d_Y_unqueue_29 : decode prog_1_method_29_code 29 = .ok (.astore 5, 2) := by decide +kernel
theorem d_Y_unqueue_31 : decode prog_1_method_29_code 31 = .ok (.aload 5, 2) := by decide +kernel
theorem d_Y_unqueue_33 : decode prog_1_method_29_code 33 = .ok (.getfield 165, 3) := by decide +kernel
theorem d_Y_unqueue_36 : decode prog_1_method_29_code 36 = .ok (.iload_n 1, 1) := by decide +kernel
theorem d_Y_unqueue_37 : decode prog_1_method_29_code 37 = .ok (.invokevirtual 234, 3) := by decide +kernel
theorem d_Y_unqueue_40 : decode prog_1_method_29_code 40 = .ok (.aload 5, 2) := by decide +kernel
theorem d_Y_unqueue_42 : decode prog_1_method_29_code 42 = .ok (.getfield 159, 3) := by decide +kernel
theorem d_Y_unqueue_45 : decode prog_1_method_29_code 45 = .ok (.iload_n 1, 1) := by decide +kernel
theorem d_Y_unqueue_46 : decode prog_1_method_29_code 46 = .ok (.if_icmp .ne 9, 3) := by decide +kernel
theorem d_Y_unqueue_49 : decode prog_1_method_29_code 49 = .ok (.aload 5, 2) := by decide +kernel
theorem d_Y_unqueue_51 : decode prog_1_method_29_code 51 = .ok (.iconst (-1), 1) := by decide +kernel
theorem d_Y_unqueue_52 : decode prog_1_method_29_code 52 = .ok (.putfield 159, 3) := by decide +kernel
theorem d_Y_unqueue_55 : decode prog_1_method_29_code 55 = .ok (.iinc 4 1, 3) := by decide +kernel
theorem d_Y_unqueue_58 : decode prog_1_method_29_code 58 = .ok (.goto (-39), 3) := by decide +kernel
theorem d_Y_unqueue_61 : decode prog_1_method_29_code 61 = .ok (.return_, 1) := by decide +kernel
theorem d_Y_takeTurn_0 : decode prog_1_method_30_code 0 = .ok (.aload_n 1, 1) := by decide +kernel
theorem d_Y_takeTurn_1 : decode prog_1_method_30_code 1 = .ok (.dup, 1) := by decide +kernel
theorem d_Y_takeTurn_2 : decode prog_1_method_30_code 2 = .ok (.getfield 162, 3) := by decide +kernel
theorem d_Y_takeTurn_5 : decode prog_1_method_30_code 5 = .ok (.iconst 1, 1) := by decide +kernel
theorem d_Y_takeTurn_6 : decode prog_1_method_30_code 6 = .ok (.iadd, 1) := by decide +kernel
theorem d_Y_takeTurn_7 : decode prog_1_method_30_code 7 = .ok (.putfield 162, 3) := by decide +kernel
theorem d_Y_takeTurn_10 : decode prog_1_method_30_code 10 = .ok (.aload_n 0, 1) := by decide +kernel
theorem d_Y_takeTurn_11 : decode prog_1_method_30_code 11 = .ok (.aload_n 0, 1) := by decide +kernel
theorem d_Y_takeTurn_12 : decode prog_1_method_30_code 12 = .ok (.aload_n 1, 1) := by decide +kernel
theorem d_Y_takeTurn_13 : decode prog_1_method_30_code 13 = .ok (.invokevirtual 237, 3) := by decide +kernel
theorem d_Y_takeTurn_16 : decode prog_1_method_30_code 16 = .ok (.invokevirtual 113, 3) := by decide +kernel
theorem d_Y_takeTurn_19 : decode prog_1_method_30_code 19 = .ok (.astore_n 2, 1) := by decide +kernel
theorem d_Y_takeTurn_20 : decode prog_1_method_30_code 20 = .ok (.aload_n 2, 1) := by decide +kernel
theorem d_Y_takeTurn_21 : decode prog_1_method_30_code 21 = .ok (.ifnonnull 6, 3) := by decide +kernel
theorem d_Y_takeTurn_24 : decode prog_1_method_30_code 24 = .ok (.bipush (-2), 2) := by decide +kernel
theorem d_Y_takeTurn_26 : decode prog_1_method_30_code 26 = .ok (.ireturn, 1) := by decide +kernel
theorem d_Y_takeTurn_27 : decode prog_1_method_30_code 27 = .ok (.aload_n 2, 1) := by decide +kernel
theorem d_Y_takeTurn_28 : decode prog_1_method_30_code 28 = .ok (.iconst 5, 1) := by decide +kernel
theorem d_Y_takeTurn_29 : decode prog_1_method_30_code 29 = .ok (.putfield 123, 3) := by decide +kernel
theorem d_Y_takeTurn_32 : decode prog_1_method_30_code 32 = .ok (.aload_n 2, 1) := by decide +kernel
theorem d_Y_takeTurn_33 : decode prog_1_method_30_code 33 = .ok (.iconst 0, 1) := by decide +kernel
theorem d_Y_takeTurn_34 : decode prog_1_method_30_code 34 = .ok (.putfield 214, 3) := by decide +kernel
theorem d_Y_takeTurn_37 : decode prog_1_method_30_code 37 = .ok (.aload_n 2, 1) := by decide +kernel
theorem d_Y_takeTurn_38 : decode prog_1_method_30_code 38 = .ok (.iconst 4, 1) := by decide +kernel
theorem d_Y_takeTurn_39 : decode prog_1_method_30_code 39 = .ok (.putfield 153, 3) := by decide +kernel
theorem d_Y_takeTurn_42 : decode prog_1_method_30_code 42 = .ok (.aload_n 2, 1) := by decide +kernel
theorem d_Y_takeTurn_43 : decode prog_1_method_30_code 43 = .ok (.dup, 1) := by decide +kernel
theorem d_Y_takeTurn_44 : decode prog_1_method_30_code 44 = .ok (.getfield 147, 3) := by decide +kernel
theorem d_Y_takeTurn_47 : decode prog_1_method_30_code 47 = .ok (.iconst 1, 1) := by decide +kernel
theorem d_Y_takeTurn_48 : decode prog_1_method_30_code 48 = .ok (.iadd, 1) := by decide +kernel
theorem d_Y_takeTurn_49 : decode prog_1_method_30_code 49 = .ok (.putfield 147, 3) := by decide +kernel
theorem d_Y_takeTurn_52 : decode prog_1_method_30_code 52 = .ok (.aload_n 0, 1) := by decide +kernel
theorem d_Y_takeTurn_53 : decode prog_1_method_30_code 53 = .ok (.dup, 1) := by decide +kernel
theorem d_Y_takeTurn_54 : decode prog_1_method_30_code 54 = .ok (.getfield 69, 3) := by decide +kernel
theorem d_Y_takeTurn_57 : decode prog_1_method_30_code 57 = .ok (.iconst 1, 1) := by decide +kernel
theorem d_Y_takeTurn_58 : decode prog_1_method_30_code 58 = .ok (.iadd, 1) := by decide +kernel
theorem d_Y_takeTurn_59 : decode prog_1_method_30_code 59 = .ok (.putfield 69, 3) := by decide +kernel
theorem d_Y_takeTurn_62 : decode prog_1_method_30_code 62 = .ok (.aload_n 0, 1) := by decide +kernel
theorem d_Y_takeTurn_63 : decode prog_1_method_30_code 63 = .ok (.aload_n 2, 1) := by decide +kernel
theorem d_Y_takeTurn_64 : decode prog_1_method_30_code 64 = .ok (.iconst 0, 1) := by decide +kernel
theorem d_Y_takeTurn_65 : decode prog_1_method_30_code 65 = .ok (.iconst 0, 1) := by decide +kernel
theorem d_Y_takeTurn_66 : decode prog_1_method_30_code 66 = .ok (.invokevirtual 240, 3) := by decide +kernel
theorem d_Y_takeTurn_69 : decode prog_1_method_30_code 69 = .ok (.iconst 1, 1) := by decide +kernel
theorem d_Y_takeTurn_70 : decode prog_1_method_30_code 70 = .ok (.if_icmp .ne 22, 3) := by decide +kernel
theorem d_Y_takeTurn_73 : decode prog_1_method_30_code 73 = .ok (.aload_n 2, 1) := by decide +kernel
theorem d_Y_takeTurn_74 : decode prog_1_method_30_code 74 = .ok (.aload_n 2, 1) := by decide +kernel
theorem d_Y_takeTurn_75 : decode prog_1_method_30_code 75 = .ok (.getfield 214, 3) := by decide +kernel
theorem d_Y_takeTurn_78 : decode prog_1_method_30_code 78 = .ok (.ifCond .eq 7, 3) := by decide +kernel
theorem d_Y_takeTurn_81 : decode prog_1_method_30_code 81 = .ok (.iconst 1, 1) := by decide +kernel
theorem d_Y_takeTurn_82 : decode prog_1_method_30_code 82 = .ok (.goto 4, 3) := by decide +kernel
theorem d_Y_takeTurn_85 : decode prog_1_method_30_code 85 = .ok (.iconst 0, 1) := by decide +kernel
theorem d_Y_takeTurn_86 : decode prog_1_method_30_code 86 = .ok (.putfield 123, 3) := by decide +kernel
theorem d_Y_takeTurn_89 : decode prog_1_method_30_code 89 = .ok (.goto 15, 3) := by decide +kernel
theorem d_Y_takeTurn_92 : decode prog_1_method_30_code 92 = .ok (.aload_n 2, 1) := by decide +kernel
theorem d_Y_takeTurn_93 : decode prog_1_method_30_code 93 = .ok (.invokevirtual 244, 3) := by decide +kernel
theorem d_Y_takeTurn_96 : decode prog_1_method_30_code 96 = .ok (.aload_n 0, 1) := by decide +kernel
theorem d_Y_takeTurn_97 : decode prog_1_method_30_code 97 = .ok (.aload_n 2, 1) := by decide +kernel
theorem d_Y_takeTurn_98 : decode prog_1_method_30_code 98 = .ok (.getfield 213, 3) := by decide +kernel
theorem d_Y_takeTurn_101 : decode prog_1_method_30_code 101 = .ok (.invokevirtual 130, 3) := by decide +kernel
theorem d_Y_takeTurn_104 : decode prog_1_method_30_code 104 = .ok (.aload_n 0, 1) := by decide +kernel
theorem d_Y_takeTurn_105 : decode prog_1_method_30_code 105 = .ok (.aload_n 1, 1) := by decide +kernel
theorem d_Y_takeTurn_106 : decode prog_1_method_30_code 106 = .ok (.invokevirtual 247, 3) := by decide +kernel
theorem d_Y_takeTurn_109 : decode prog_1_method_30_code 109 = .ok (.aload_n 2, 1) := by decide +kernel
theorem d_Y_takeTurn_110 : decode prog_1_method_30_code 110 = .ok (.getfield 123, 3) := by decide +kernel
theorem d_Y_takeTurn_113 : decode prog_1_method_30_code 113 = .ok (.iconst 1, 1) := by decide +kernel
theorem d_Y_takeTurn_114 : decode prog_1_method_30_code 114 = .ok (.if_icmp .ne 12, 3) := by decide +kernel
theorem d_Y_takeTurn_117 : decode prog_1_method_30_code 117 = .ok (.aload_n 0, 1) := by decide +kernel
theorem d_Y_takeTurn_118 : decode prog_1_method_30_code 118 = .ok (.aload_n 1, 1) := by decide +kernel
theorem d_Y_takeTurn_119 : decode prog_1_method_30_code 119 = .ok (.aload_n 2, 1) := by decide +kernel
theorem d_Y_takeTurn_120 : decode prog_1_method_30_code 120 = .ok (.getfield 213, 3) := by decide +kernel
theorem d_Y_takeTurn_123 : decode prog_1_method_30_code 123 = .ok (.invokevirtual 227, 3) := by decide +kernel
theorem d_Y_takeTurn_126 : decode prog_1_method_30_code 126 = .ok (.aload_n 2, 1) := by decide +kernel
theorem d_Y_takeTurn_127 : decode prog_1_method_30_code 127 = .ok (.getfield 213, 3) := by decide +kernel
theorem d_Y_takeTurn_130 : decode prog_1_method_30_code 130 = .ok (.ireturn, 1) := by decide +kernel
theorem d_Y_nextTask_0 : decode prog_1_method_31_code 0 = .ok (.aload_n 1, 1) := by decide +kernel
theorem d_Y_nextTask_1 : decode prog_1_method_31_code 1 = .ok (.getfield 162, 3) := by decide +kernel
theorem d_Y_nextTask_4 : decode prog_1_method_31_code 4 = .ok (.iconst 5, 1) := by decide +kernel
theorem d_Y_nextTask_5 : decode prog_1_method_31_code 5 = .ok (.irem, 1) := by decide +kernel
theorem d_Y_nextTask_6 : decode prog_1_method_31_code 6 = .ok (.ifCond .ne 17, 3) := by decide +kernel
theorem d_Y_nextTask_9 : decode prog_1_method_31_code 9 = .ok (.aload_n 0, 1) := by decide +kernel
theorem d_Y_nextTask_10 : decode prog_1_method_31_code 10 = .ok (.getfield 45, 3) := by decide +kernel
theorem d_Y_nextTask_13 : decode prog_1_method_31_code 13 = .ok (.invokevirtual 198, 3) := by decide +kernel
theorem d_Y_nextTask_16 : decode prog_1_method_31_code 16 = .ok (.ifCond .ne 7, 3) := by decide +kernel
theorem d_Y_nextTask_19 : decode prog_1_method_31_code 19 = .ok (.iconst 1, 1) := by decide +kernel
theorem d_Y_nextTask_20 : decode prog_1_method_31_code 20 = .ok (.goto 4, 3) := by decide +kernel
theorem d_Y_nextTask_23 : decode prog_1_method_31_code 23 = .ok (.iconst 0, 1) := by decide +kernel
theorem d_Y_nextTask_24 : decode prog_1_method_31_code 24 = .ok (.istore_n 2, 1) := by decide +kernel
theorem d_Y_nextTask_25 : decode prog_1_method_31_code 25 = .ok (.aload_n 1, 1) := by decide +kernel
theorem d_Y_nextTask_26 : decode prog_1_method_31_code 26 = .ok (.getfield 172, 3) := by decide +kernel
theorem d_Y_nextTask_29 : decode prog_1_method_31_code 29 = .ok (.iconst 2, 1) := by decide +kernel
theorem d_Y_nextTask_30 : decode prog_1_method_31_code 30 = .ok (.if_icmp .lt 23, 3) := by decide +kernel
theorem d_Y_nextTask_33 : decode prog_1_method_31_code 33 = .ok (.aload_n 1, 1) := by decide +kernel
theorem d_Y_nextTask_34 : decode prog_1_method_31_code 34 = .ok (.getfield 165, 3) := by decide +kernel
theorem d_Y_nextTask_37 : decode prog_1_method_31_code 37 = .ok (.invokevirtual 198, 3) := by decide +kernel
theorem d_Y_nextTask_40 : decode prog_1_method_31_code 40 = .ok (.ifCond .eq 17, 3) := by decide +kernel
theorem d_Y_nextTask_43 : decode prog_1_method_31_code 43 = .ok (.aload_n 0, 1) := by decide +kernel
theorem d_Y_nextTask_44 : decode prog_1_method_31_code 44 = .ok (.getfield 45, 3) := by decide +kernel
theorem d_Y_nextTask_47 : decode prog_1_method_31_code 47 = .ok (.invokevirtual 198, 3) := by decide +kernel
theorem d_Y_nextTask_50 : decode prog_1_method_31_code 50 = .ok (.ifCond .eq 7, 3) := by decide +kernel
theorem d_Y_nextTask_53 : decode prog_1_method_31_code 53 = .ok (.iconst 1, 1) := by decide +kernel
theorem d_Y_nextTask_54 : decode prog_1_method_31_code 54 = .ok (.goto 4, 3) := by decide +kernel
theorem d_Y_nextTask_57 : decode prog_1_method_31_code 57 = .ok (.iconst 0, 1) := by decide +kernel
theorem d_Y_nextTask_58 : decode prog_1_method_31_code 58 = .ok (.istore_n 3, 1) := by decide +kernel
theorem d_Y_nextTask_59 : decode prog_1_method_31_code 59 = .ok (.aload_n 1, 1) := by decide +kernel
theorem d_Y_nextTask_60 : decode prog_1_method_31_code 60 = .ok (.getfield 159, 3) := by decide +kernel
theorem d_Y_nextTask_63 : decode prog_1_method_31_code 63 = .ok (.iconst (-1), 1) := by decide +kernel
theorem d_Y_nextTask_64 : decode prog_1_method_31_code 64 = .ok (.if_icmp .eq 26, 3) := by decide +kernel
theorem d_Y_nextTask_67 : decode prog_1_method_31_code 67 = .ok (.iload_n 3, 1) := by decide +kernel
theorem d_Y_nextTask_68 : decode prog_1_method_31_code 68 = .ok (.ifCond .eq 22, 3) := by decide +kernel
theorem d_Y_nextTask_71 : decode prog_1_method_31_code 71 = .ok (.iload_n 2, 1) := by decide +kernel
theorem d_Y_nextTask_72 : decode prog_1_method_31_code 72 = .ok (.ifCond .ne 18, 3) := by decide +kernel
theorem d_Y_nextTask_75 : decode prog_1_method_31_code 75 = .ok (.aload_n 1, 1) := by decide +kernel
theorem d_Y_nextTask_76 : decode prog_1_method_31_code 76 = .ok (.dup, 1) := by decide +kernel
theorem d_Y_nextTask_77 : decode prog_1_method_31_code 77 = .ok (.getfield 172, 3) := by decide +kernel
theorem d_Y_nextTask_80 : decode prog_1_method_31_code 80 = .ok (.iconst 1, 1) := by decide +kernel
theorem d_Y_nextTask_81 : decode prog_1_method_31_code 81 = .ok (.iadd, 1) := by decide +kernel
theorem d_Y_nextTask_82 : decode prog_1_method_31_code 82 = .ok (.putfield 172, 3) := by decide +kernel
theorem d_Y_nextTask_85 : decode prog_1_method_31_code 85 = .ok (.aload_n 1, 1) := by decide +kernel
theorem d_Y_nextTask_86 : decode prog_1_method_31_code 86 = .ok (.invokevirtual 251, 3) := by decide +kernel
theorem d_Y_nextTask_89 : decode prog_1_method_31_code 89 = .ok (.ireturn, 1) := by decide +kernel
theorem d_Y_nextTask_90 : decode prog_1_method_31_code 90 = .ok (.aload_n 1, 1) := by decide +kernel
theorem d_Y_nextTask_91 : decode prog_1_method_31_code 91 = .ok (.iconst 0, 1) := by decide +kernel
theorem d_Y_nextTask_92 : decode prog_1_method_31_code 92 = .ok (.putfield 172, 3) := by decide +kernel
theorem d_Y_nextTask_95 : decode prog_1_method_31_code 95 = .ok (.iload_n 2, 1) := by decide +kernel
theorem d_Y_nextTask_96 : decode prog_1_method_31_code 96 = .ok (.ifCond .ne 21, 3) := by decide +kernel
theorem d_Y_nextTask_99 : decode prog_1_method_31_code 99 = .ok (.aload_n 1, 1) := by decide +kernel
theorem d_Y_nextTask_100 : decode prog_1_method_31_code 100 = .ok (.getfield 165, 3) := by decide +kernel
theorem d_Y_nextTask_103 : decode prog_1_method_31_code 103 = .ok (.invokevirtual 198, 3) := by decide +kernel
theorem d_Y_nextTask_106 : decode prog_1_method_31_code 106 = .ok (.ifCond .ne 11, 3) := by decide +kernel
theorem d_Y_nextTask_109 : decode prog_1_method_31_code 109 = .ok (.aload_n 1, 1) := by decide +kernel
theorem d_Y_nextTask_110 : decode prog_1_method_31_code 110 = .ok (.getfield 165, 3) := by decide +kernel
theorem d_Y_nextTask_113 : decode prog_1_method_31_code 113 = .ok (.invokevirtual 231, 3) := by decide +kernel
theorem d_Y_nextTask_116 : decode prog_1_method_31_code 116 = .ok (.ireturn, 1) := by decide +kernel
theorem d_Y_nextTask_117 : decode prog_1_method_31_code 117 = .ok (.aload_n 0, 1) := by decide +kernel
theorem d_Y_nextTask_118 : decode prog_1_method_31_code 118 = .ok (.getfield 45, 3) := by decide +kernel
theorem d_Y_nextTask_121 : decode prog_1_method_31_code 121 = .ok (.invokevirtual 198, 3) := by decide +kernel
end
section
theorem d_Y_nextTask_124 : decode prog_1_method_31_code 124 = .ok (.ifCond .eq 11, 3) := by decide +kernel
theorem d_Y_nextTask_127 : decode prog_1_method_31_code 127 = .ok (.aload_n 0, 1) := by decide +kernel
theorem d_Y_nextTask_128 : decode prog_1_method_31_code 128 = .ok (.aload_n 1, 1) := by decide +kernel
theorem d_Y_nextTask_129 : decode prog_1_method_31_code 129 = .ok (.invokevirtual 254, 3) := by decide +kernel
theorem d_Y_nextTask_132 : decode prog_1_method_31_code 132 = .ok (.goto 10, 3) := by decide +kernel
theorem d_Y_nextTask_135 : decode prog_1_method_31_code 135 = .ok (.aload_n 0, 1) := by decide +kernel
theorem d_Y_nextTask_136 : decode prog_1_method_31_code 136 = .ok (.getfield 45, 3) := by decide +kernel
theorem d_Y_nextTask_139 : decode prog_1_method_31_code 139 = .ok (.invokevirtual 231, 3) := by decide +kernel
theorem d_Y_nextTask_142 : decode prog_1_method_31_code 142 = .ok (.ireturn, 1) := by decide +kernel
theorem d_Y_steal_0 : decode prog_1_method_32_code 0 = .ok (.iconst 1, 1) := by decide +kernel
theorem d_Y_steal_1 : decode prog_1_method_32_code 1 = .ok (.istore_n 2, 1) := by decide +kernel
theorem d_Y_steal_2 : decode prog_1_method_32_code 2 = .ok (.iload_n 2, 1) := by decide +kernel
theorem d_Y_steal_3 : decode prog_1_method_32_code 3 = .ok (.iconst 3, 1) := by decide +kernel
theorem d_Y_steal_4 : decode prog_1_method_32_code 4 = .ok (.if_icmp .ge 91, 3) := by decide +kernel
theorem d_Y_steal_7 : decode prog_1_method_32_code 7 = .ok (.aload_n 0, 1) := by decide +kernel
theorem d_Y_steal_8 : decode prog_1_method_32_code 8 = .ok (.getfield 38, 3) := by decide +kernel
theorem d_Y_steal_11 : decode prog_1_method_32_code 11 = .ok (.aload_n 1, 1) := by decide +kernel
theorem d_Y_steal_12 : decode prog_1_method_32_code 12 = .ok (.getfield 195, 3) := by decide +kernel
theorem d_Y_steal_15 : decode prog_1_method_32_code 15 = .ok (.iload_n 2, 1) := by decide +kernel
theorem d_Y_steal_16 : decode prog_1_method_32_code 16 = .ok (.iadd, 1) := by decide +kernel
theorem d_Y_steal_17 : decode prog_1_method_32_code 17 = .ok (.iconst 3, 1) := by decide +kernel
theorem d_Y_steal_18 : decode prog_1_method_32_code 18 = .ok (.irem, 1) := by decide +kernel
theorem d_Y_steal_19 : decode prog_1_method_32_code 19 = .ok (.aaload, 1) := by decide +kernel
theorem d_Y_steal_20 : decode prog_1_method_32_code 20 = .ok (.getfield 165, 3) := by decide +kernel
theorem d_Y_steal_23 : decode prog_1_method_32_code 23 = .ok (.astore_n 3, 1) := by decide +kernel
theorem d_Y_steal_24 : decode prog_1_method_32_code 24 = .ok (.aload_n 3, 1) := by decide +kernel
theorem d_Y_steal_25 : decode prog_1_method_32_code 25 = .ok (.invokevirtual 198, 3) := by decide +kernel
theorem d_Y_steal_28 : decode prog_1_method_32_code 28 = .ok (.ifCond .ne 61, 3) := by decide +kernel
theorem d_Y_steal_31 : decode prog_1_method_32_code 31 = .ok (.aload_n 0, 1) := by decide +kernel
theorem d_Y_steal_32 : decode prog_1_method_32_code 32 = .ok (.dup, 1) := by decide +kernel
theorem d_Y_steal_33 : decode prog_1_method_32_code 33 = .ok (.getfield 72, 3) := by decide +kernel
theorem d_Y_steal_36 : decode prog_1_method_32_code 36 = .ok (.iconst 1, 1) := by decide +kernel
theorem d_Y_steal_37 : decode prog_1_method_32_code 37 = .ok (.iadd, 1) := by decide +kernel
theorem d_Y_steal_38 : decode prog_1_method_32_code 38 = .ok (.putfield 72, 3) := by decide +kernel
theorem d_Y_steal_41 : decode prog_1_method_32_code 41 = .ok (.aload_n 3, 1) := by decide +kernel
theorem d_Y_steal_42 : decode prog_1_method_32_code 42 = .ok (.getfield 168, 3) := by decide +kernel
theorem d_Y_steal_45 : decode prog_1_method_32_code 45 = .ok (.iconst 1, 1) := by decide +kernel
theorem d_Y_steal_46 : decode prog_1_method_32_code 46 = .ok (.iadd, 1) := by decide +kernel
theorem d_Y_steal_47 : decode prog_1_method_32_code 47 = .ok (.iconst 2, 1) := by decide +kernel
theorem d_Y_steal_48 : decode prog_1_method_32_code 48 = .ok (.idiv, 1) := by decide +kernel
theorem d_Y_steal_49 : decode prog_1_method_32_code 49 = .ok (.iconst 1, 1) := by decide +kernel
theorem d_Y_steal_50 : decode prog_1_method_32_code 50 = .ok (.isub, 1) := by decide +kernel
theorem d_Y_steal_51 : decode prog_1_method_32_code 51 = .ok (.istore 4, 2) := by decide +kernel
theorem d_Y_steal_53 : decode prog_1_method_32_code 53 = .ok (.aload_n 3, 1) := by decide +kernel
theorem d_Y_steal_54 : decode prog_1_method_32_code 54 = .ok (.invokevirtual 231, 3) := by decide +kernel
theorem d_Y_steal_57 : decode prog_1_method_32_code 57 = .ok (.istore 5, 2) := by decide +kernel
theorem d_Y_steal_59 : decode prog_1_method_32_code 59 = .ok (.iconst 0, 1) := by decide +kernel
theorem d_Y_steal_60 : decode prog_1_method_32_code 60 = .ok (.istore 6, 2) := by decide +kernel
theorem d_Y_steal_62 : decode prog_1_method_32_code 62 = .ok (.iload 6, 2) := by decide +kernel
theorem d_Y_steal_64 : decode prog_1_method_32_code 64 = .ok (.iload 4, 2) := by decide +kernel
theorem d_Y_steal_66 : decode prog_1_method_32_code 66 = .ok (.if_icmp .ge 20, 3) := by decide +kernel
theorem d_Y_steal_69 : decode prog_1_method_32_code 69 = .ok (.aload_n 1, 1) := by decide +kernel
theorem d_Y_steal_70 : decode prog_1_method_32_code 70 = .ok (.getfield 165, 3) := by decide +kernel
theorem d_Y_steal_73 : decode prog_1_method_32_code 73 = .ok (.aload_n 3, 1) := by decide +kernel
theorem d_Y_steal_74 : decode prog_1_method_32_code 74 = .ok (.invokevirtual 231, 3) := by decide +kernel
theorem d_Y_steal_77 : decode prog_1_method_32_code 77 = .ok (.invokevirtual 210, 3) := by decide +kernel
theorem d_Y_steal_80 : decode prog_1_method_32_code 80 = .ok (.iinc 6 1, 3) := by decide +kernel
theorem d_Y_steal_83 : decode prog_1_method_32_code 83 = .ok (.goto (-21), 3) := by decide +kernel
theorem d_Y_steal_86 : decode prog_1_method_32_code 86 = .ok (.iload 5, 2) := by decide +kernel
theorem d_Y_steal_88 : decode prog_1_method_32_code 88 = .ok (.ireturn, 1) := by decide +kernel
theorem d_Y_steal_89 : decode prog_1_method_32_code 89 = .ok (.iinc 2 1, 3) := by decide +kernel
theorem d_Y_steal_92 : decode prog_1_method_32_code 92 = .ok (.goto (-90), 3) := by decide +kernel
theorem d_Y_steal_95 : decode prog_1_method_32_code 95 = .ok (.iconst (-1), 1) := by decide +kernel
theorem d_Y_steal_96 : decode prog_1_method_32_code 96 = .ok (.ireturn, 1) := by decide +kernel
theorem d_Y_poll_0 : decode prog_1_method_33_code 0 = .ok (.iload_n 3, 1) := by decide +kernel
theorem d_Y_poll_1 : decode prog_1_method_33_code 1 = .ok (.bipush 12, 2) := by decide +kernel
theorem d_Y_poll_3 : decode prog_1_method_33_code 3 = .ok (.if_icmp .ge 14, 3) := by decide +kernel
theorem d_Y_poll_6 : decode prog_1_method_33_code 6 = .ok (.aload_n 1, 1) := by decide +kernel
theorem d_Y_poll_7 : decode prog_1_method_33_code 7 = .ok (.getfield 257, 3) := by decide +kernel
theorem d_Y_poll_10 : decode prog_1_method_33_code 10 = .ok (.iload_n 2, 1) := by decide +kernel
theorem d_Y_poll_11 : decode prog_1_method_33_code 11 = .ok (.invokevirtual 260, 3) := by decide +kernel
theorem d_Y_poll_14 : decode prog_1_method_33_code 14 = .ok (.ifCond .ne 5, 3) := by decide +kernel
theorem d_Y_poll_17 : decode prog_1_method_33_code 17 = .ok (.iconst 1, 1) := by decide +kernel
theorem d_Y_poll_18 : decode prog_1_method_33_code 18 = .ok (.ireturn, 1) := by decide +kernel
theorem d_Y_poll_19 : decode prog_1_method_33_code 19 = .ok (.aload_n 1, 1) := by decide +kernel
theorem d_Y_poll_20 : decode prog_1_method_33_code 20 = .ok (.getfield 263, 3) := by decide +kernel
theorem d_Y_poll_23 : decode prog_1_method_33_code 23 = .ok (.iload_n 2, 1) := by decide +kernel
theorem d_Y_poll_24 : decode prog_1_method_33_code 24 = .ok (.iaload, 1) := by decide +kernel
theorem d_Y_poll_25 : decode prog_1_method_33_code 25 = .ok (.iconst 2, 1) := by decide +kernel
theorem d_Y_poll_26 : decode prog_1_method_33_code 26 = .ok (.if_icmp .ne 5, 3) := by decide +kernel
theorem d_Y_poll_29 : decode prog_1_method_33_code 29 = .ok (.iconst 2, 1) := by decide +kernel
theorem d_Y_poll_30 : decode prog_1_method_33_code 30 = .ok (.ireturn, 1) := by decide +kernel
theorem d_Y_poll_31 : decode prog_1_method_33_code 31 = .ok (.aload_n 1, 1) := by decide +kernel
theorem d_Y_poll_32 : decode prog_1_method_33_code 32 = .ok (.getfield 263, 3) := by decide +kernel
theorem d_Y_poll_35 : decode prog_1_method_33_code 35 = .ok (.iload_n 2, 1) := by decide +kernel
theorem d_Y_poll_36 : decode prog_1_method_33_code 36 = .ok (.iconst 1, 1) := by decide +kernel
theorem d_Y_poll_37 : decode prog_1_method_33_code 37 = .ok (.iastore, 1) := by decide +kernel
theorem d_Y_poll_38 : decode prog_1_method_33_code 38 = .ok (.aload_n 1, 1) := by decide +kernel
theorem d_Y_poll_39 : decode prog_1_method_33_code 39 = .ok (.getfield 257, 3) := by decide +kernel
theorem d_Y_poll_42 : decode prog_1_method_33_code 42 = .ok (.getfield 266, 3) := by decide +kernel
theorem d_Y_poll_45 : decode prog_1_method_33_code 45 = .ok (.iload_n 2, 1) := by decide +kernel
theorem d_Y_poll_46 : decode prog_1_method_33_code 46 = .ok (.iaload, 1) := by decide +kernel
theorem d_Y_poll_47 : decode prog_1_method_33_code 47 = .ok (.istore 4, 2) := by decide +kernel
theorem d_Y_poll_49 : decode prog_1_method_33_code 49 = .ok (.aload_n 1, 1) := by decide +kernel
theorem d_Y_poll_50 : decode prog_1_method_33_code 50 = .ok (.getfield 257, 3) := by decide +kernel
theorem d_Y_poll_53 : decode prog_1_method_33_code 53 = .ok (.getfield 269, 3) := by decide +kernel
theorem d_Y_poll_56 : decode prog_1_method_33_code 56 = .ok (.iload_n 2, 1) := by decide +kernel
theorem d_Y_poll_57 : decode prog_1_method_33_code 57 = .ok (.iaload, 1) := by decide +kernel
theorem d_Y_poll_58 : decode prog_1_method_33_code 58 = .ok (.tableswitch 276 0 15 #[78, 88, 99, 110, 121, 148, 159, 182, 196, 206, 216, 226, 236, 246, 256, 266], 78) := by decide +kernel
theorem d_Y_poll_136 : decode prog_1_method_33_code 136 = .ok (.aload_n 1, 1) := by decide +kernel
theorem d_Y_poll_137 : decode prog_1_method_33_code 137 = .ok (.iload_n 2, 1) := by decide +kernel
theorem d_Y_poll_138 : decode prog_1_method_33_code 138 = .ok (.iload 4, 2) := by decide +kernel
theorem d_Y_poll_140 : decode prog_1_method_33_code 140 = .ok (.invokevirtual 272, 3) := by decide +kernel
theorem d_Y_poll_143 : decode prog_1_method_33_code 143 = .ok (.goto 191, 3) := by decide +kernel
theorem d_Y_poll_146 : decode prog_1_method_33_code 146 = .ok (.aload_n 0, 1) := by decide +kernel
theorem d_Y_poll_147 : decode prog_1_method_33_code 147 = .ok (.aload_n 1, 1) := by decide +kernel
theorem d_Y_poll_148 : decode prog_1_method_33_code 148 = .ok (.iload_n 2, 1) := by decide +kernel
theorem d_Y_poll_149 : decode prog_1_method_33_code 149 = .ok (.iload 4, 2) := by decide +kernel
theorem d_Y_poll_151 : decode prog_1_method_33_code 151 = .ok (.invokevirtual 276, 3) := by decide +kernel
theorem d_Y_poll_154 : decode prog_1_method_33_code 154 = .ok (.goto 180, 3) := by decide +kernel
theorem d_Y_poll_157 : decode prog_1_method_33_code 157 = .ok (.aload_n 0, 1) := by decide +kernel
theorem d_Y_poll_158 : decode prog_1_method_33_code 158 = .ok (.aload_n 1, 1) := by decide +kernel
theorem d_Y_poll_159 : decode prog_1_method_33_code 159 = .ok (.iload_n 2, 1) := by decide +kernel
theorem d_Y_poll_160 : decode prog_1_method_33_code 160 = .ok (.iload 4, 2) := by decide +kernel
theorem d_Y_poll_162 : decode prog_1_method_33_code 162 = .ok (.invokevirtual 280, 3) := by decide +kernel
theorem d_Y_poll_165 : decode prog_1_method_33_code 165 = .ok (.goto 169, 3) := by decide +kernel
theorem d_Y_poll_168 : decode prog_1_method_33_code 168 = .ok (.aload_n 0, 1) := by decide +kernel
theorem d_Y_poll_169 : decode prog_1_method_33_code 169 = .ok (.aload_n 1, 1) := by decide +kernel
theorem d_Y_poll_170 : decode prog_1_method_33_code 170 = .ok (.iload_n 2, 1) := by decide +kernel
theorem d_Y_poll_171 : decode prog_1_method_33_code 171 = .ok (.iload 4, 2) := by decide +kernel
theorem d_Y_poll_173 : decode prog_1_method_33_code 173 = .ok (.invokevirtual 283, 3) := by decide +kernel
theorem d_Y_poll_176 : decode prog_1_method_33_code 176 = .ok (.goto 158, 3) := by decide +kernel
theorem d_Y_poll_179 : decode prog_1_method_33_code 179 = .ok (.aload_n 0, 1) := by decide +kernel
theorem d_Y_poll_180 : decode prog_1_method_33_code 180 = .ok (.aload_n 0, 1) := by decide +kernel
theorem d_Y_poll_181 : decode prog_1_method_33_code 181 = .ok (.getfield 55, 3) := by decide +kernel
theorem d_Y_poll_184 : decode prog_1_method_33_code 184 = .ok (.iload 4, 2) := by decide +kernel
theorem d_Y_poll_186 : decode prog_1_method_33_code 186 = .ok (.iconst 1, 1) := by decide +kernel
theorem d_Y_poll_187 : decode prog_1_method_33_code 187 = .ok (.iand, 1) := by decide +kernel
theorem d_Y_poll_188 : decode prog_1_method_33_code 188 = .ok (.aaload, 1) := by decide +kernel
theorem d_Y_poll_189 : decode prog_1_method_33_code 189 = .ok (.iload 4, 2) := by decide +kernel
theorem d_Y_poll_191 : decode prog_1_method_33_code 191 = .ok (.invokestatic 286, 3) := by decide +kernel
theorem d_Y_poll_194 : decode prog_1_method_33_code 194 = .ok (.invokevirtual 133, 3) := by decide +kernel
theorem d_Y_poll_197 : decode prog_1_method_33_code 197 = .ok (.aload_n 1, 1) := by decide +kernel
theorem d_Y_poll_198 : decode prog_1_method_33_code 198 = .ok (.iload_n 2, 1) := by decide +kernel
theorem d_Y_poll_199 : decode prog_1_method_33_code 199 = .ok (.iconst 0, 1) := by decide +kernel
theorem d_Y_poll_200 : decode prog_1_method_33_code 200 = .ok (.invokevirtual 272, 3) := by decide +kernel
theorem d_Y_poll_203 : decode prog_1_method_33_code 203 = .ok (.goto 131, 3) := by decide +kernel
theorem d_Y_poll_206 : decode prog_1_method_33_code 206 = .ok (.aload_n 0, 1) := by decide +kernel
theorem d_Y_poll_207 : decode prog_1_method_33_code 207 = .ok (.aload_n 1, 1) := by decide +kernel
theorem d_Y_poll_208 : decode prog_1_method_33_code 208 = .ok (.iload_n 2, 1) := by decide +kernel
theorem d_Y_poll_209 : decode prog_1_method_33_code 209 = .ok (.iload 4, 2) := by decide +kernel
theorem d_Y_poll_211 : decode prog_1_method_33_code 211 = .ok (.invokevirtual 289, 3) := by decide +kernel
theorem d_Y_poll_214 : decode prog_1_method_33_code 214 = .ok (.goto 120, 3) := by decide +kernel
theorem d_Y_poll_217 : decode prog_1_method_33_code 217 = .ok (.aload_n 0, 1) := by decide +kernel
theorem d_Y_poll_218 : decode prog_1_method_33_code 218 = .ok (.aload_n 0, 1) := by decide +kernel
theorem d_Y_poll_219 : decode prog_1_method_33_code 219 = .ok (.getfield 62, 3) := by decide +kernel
theorem d_Y_poll_222 : decode prog_1_method_33_code 222 = .ok (.iload 4, 2) := by decide +kernel
theorem d_Y_poll_224 : decode prog_1_method_33_code 224 = .ok (.iconst 1, 1) := by decide +kernel
theorem d_Y_poll_225 : decode prog_1_method_33_code 225 = .ok (.iand, 1) := by decide +kernel
theorem d_Y_poll_226 : decode prog_1_method_33_code 226 = .ok (.aaload, 1) := by decide +kernel
theorem d_Y_poll_227 : decode prog_1_method_33_code 227 = .ok (.invokevirtual 140, 3) := by decide +kernel
theorem d_Y_poll_230 : decode prog_1_method_33_code 230 = .ok (.pop, 1) := by decide +kernel
theorem d_Y_poll_231 : decode prog_1_method_33_code 231 = .ok (.aload_n 1, 1) := by decide +kernel
theorem d_Y_poll_232 : decode prog_1_method_33_code 232 = .ok (.iload_n 2, 1) := by decide +kernel
theorem d_Y_poll_233 : decode prog_1_method_33_code 233 = .ok (.iconst 0, 1) := by decide +kernel
theorem d_Y_poll_234 : decode prog_1_method_33_code 234 = .ok (.invokevirtual 272, 3) := by decide +kernel
theorem d_Y_poll_237 : decode prog_1_method_33_code 237 = .ok (.goto 97, 3) := by decide +kernel
theorem d_Y_poll_240 : decode prog_1_method_33_code 240 = .ok (.aload_n 1, 1) := by decide +kernel
theorem d_Y_poll_241 : decode prog_1_method_33_code 241 = .ok (.iload_n 2, 1) := by decide +kernel
theorem d_Y_poll_242 : decode prog_1_method_33_code 242 = .ok (.aload_n 0, 1) := by decide +kernel
theorem d_Y_poll_243 : decode prog_1_method_33_code 243 = .ok (.iload 4, 2) := by decide +kernel
theorem d_Y_poll_245 : decode prog_1_method_33_code 245 = .ok (.invokevirtual 99, 3) := by decide +kernel
theorem d_Y_poll_248 : decode prog_1_method_33_code 248 = .ok (.invokevirtual 272, 3) := by decide +kernel
theorem d_Y_poll_251 : decode prog_1_method_33_code 251 = .ok (.goto 83, 3) := by decide +kernel
theorem d_Y_poll_254 : decode prog_1_method_33_code 254 = .ok (.aload_n 0, 1) := by decide +kernel
theorem d_Y_poll_255 : decode prog_1_method_33_code 255 = .ok (.aload_n 1, 1) := by decide +kernel
theorem d_Y_poll_256 : decode prog_1_method_33_code 256 = .ok (.iload_n 2, 1) := by decide +kernel
theorem d_Y_poll_257 : decode prog_1_method_33_code 257 = .ok (.iload_n 3, 1) := by decide +kernel
theorem d_Y_poll_258 : decode prog_1_method_33_code 258 = .ok (.invokevirtual 292, 3) := by decide +kernel
theorem d_Y_poll_261 : decode prog_1_method_33_code 261 = .ok (.goto 73, 3) := by decide +kernel
theorem d_Y_poll_264 : decode prog_1_method_33_code 264 = .ok (.aload_n 1, 1) := by decide +kernel
theorem d_Y_poll_265 : decode prog_1_method_33_code 265 = .ok (.iload_n 2, 1) := by decide +kernel
theorem d_Y_poll_266 : decode prog_1_method_33_code 266 = .ok (.iload 4, 2) := by decide +kernel
theorem d_Y_poll_268 : decode prog_1_method_33_code 268 = .ok (.invokevirtual 295, 3) := by decide +kernel
theorem d_Y_poll_271 : decode prog_1_method_33_code 271 = .ok (.goto 63, 3) := by decide +kernel
theorem d_Y_poll_274 : decode prog_1_method_33_code 274 = .ok (.aload_n 0, 1) := by decide +kernel
theorem d_Y_poll_275 : decode prog_1_method_33_code 275 = .ok (.aload_n 1, 1) := by decide +kernel
theorem d_Y_poll_276 : decode prog_1_method_33_code 276 = .ok (.iload_n 2, 1) := by decide +kernel
theorem d_Y_poll_277 : decode prog_1_method_33_code 277 = .ok (.iload_n 3, 1) := by decide +kernel
theorem d_Y_poll_278 : decode prog_1_method_33_code 278 = .ok (.invokevirtual 298, 3) := by decide +kernel
theorem d_Y_poll_281 : decode prog_1_method_33_code 281 = .ok (.goto 53, 3) := by decide +kernel
theorem d_Y_poll_284 : decode prog_1_method_33_code 284 = .ok (.aload_n 0, 1) := by decide +kernel
theorem d_Y_poll_285 : decode prog_1_method_33_code 285 = .ok (.aload_n 1, 1) := by decide +kernel
theorem d_Y_poll_286 : decode prog_1_method_33_code 286 = .ok (.iload_n 2, 1) := by decide +kernel
theorem d_Y_poll_287 : decode prog_1_method_33_code 287 = .ok (.iload_n 3, 1) := by decide +kernel
theorem d_Y_poll_288 : decode prog_1_method_33_code 288 = .ok (.invokevirtual 301, 3) := by decide +kernel
theorem d_Y_poll_291 : decode prog_1_method_33_code 291 = .ok (.goto 43, 3) := by decide +kernel
theorem d_Y_poll_294 : decode prog_1_method_33_code 294 = .ok (.aload_n 0, 1) := by decide +kernel
theorem d_Y_poll_295 : decode prog_1_method_33_code 295 = .ok (.aload_n 1, 1) := by decide +kernel
theorem d_Y_poll_296 : decode prog_1_method_33_code 296 = .ok (.iload_n 2, 1) := by decide +kernel
theorem d_Y_poll_297 : decode prog_1_method_33_code 297 = .ok (.iload_n 3, 1) := by decide +kernel
theorem d_Y_poll_298 : decode prog_1_method_33_code 298 = .ok (.invokevirtual 304, 3) := by decide +kernel
theorem d_Y_poll_301 : decode prog_1_method_33_code 301 = .ok (.goto 33, 3) := by decide +kernel
theorem d_Y_poll_304 : decode prog_1_method_33_code 304 = .ok (.aload_n 0, 1) := by decide +kernel
theorem d_Y_poll_305 : decode prog_1_method_33_code 305 = .ok (.aload_n 1, 1) := by decide +kernel
theorem d_Y_poll_306 : decode prog_1_method_33_code 306 = .ok (.iload_n 2, 1) := by decide +kernel
theorem d_Y_poll_307 : decode prog_1_method_33_code 307 = .ok (.iload_n 3, 1) := by decide +kernel
theorem d_Y_poll_308 : decode prog_1_method_33_code 308 = .ok (.invokevirtual 307, 3) := by decide +kernel
theorem d_Y_poll_311 : decode prog_1_method_33_code 311 = .ok (.goto 23, 3) := by decide +kernel
theorem d_Y_poll_314 : decode prog_1_method_33_code 314 = .ok (.aload_n 0, 1) := by decide +kernel
theorem d_Y_poll_315 : decode prog_1_method_33_code 315 = .ok (.aload_n 1, 1) := by decide +kernel
theorem d_Y_poll_316 : decode prog_1_method_33_code 316 = .ok (.iload_n 2, 1) := by decide +kernel
theorem d_Y_poll_317 : decode prog_1_method_33_code 317 = .ok (.iload_n 3, 1) := by decide +kernel
theorem d_Y_poll_318 : decode prog_1_method_33_code 318 = .ok (.invokevirtual 310, 3) := by decide +kernel
theorem d_Y_poll_321 : decode prog_1_method_33_code 321 = .ok (.goto 13, 3) := by decide +kernel
theorem d_Y_poll_324 : decode prog_1_method_33_code 324 = .ok (.aload_n 0, 1) := by decide +kernel
theorem d_Y_poll_325 : decode prog_1_method_33_code 325 = .ok (.aload_n 1, 1) := by decide +kernel
theorem d_Y_poll_326 : decode prog_1_method_33_code 326 = .ok (.iload_n 2, 1) := by decide +kernel
theorem d_Y_poll_327 : decode prog_1_method_33_code 327 = .ok (.iload_n 3, 1) := by decide +kernel
theorem d_Y_poll_328 : decode prog_1_method_33_code 328 = .ok (.invokevirtual 313, 3) := by decide +kernel
theorem d_Y_poll_331 : decode prog_1_method_33_code 331 = .ok (.goto 3, 3) := by decide +kernel
theorem d_Y_poll_334 : decode prog_1_method_33_code 334 = .ok (.aload_n 1, 1) := by decide +kernel
theorem d_Y_poll_335 : decode prog_1_method_33_code 335 = .ok (.getfield 263, 3) := by decide +kernel
theorem d_Y_poll_338 : decode prog_1_method_33_code 338 = .ok (.iload_n 2, 1) := by decide +kernel
theorem d_Y_poll_339 : decode prog_1_method_33_code 339 = .ok (.iaload, 1) := by decide +kernel
theorem d_Y_poll_340 : decode prog_1_method_33_code 340 = .ok (.ireturn, 1) := by decide +kernel
theorem d_Y_pollTurn_0 : decode prog_1_method_34_code 0 = .ok (.aload_n 1, 1) := by decide +kernel
theorem d_Y_pollTurn_1 : decode prog_1_method_34_code 1 = .ok (.getfield 204, 3) := by decide +kernel
theorem d_Y_pollTurn_4 : decode prog_1_method_34_code 4 = .ok (.iload_n 2, 1) := by decide +kernel
theorem d_Y_pollTurn_5 : decode prog_1_method_34_code 5 = .ok (.iaload, 1) := by decide +kernel
theorem d_Y_pollTurn_6 : decode prog_1_method_34_code 6 = .ok (.iconst 0, 1) := by decide +kernel
theorem d_Y_pollTurn_7 : decode prog_1_method_34_code 7 = .ok (.invokestatic 316, 3) := by decide +kernel
theorem d_Y_pollTurn_10 : decode prog_1_method_34_code 10 = .ok (.istore 4, 2) := by decide +kernel
theorem d_Y_pollTurn_12 : decode prog_1_method_34_code 12 = .ok (.iload 4, 2) := by decide +kernel
theorem d_Y_pollTurn_14 : decode prog_1_method_34_code 14 = .ok (.iload_n 3, 1) := by decide +kernel
theorem d_Y_pollTurn_15 : decode prog_1_method_34_code 15 = .ok (.if_icmp .lt 10, 3) := by decide +kernel
theorem d_Y_pollTurn_18 : decode prog_1_method_34_code 18 = .ok (.aload_n 1, 1) := by decide +kernel
theorem d_Y_pollTurn_19 : decode prog_1_method_34_code 19 = .ok (.iload_n 2, 1) := by decide +kernel
theorem d_Y_pollTurn_20 : decode prog_1_method_34_code 20 = .ok (.iconst 0, 1) := by decide +kernel
theorem d_Y_pollTurn_21 : decode prog_1_method_34_code 21 = .ok (.invokevirtual 272, 3) := by decide +kernel
theorem d_Y_pollTurn_24 : decode prog_1_method_34_code 24 = .ok (.return_, 1) := by decide +kernel
theorem d_Y_pollTurn_25 : decode prog_1_method_34_code 25 = .ok (.aload_n 1, 1) := by decide +kernel
theorem d_Y_pollTurn_26 : decode prog_1_method_34_code 26 = .ok (.getfield 204, 3) := by decide +kernel
theorem d_Y_pollTurn_29 : decode prog_1_method_34_code 29 = .ok (.iload_n 2, 1) := by decide +kernel
theorem d_Y_pollTurn_30 : decode prog_1_method_34_code 30 = .ok (.iload 4, 2) := by decide +kernel
theorem d_Y_pollTurn_32 : decode prog_1_method_34_code 32 = .ok (.iconst 1, 1) := by decide +kernel
theorem d_Y_pollTurn_33 : decode prog_1_method_34_code 33 = .ok (.iadd, 1) := by decide +kernel
theorem d_Y_pollTurn_34 : decode prog_1_method_34_code 34 = .ok (.iastore, 1) := by decide +kernel
theorem d_Y_pollTurn_35 : decode prog_1_method_34_code 35 = .ok (.aload_n 0, 1) := by decide +kernel
theorem d_Y_pollTurn_36 : decode prog_1_method_34_code 36 = .ok (.aload_n 1, 1) := by decide +kernel
theorem d_Y_pollTurn_37 : decode prog_1_method_34_code 37 = .ok (.invokevirtual 220, 3) := by decide +kernel
theorem d_Y_pollTurn_40 : decode prog_1_method_34_code 40 = .ok (.return_, 1) := by decide +kernel
theorem d_Y_pollSleep_0 : decode prog_1_method_35_code 0 = .ok (.aload_n 1, 1) := by decide +kernel
theorem d_Y_pollSleep_1 : decode prog_1_method_35_code 1 = .ok (.getfield 204, 3) := by decide +kernel
theorem d_Y_pollSleep_4 : decode prog_1_method_35_code 4 = .ok (.iload_n 2, 1) := by decide +kernel
theorem d_Y_pollSleep_5 : decode prog_1_method_35_code 5 = .ok (.iaload, 1) := by decide +kernel
theorem d_Y_pollSleep_6 : decode prog_1_method_35_code 6 = .ok (.iconst (-1), 1) := by decide +kernel
theorem d_Y_pollSleep_7 : decode prog_1_method_35_code 7 = .ok (.if_icmp .ne 13, 3) := by decide +kernel
theorem d_Y_pollSleep_10 : decode prog_1_method_35_code 10 = .ok (.aload_n 1, 1) := by decide +kernel
theorem d_Y_pollSleep_11 : decode prog_1_method_35_code 11 = .ok (.getfield 204, 3) := by decide +kernel
theorem d_Y_pollSleep_14 : decode prog_1_method_35_code 14 = .ok (.iload_n 2, 1) := by decide +kernel
theorem d_Y_pollSleep_15 : decode prog_1_method_35_code 15 = .ok (.aload_n 0, 1) := by decide +kernel
theorem d_Y_pollSleep_16 : decode prog_1_method_35_code 16 = .ok (.getfield 66, 3) := by decide +kernel
theorem d_Y_pollSleep_19 : decode prog_1_method_35_code 19 = .ok (.iastore, 1) := by decide +kernel
theorem d_Y_pollSleep_20 : decode prog_1_method_35_code 20 = .ok (.aload_n 0, 1) := by decide +kernel
theorem d_Y_pollSleep_21 : decode prog_1_method_35_code 21 = .ok (.getfield 66, 3) := by decide +kernel
theorem d_Y_pollSleep_24 : decode prog_1_method_35_code 24 = .ok (.aload_n 1, 1) := by decide +kernel
theorem d_Y_pollSleep_25 : decode prog_1_method_35_code 25 = .ok (.getfield 204, 3) := by decide +kernel
theorem d_Y_pollSleep_28 : decode prog_1_method_35_code 28 = .ok (.iload_n 2, 1) := by decide +kernel
theorem d_Y_pollSleep_29 : decode prog_1_method_35_code 29 = .ok (.iaload, 1) := by decide +kernel
theorem d_Y_pollSleep_30 : decode prog_1_method_35_code 30 = .ok (.isub, 1) := by decide +kernel
theorem d_Y_pollSleep_31 : decode prog_1_method_35_code 31 = .ok (.iload_n 3, 1) := by decide +kernel
theorem d_Y_pollSleep_32 : decode prog_1_method_35_code 32 = .ok (.if_icmp .lt 9, 3) := by decide +kernel
theorem d_Y_pollSleep_35 : decode prog_1_method_35_code 35 = .ok (.aload_n 1, 1) := by decide +kernel
theorem d_Y_pollSleep_36 : decode prog_1_method_35_code 36 = .ok (.iload_n 2, 1) := by decide +kernel
theorem d_Y_pollSleep_37 : decode prog_1_method_35_code 37 = .ok (.iconst 0, 1) := by decide +kernel
theorem d_Y_pollSleep_38 : decode prog_1_method_35_code 38 = .ok (.invokevirtual 272, 3) := by decide +kernel
theorem d_Y_pollSleep_41 : decode prog_1_method_35_code 41 = .ok (.return_, 1) := by decide +kernel
theorem d_Y_pollTake_0 : decode prog_1_method_36_code 0 = .ok (.aload_n 0, 1) := by decide +kernel
theorem d_Y_pollTake_1 : decode prog_1_method_36_code 1 = .ok (.getfield 55, 3) := by decide +kernel
theorem d_Y_pollTake_4 : decode prog_1_method_36_code 4 = .ok (.iload_n 3, 1) := by decide +kernel
theorem d_Y_pollTake_5 : decode prog_1_method_36_code 5 = .ok (.iconst 1, 1) := by decide +kernel
theorem d_Y_pollTake_6 : decode prog_1_method_36_code 6 = .ok (.iand, 1) := by decide +kernel
theorem d_Y_pollTake_7 : decode prog_1_method_36_code 7 = .ok (.aaload, 1) := by decide +kernel
theorem d_Y_pollTake_8 : decode prog_1_method_36_code 8 = .ok (.astore 4, 2) := by decide +kernel
theorem d_Y_pollTake_10 : decode prog_1_method_36_code 10 = .ok (.iload_n 3, 1) := by decide +kernel
theorem d_Y_pollTake_11 : decode prog_1_method_36_code 11 = .ok (.invokestatic 286, 3) := by decide +kernel
theorem d_Y_pollTake_14 : decode prog_1_method_36_code 14 = .ok (.istore 5, 2) := by decide +kernel
theorem d_Y_pollTake_16 : decode prog_1_method_36_code 16 = .ok (.aload_n 1, 1) := by decide +kernel
theorem d_Y_pollTake_17 : decode prog_1_method_36_code 17 = .ok (.getfield 204, 3) := by decide +kernel
theorem d_Y_pollTake_20 : decode prog_1_method_36_code 20 = .ok (.iload_n 2, 1) := by decide +kernel
theorem d_Y_pollTake_21 : decode prog_1_method_36_code 21 = .ok (.iaload, 1) := by decide +kernel
theorem d_Y_pollTake_22 : decode prog_1_method_36_code 22 = .ok (.iconst (-1), 1) := by decide +kernel
theorem d_Y_pollTake_23 : decode prog_1_method_36_code 23 = .ok (.if_icmp .ne 7, 3) := by decide +kernel
theorem d_Y_pollTake_26 : decode prog_1_method_36_code 26 = .ok (.iconst 1, 1) := by decide +kernel
theorem d_Y_pollTake_27 : decode prog_1_method_36_code 27 = .ok (.goto 4, 3) := by decide +kernel
theorem d_Y_pollTake_30 : decode prog_1_method_36_code 30 = .ok (.iconst 0, 1) := by decide +kernel
theorem d_Y_pollTake_31 : decode prog_1_method_36_code 31 = .ok (.istore 6, 2) := by decide +kernel
theorem d_Y_pollTake_33 : decode prog_1_method_36_code 33 = .ok (.iload 6, 2) := by decide +kernel
theorem d_Y_pollTake_35 : decode prog_1_method_36_code 35 = .ok (.ifCond .eq 32, 3) := by decide +kernel
theorem d_Y_pollTake_38 : decode prog_1_method_36_code 38 = .ok (.aload 4, 2) := by decide +kernel
theorem d_Y_pollTake_40 : decode prog_1_method_36_code 40 = .ok (.getfield 175, 3) := by decide +kernel
theorem d_Y_pollTake_43 : decode prog_1_method_36_code 43 = .ok (.invokevirtual 198, 3) := by decide +kernel
theorem d_Y_pollTake_46 : decode prog_1_method_36_code 46 = .ok (.ifCond .eq 17, 3) := by decide +kernel
theorem d_Y_pollTake_49 : decode prog_1_method_36_code 49 = .ok (.aload 4, 2) := by decide +kernel
theorem d_Y_pollTake_51 : decode prog_1_method_36_code 51 = .ok (.getfield 137, 3) := by decide +kernel
theorem d_Y_pollTake_54 : decode prog_1_method_36_code 54 = .ok (.iload 5, 2) := by decide +kernel
theorem d_Y_pollTake_56 : decode prog_1_method_36_code 56 = .ok (.if_icmp .lt 7, 3) := by decide +kernel
theorem d_Y_pollTake_59 : decode prog_1_method_36_code 59 = .ok (.iconst 1, 1) := by decide +kernel
theorem d_Y_pollTake_60 : decode prog_1_method_36_code 60 = .ok (.goto 23, 3) := by decide +kernel
theorem d_Y_pollTake_63 : decode prog_1_method_36_code 63 = .ok (.iconst 0, 1) := by decide +kernel
theorem d_Y_pollTake_64 : decode prog_1_method_36_code 64 = .ok (.goto 19, 3) := by decide +kernel
theorem d_Y_pollTake_67 : decode prog_1_method_36_code 67 = .ok (.aload_n 1, 1) := by decide +kernel
theorem d_Y_pollTake_68 : decode prog_1_method_36_code 68 = .ok (.getfield 204, 3) := by decide +kernel
theorem d_Y_pollTake_71 : decode prog_1_method_36_code 71 = .ok (.iload_n 2, 1) := by decide +kernel
theorem d_Y_pollTake_72 : decode prog_1_method_36_code 72 = .ok (.iaload, 1) := by decide +kernel
theorem d_Y_pollTake_73 : decode prog_1_method_36_code 73 = .ok (.iload 5, 2) := by decide +kernel
theorem d_Y_pollTake_75 : decode prog_1_method_36_code 75 = .ok (.if_icmp .lt 7, 3) := by decide +kernel
theorem d_Y_pollTake_78 : decode prog_1_method_36_code 78 = .ok (.iconst 1, 1) := by decide +kernel
theorem d_Y_pollTake_79 : decode prog_1_method_36_code 79 = .ok (.goto 4, 3) := by decide +kernel
theorem d_Y_pollTake_82 : decode prog_1_method_36_code 82 = .ok (.iconst 0, 1) := by decide +kernel
theorem d_Y_pollTake_83 : decode prog_1_method_36_code 83 = .ok (.istore 7, 2) := by decide +kernel
theorem d_Y_pollTake_85 : decode prog_1_method_36_code 85 = .ok (.iload 7, 2) := by decide +kernel
theorem d_Y_pollTake_87 : decode prog_1_method_36_code 87 = .ok (.ifCond .eq 42, 3) := by decide +kernel
theorem d_Y_pollTake_90 : decode prog_1_method_36_code 90 = .ok (.aload_n 0, 1) := by decide +kernel
theorem d_Y_pollTake_91 : decode prog_1_method_36_code 91 = .ok (.aload_n 1, 1) := by decide +kernel
theorem d_Y_pollTake_92 : decode prog_1_method_36_code 92 = .ok (.invokevirtual 322, 3) := by decide +kernel
theorem d_Y_pollTake_95 : decode prog_1_method_36_code 95 = .ok (.ifCond .eq 69, 3) := by decide +kernel
theorem d_Y_pollTake_98 : decode prog_1_method_36_code 98 = .ok (.aload 4, 2) := by decide +kernel
theorem d_Y_pollTake_100 : decode prog_1_method_36_code 100 = .ok (.dup, 1) := by decide +kernel
theorem d_Y_pollTake_101 : decode prog_1_method_36_code 101 = .ok (.getfield 137, 3) := by decide +kernel
theorem d_Y_pollTake_104 : decode prog_1_method_36_code 104 = .ok (.iload 6, 2) := by decide +kernel
theorem d_Y_pollTake_106 : decode prog_1_method_36_code 106 = .ok (.ifCond .eq 8, 3) := by decide +kernel
theorem d_Y_pollTake_109 : decode prog_1_method_36_code 109 = .ok (.iload 5, 2) := by decide +kernel
theorem d_Y_pollTake_111 : decode prog_1_method_36_code 111 = .ok (.goto 4, 3) := by decide +kernel
theorem d_Y_pollTake_114 : decode prog_1_method_36_code 114 = .ok (.iconst 0, 1) := by decide +kernel
theorem d_Y_pollTake_115 : decode prog_1_method_36_code 115 = .ok (.isub, 1) := by decide +kernel
theorem d_Y_pollTake_116 : decode prog_1_method_36_code 116 = .ok (.putfield 137, 3) := by decide +kernel
theorem d_Y_pollTake_119 : decode prog_1_method_36_code 119 = .ok (.aload_n 1, 1) := by decide +kernel
theorem d_Y_pollTake_120 : decode prog_1_method_36_code 120 = .ok (.iload_n 2, 1) := by decide +kernel
theorem d_Y_pollTake_121 : decode prog_1_method_36_code 121 = .ok (.iload 5, 2) := by decide +kernel
theorem d_Y_pollTake_123 : decode prog_1_method_36_code 123 = .ok (.invokevirtual 272, 3) := by decide +kernel
theorem d_Y_pollTake_126 : decode prog_1_method_36_code 126 = .ok (.goto 38, 3) := by decide +kernel
theorem d_Y_pollTake_129 : decode prog_1_method_36_code 129 = .ok (.iload 6, 2) := by decide +kernel
theorem d_Y_pollTake_131 : decode prog_1_method_36_code 131 = .ok (.ifCond .eq 33, 3) := by decide +kernel
theorem d_Y_pollTake_134 : decode prog_1_method_36_code 134 = .ok (.aload_n 1, 1) := by decide +kernel
theorem d_Y_pollTake_135 : decode prog_1_method_36_code 135 = .ok (.getfield 204, 3) := by decide +kernel
theorem d_Y_pollTake_138 : decode prog_1_method_36_code 138 = .ok (.iload_n 2, 1) := by decide +kernel
theorem d_Y_pollTake_139 : decode prog_1_method_36_code 139 = .ok (.aload 4, 2) := by decide +kernel
theorem d_Y_pollTake_141 : decode prog_1_method_36_code 141 = .ok (.getfield 137, 3) := by decide +kernel
theorem d_Y_pollTake_144 : decode prog_1_method_36_code 144 = .ok (.iastore, 1) := by decide +kernel
theorem d_Y_pollTake_145 : decode prog_1_method_36_code 145 = .ok (.aload 4, 2) := by decide +kernel
theorem d_Y_pollTake_147 : decode prog_1_method_36_code 147 = .ok (.iconst 0, 1) := by decide +kernel
theorem d_Y_pollTake_148 : decode prog_1_method_36_code 148 = .ok (.putfield 137, 3) := by decide +kernel
theorem d_Y_pollTake_151 : decode prog_1_method_36_code 151 = .ok (.aload 4, 2) := by decide +kernel
theorem d_Y_pollTake_153 : decode prog_1_method_36_code 153 = .ok (.getfield 175, 3) := by decide +kernel
theorem d_Y_pollTake_156 : decode prog_1_method_36_code 156 = .ok (.aload_n 1, 1) := by decide +kernel
theorem d_Y_pollTake_157 : decode prog_1_method_36_code 157 = .ok (.iload_n 2, 1) := by decide +kernel
theorem d_Y_pollTake_158 : decode prog_1_method_36_code 158 = .ok (.invokevirtual 326, 3) := by decide +kernel
theorem d_Y_pollTake_161 : decode prog_1_method_36_code 161 = .ok (.invokevirtual 210, 3) := by decide +kernel
theorem d_Y_pollTake_164 : decode prog_1_method_36_code 164 = .ok (.return_, 1) := by decide +kernel
theorem d_Y_pollWait_0 : decode prog_1_method_37_code 0 = .ok (.aload_n 0, 1) := by decide +kernel
theorem d_Y_pollWait_1 : decode prog_1_method_37_code 1 = .ok (.getfield 62, 3) := by decide +kernel
theorem d_Y_pollWait_4 : decode prog_1_method_37_code 4 = .ok (.iload_n 3, 1) := by decide +kernel
theorem d_Y_pollWait_5 : decode prog_1_method_37_code 5 = .ok (.iconst 1, 1) := by decide +kernel
theorem d_Y_pollWait_6 : decode prog_1_method_37_code 6 = .ok (.iand, 1) := by decide +kernel
theorem d_Y_pollWait_7 : decode prog_1_method_37_code 7 = .ok (.aaload, 1) := by decide +kernel
theorem d_Y_pollWait_8 : decode prog_1_method_37_code 8 = .ok (.astore 4, 2) := by decide +kernel
theorem d_Y_pollWait_10 : decode prog_1_method_37_code 10 = .ok (.aload_n 1, 1) := by decide +kernel
theorem d_Y_pollWait_11 : decode prog_1_method_37_code 11 = .ok (.getfield 204, 3) := by decide +kernel
theorem d_Y_pollWait_14 : decode prog_1_method_37_code 14 = .ok (.iload_n 2, 1) := by decide +kernel
theorem d_Y_pollWait_15 : decode prog_1_method_37_code 15 = .ok (.iaload, 1) := by decide +kernel
theorem d_Y_pollWait_16 : decode prog_1_method_37_code 16 = .ok (.iconst (-1), 1) := by decide +kernel
theorem d_Y_pollWait_17 : decode prog_1_method_37_code 17 = .ok (.if_icmp .ne 7, 3) := by decide +kernel
theorem d_Y_pollWait_20 : decode prog_1_method_37_code 20 = .ok (.iconst 1, 1) := by decide +kernel
theorem d_Y_pollWait_21 : decode prog_1_method_37_code 21 = .ok (.goto 4, 3) := by decide +kernel
theorem d_Y_pollWait_24 : decode prog_1_method_37_code 24 = .ok (.iconst 0, 1) := by decide +kernel
theorem d_Y_pollWait_25 : decode prog_1_method_37_code 25 = .ok (.istore 5, 2) := by decide +kernel
theorem d_Y_pollWait_27 : decode prog_1_method_37_code 27 = .ok (.iload 5, 2) := by decide +kernel
theorem d_Y_pollWait_29 : decode prog_1_method_37_code 29 = .ok (.ifCond .eq 11, 3) := by decide +kernel
theorem d_Y_pollWait_32 : decode prog_1_method_37_code 32 = .ok (.aload 4, 2) := by decide +kernel
theorem d_Y_pollWait_34 : decode prog_1_method_37_code 34 = .ok (.getfield 182, 3) := by decide +kernel
theorem d_Y_pollWait_37 : decode prog_1_method_37_code 37 = .ok (.goto 18, 3) := by decide +kernel
theorem d_Y_pollWait_40 : decode prog_1_method_37_code 40 = .ok (.aload_n 1, 1) := by decide +kernel
theorem d_Y_pollWait_41 : decode prog_1_method_37_code 41 = .ok (.getfield 204, 3) := by decide +kernel
theorem d_Y_pollWait_44 : decode prog_1_method_37_code 44 = .ok (.iload_n 2, 1) := by decide +kernel
theorem d_Y_pollWait_45 : decode prog_1_method_37_code 45 = .ok (.iaload, 1) := by decide +kernel
theorem d_Y_pollWait_46 : decode prog_1_method_37_code 46 = .ok (.iconst 1, 1) := by decide +kernel
theorem d_Y_pollWait_47 : decode prog_1_method_37_code 47 = .ok (.if_icmp .ne 7, 3) := by decide +kernel
theorem d_Y_pollWait_50 : decode prog_1_method_37_code 50 = .ok (.iconst 1, 1) := by decide +kernel
theorem d_Y_pollWait_51 : decode prog_1_method_37_code 51 = .ok (.goto 4, 3) := by decide +kernel
theorem d_Y_pollWait_54 : decode prog_1_method_37_code 54 = .ok (.iconst 0, 1) := by decide +kernel
theorem d_Y_pollWait_55 : decode prog_1_method_37_code 55 = .ok (.istore 6, 2) := by decide +kernel
theorem d_Y_pollWait_57 : decode prog_1_method_37_code 57 = .ok (.iload 6, 2) := by decide +kernel
theorem d_Y_pollWait_59 : decode prog_1_method_37_code 59 = .ok (.ifCond .eq 43, 3) := by decide +kernel
theorem d_Y_pollWait_62 : decode prog_1_method_37_code 62 = .ok (.aload_n 0, 1) := by decide +kernel
theorem d_Y_pollWait_63 : decode prog_1_method_37_code 63 = .ok (.aload_n 1, 1) := by decide +kernel
theorem d_Y_pollWait_64 : decode prog_1_method_37_code 64 = .ok (.invokevirtual 322, 3) := by decide +kernel
theorem d_Y_pollWait_67 : decode prog_1_method_37_code 67 = .ok (.ifCond .eq 60, 3) := by decide +kernel
theorem d_Y_pollWait_70 : decode prog_1_method_37_code 70 = .ok (.aload 4, 2) := by decide +kernel
theorem d_Y_pollWait_72 : decode prog_1_method_37_code 72 = .ok (.aload 4, 2) := by decide +kernel
theorem d_Y_pollWait_74 : decode prog_1_method_37_code 74 = .ok (.getfield 182, 3) := by decide +kernel
theorem d_Y_pollWait_77 : decode prog_1_method_37_code 77 = .ok (.ifCond .eq 12, 3) := by decide +kernel
theorem d_Y_pollWait_80 : decode prog_1_method_37_code 80 = .ok (.iload 5, 2) := by decide +kernel
theorem d_Y_pollWait_82 : decode prog_1_method_37_code 82 = .ok (.ifCond .ne 7, 3) := by decide +kernel
theorem d_Y_pollWait_85 : decode prog_1_method_37_code 85 = .ok (.iconst 1, 1) := by decide +kernel
theorem d_Y_pollWait_86 : decode prog_1_method_37_code 86 = .ok (.goto 4, 3) := by decide +kernel
theorem d_Y_pollWait_89 : decode prog_1_method_37_code 89 = .ok (.iconst 0, 1) := by decide +kernel
theorem d_Y_pollWait_90 : decode prog_1_method_37_code 90 = .ok (.putfield 182, 3) := by decide +kernel
theorem d_Y_pollWait_93 : decode prog_1_method_37_code 93 = .ok (.aload_n 1, 1) := by decide +kernel
theorem d_Y_pollWait_94 : decode prog_1_method_37_code 94 = .ok (.iload_n 2, 1) := by decide +kernel
theorem d_Y_pollWait_95 : decode prog_1_method_37_code 95 = .ok (.iconst 1, 1) := by decide +kernel
theorem d_Y_pollWait_96 : decode prog_1_method_37_code 96 = .ok (.invokevirtual 272, 3) := by decide +kernel
theorem d_Y_pollWait_99 : decode prog_1_method_37_code 99 = .ok (.goto 28, 3) := by decide +kernel
theorem d_Y_pollWait_102 : decode prog_1_method_37_code 102 = .ok (.iload 5, 2) := by decide +kernel
theorem d_Y_pollWait_104 : decode prog_1_method_37_code 104 = .ok (.ifCond .eq 23, 3) := by decide +kernel
theorem d_Y_pollWait_107 : decode prog_1_method_37_code 107 = .ok (.aload_n 1, 1) := by decide +kernel
theorem d_Y_pollWait_108 : decode prog_1_method_37_code 108 = .ok (.getfield 204, 3) := by decide +kernel
theorem d_Y_pollWait_111 : decode prog_1_method_37_code 111 = .ok (.iload_n 2, 1) := by decide +kernel
theorem d_Y_pollWait_112 : decode prog_1_method_37_code 112 = .ok (.iconst 0, 1) := by decide +kernel
theorem d_Y_pollWait_113 : decode prog_1_method_37_code 113 = .ok (.iastore, 1) := by decide +kernel
theorem d_Y_pollWait_114 : decode prog_1_method_37_code 114 = .ok (.aload 4, 2) := by decide +kernel
theorem d_Y_pollWait_116 : decode prog_1_method_37_code 116 = .ok (.getfield 186, 3) := by decide +kernel
theorem d_Y_pollWait_119 : decode prog_1_method_37_code 119 = .ok (.aload_n 1, 1) := by decide +kernel
theorem d_Y_pollWait_120 : decode prog_1_method_37_code 120 = .ok (.iload_n 2, 1) := by decide +kernel
theorem d_Y_pollWait_121 : decode prog_1_method_37_code 121 = .ok (.invokevirtual 326, 3) := by decide +kernel
theorem d_Y_pollWait_124 : decode prog_1_method_37_code 124 = .ok (.invokevirtual 210, 3) := by decide +kernel
theorem d_Y_pollWait_127 : decode prog_1_method_37_code 127 = .ok (.return_, 1) := by decide +kernel
theorem d_Y_pollReap_0 : decode prog_1_method_38_code 0 = .ok (.iload_n 2, 1) := by decide +kernel
theorem d_Y_pollReap_1 : decode prog_1_method_38_code 1 = .ok (.iconst 1, 1) := by decide +kernel
theorem d_Y_pollReap_2 : decode prog_1_method_38_code 2 = .ok (.iadd, 1) := by decide +kernel
theorem d_Y_pollReap_3 : decode prog_1_method_38_code 3 = .ok (.istore 4, 2) := by decide +kernel
theorem d_Y_pollReap_5 : decode prog_1_method_38_code 5 = .ok (.aload_n 0, 1) := by decide +kernel
theorem d_Y_pollReap_6 : decode prog_1_method_38_code 6 = .ok (.aload_n 1, 1) := by decide +kernel
theorem d_Y_pollReap_7 : decode prog_1_method_38_code 7 = .ok (.iload 4, 2) := by decide +kernel
theorem d_Y_pollReap_9 : decode prog_1_method_38_code 9 = .ok (.iload_n 3, 1) := by decide +kernel
theorem d_Y_pollReap_10 : decode prog_1_method_38_code 10 = .ok (.iconst 1, 1) := by decide +kernel
theorem d_Y_pollReap_11 : decode prog_1_method_38_code 11 = .ok (.iadd, 1) := by decide +kernel
theorem d_Y_pollReap_12 : decode prog_1_method_38_code 12 = .ok (.invokevirtual 240, 3) := by decide +kernel
theorem d_Y_pollReap_15 : decode prog_1_method_38_code 15 = .ok (.iconst 2, 1) := by decide +kernel
theorem d_Y_pollReap_16 : decode prog_1_method_38_code 16 = .ok (.if_icmp .eq 11, 3) := by decide +kernel
theorem d_Y_pollReap_19 : decode prog_1_method_38_code 19 = .ok (.aload_n 1, 1) := by decide +kernel
theorem d_Y_pollReap_20 : decode prog_1_method_38_code 20 = .ok (.iload_n 2, 1) := by decide +kernel
theorem d_Y_pollReap_21 : decode prog_1_method_38_code 21 = .ok (.iload 4, 2) := by decide +kernel
theorem d_Y_pollReap_23 : decode prog_1_method_38_code 23 = .ok (.invokevirtual 329, 3) := by decide +kernel
theorem d_Y_pollReap_26 : decode prog_1_method_38_code 26 = .ok (.return_, 1) := by decide +kernel
theorem d_Y_pollReap_27 : decode prog_1_method_38_code 27 = .ok (.aload_n 0, 1) := by decide +kernel
theorem d_Y_pollReap_28 : decode prog_1_method_38_code 28 = .ok (.aload_n 1, 1) := by decide +kernel
theorem d_Y_pollReap_29 : decode prog_1_method_38_code 29 = .ok (.iload 4, 2) := by decide +kernel
theorem d_Y_pollReap_31 : decode prog_1_method_38_code 31 = .ok (.invokevirtual 332, 3) := by decide +kernel
theorem d_Y_pollReap_34 : decode prog_1_method_38_code 34 = .ok (.invokevirtual 113, 3) := by decide +kernel
theorem d_Y_pollReap_37 : decode prog_1_method_38_code 37 = .ok (.astore 5, 2) := by decide +kernel
theorem d_Y_pollReap_39 : decode prog_1_method_38_code 39 = .ok (.aload 5, 2) := by decide +kernel
theorem d_Y_pollReap_41 : decode prog_1_method_38_code 41 = .ok (.ifnull 15, 3) := by decide +kernel
theorem d_Y_pollReap_44 : decode prog_1_method_38_code 44 = .ok (.aload 5, 2) := by decide +kernel
theorem d_Y_pollReap_46 : decode prog_1_method_38_code 46 = .ok (.getfield 213, 3) := by decide +kernel
theorem d_Y_pollReap_49 : decode prog_1_method_38_code 49 = .ok (.aload_n 1, 1) := by decide +kernel
theorem d_Y_pollReap_50 : decode prog_1_method_38_code 50 = .ok (.getfield 213, 3) := by decide +kernel
theorem d_Y_pollReap_53 : decode prog_1_method_38_code 53 = .ok (.if_icmp .ne 13, 3) := by decide +kernel
theorem d_Y_pollReap_56 : decode prog_1_method_38_code 56 = .ok (.aload_n 1, 1) := by decide +kernel
theorem d_Y_pollReap_57 : decode prog_1_method_38_code 57 = .ok (.iload_n 2, 1) := by decide +kernel
theorem d_Y_pollReap_58 : decode prog_1_method_38_code 58 = .ok (.bipush 98, 2) := by decide +kernel
theorem d_Y_pollReap_60 : decode prog_1_method_38_code 60 = .ok (.invokevirtual 295, 3) := by decide +kernel
theorem d_Y_pollReap_63 : decode prog_1_method_38_code 63 = .ok (.goto 71, 3) := by decide +kernel
theorem d_Y_pollReap_66 : decode prog_1_method_38_code 66 = .ok (.aload 5, 2) := by decide +kernel
theorem d_Y_pollReap_68 : decode prog_1_method_38_code 68 = .ok (.getfield 123, 3) := by decide +kernel
theorem d_Y_pollReap_71 : decode prog_1_method_38_code 71 = .ok (.iconst 4, 1) := by decide +kernel
theorem d_Y_pollReap_72 : decode prog_1_method_38_code 72 = .ok (.if_icmp .ne 13, 3) := by decide +kernel
theorem d_Y_pollReap_75 : decode prog_1_method_38_code 75 = .ok (.aload_n 1, 1) := by decide +kernel
theorem d_Y_pollReap_76 : decode prog_1_method_38_code 76 = .ok (.iload_n 2, 1) := by decide +kernel
theorem d_Y_pollReap_77 : decode prog_1_method_38_code 77 = .ok (.bipush 99, 2) := by decide +kernel
theorem d_Y_pollReap_79 : decode prog_1_method_38_code 79 = .ok (.invokevirtual 295, 3) := by decide +kernel
theorem d_Y_pollReap_82 : decode prog_1_method_38_code 82 = .ok (.goto 52, 3) := by decide +kernel
theorem d_Y_pollReap_85 : decode prog_1_method_38_code 85 = .ok (.aload 5, 2) := by decide +kernel
theorem d_Y_pollReap_87 : decode prog_1_method_38_code 87 = .ok (.getfield 123, 3) := by decide +kernel
theorem d_Y_pollReap_90 : decode prog_1_method_38_code 90 = .ok (.iconst 3, 1) := by decide +kernel
theorem d_Y_pollReap_91 : decode prog_1_method_38_code 91 = .ok (.if_icmp .ne 16, 3) := by decide +kernel
theorem d_Y_pollReap_94 : decode prog_1_method_38_code 94 = .ok (.aload_n 1, 1) := by decide +kernel
theorem d_Y_pollReap_95 : decode prog_1_method_38_code 95 = .ok (.iload_n 2, 1) := by decide +kernel
theorem d_Y_pollReap_96 : decode prog_1_method_38_code 96 = .ok (.aload 5, 2) := by decide +kernel
theorem d_Y_pollReap_98 : decode prog_1_method_38_code 98 = .ok (.getfield 144, 3) := by decide +kernel
theorem d_Y_pollReap_101 : decode prog_1_method_38_code 101 = .ok (.invokevirtual 295, 3) := by decide +kernel
theorem d_Y_pollReap_104 : decode prog_1_method_38_code 104 = .ok (.goto 30, 3) := by decide +kernel
theorem d_Y_pollReap_107 : decode prog_1_method_38_code 107 = .ok (.aload 5, 2) := by decide +kernel
theorem d_Y_pollReap_109 : decode prog_1_method_38_code 109 = .ok (.getfield 123, 3) := by decide +kernel
theorem d_Y_pollReap_112 : decode prog_1_method_38_code 112 = .ok (.iconst 2, 1) := by decide +kernel
theorem d_Y_pollReap_113 : decode prog_1_method_38_code 113 = .ok (.if_icmp .ne 21, 3) := by decide +kernel
theorem d_Y_pollReap_116 : decode prog_1_method_38_code 116 = .ok (.aload_n 0, 1) := by decide +kernel
theorem d_Y_pollReap_117 : decode prog_1_method_38_code 117 = .ok (.aload_n 1, 1) := by decide +kernel
theorem d_Y_pollReap_118 : decode prog_1_method_38_code 118 = .ok (.invokevirtual 322, 3) := by decide +kernel
theorem d_Y_pollReap_121 : decode prog_1_method_38_code 121 = .ok (.ifCond .eq 13, 3) := by decide +kernel
theorem d_Y_pollReap_124 : decode prog_1_method_38_code 124 = .ok (.aload_n 1, 1) := by decide +kernel
theorem d_Y_pollReap_125 : decode prog_1_method_38_code 125 = .ok (.iload_n 2, 1) := by decide +kernel
theorem d_Y_pollReap_126 : decode prog_1_method_38_code 126 = .ok (.aload 5, 2) := by decide +kernel
theorem d_Y_pollReap_128 : decode prog_1_method_38_code 128 = .ok (.getfield 144, 3) := by decide +kernel
theorem d_Y_pollReap_131 : decode prog_1_method_38_code 131 = .ok (.invokevirtual 272, 3) := by decide +kernel
theorem d_Y_pollReap_134 : decode prog_1_method_38_code 134 = .ok (.return_, 1) := by decide +kernel
theorem d_Y_pollThen_0 : decode prog_1_method_39_code 0 = .ok (.iload_n 2, 1) := by decide +kernel
theorem d_Y_pollThen_1 : decode prog_1_method_39_code 1 = .ok (.iconst 1, 1) := by decide +kernel
theorem d_Y_pollThen_2 : decode prog_1_method_39_code 2 = .ok (.iadd, 1) := by decide +kernel
theorem d_Y_pollThen_3 : decode prog_1_method_39_code 3 = .ok (.istore 4, 2) := by decide +kernel
theorem d_Y_pollThen_5 : decode prog_1_method_39_code 5 = .ok (.aload_n 0, 1) := by decide +kernel
theorem d_Y_pollThen_6 : decode prog_1_method_39_code 6 = .ok (.aload_n 1, 1) := by decide +kernel
theorem d_Y_pollThen_7 : decode prog_1_method_39_code 7 = .ok (.iload 4, 2) := by decide +kernel
theorem d_Y_pollThen_9 : decode prog_1_method_39_code 9 = .ok (.iload_n 3, 1) := by decide +kernel
theorem d_Y_pollThen_10 : decode prog_1_method_39_code 10 = .ok (.iconst 1, 1) := by decide +kernel
theorem d_Y_pollThen_11 : decode prog_1_method_39_code 11 = .ok (.iadd, 1) := by decide +kernel
theorem d_Y_pollThen_12 : decode prog_1_method_39_code 12 = .ok (.invokevirtual 240, 3) := by decide +kernel
theorem d_Y_pollThen_15 : decode prog_1_method_39_code 15 = .ok (.iconst 2, 1) := by decide +kernel
theorem d_Y_pollThen_16 : decode prog_1_method_39_code 16 = .ok (.if_icmp .eq 11, 3) := by decide +kernel
theorem d_Y_pollThen_19 : decode prog_1_method_39_code 19 = .ok (.aload_n 1, 1) := by decide +kernel
theorem d_Y_pollThen_20 : decode prog_1_method_39_code 20 = .ok (.iload_n 2, 1) := by decide +kernel
theorem d_Y_pollThen_21 : decode prog_1_method_39_code 21 = .ok (.iload 4, 2) := by decide +kernel
theorem d_Y_pollThen_23 : decode prog_1_method_39_code 23 = .ok (.invokevirtual 329, 3) := by decide +kernel
theorem d_Y_pollThen_26 : decode prog_1_method_39_code 26 = .ok (.return_, 1) := by decide +kernel
theorem d_Y_pollThen_27 : decode prog_1_method_39_code 27 = .ok (.aload_n 1, 1) := by decide +kernel
theorem d_Y_pollThen_28 : decode prog_1_method_39_code 28 = .ok (.getfield 257, 3) := by decide +kernel
theorem d_Y_pollThen_31 : decode prog_1_method_39_code 31 = .ok (.iload 4, 2) := by decide +kernel
theorem d_Y_pollThen_33 : decode prog_1_method_39_code 33 = .ok (.invokevirtual 335, 3) := by decide +kernel
theorem d_Y_pollThen_36 : decode prog_1_method_39_code 36 = .ok (.istore 5, 2) := by decide +kernel
theorem d_Y_pollThen_38 : decode prog_1_method_39_code 38 = .ok (.aload_n 0, 1) := by decide +kernel
theorem d_Y_pollThen_39 : decode prog_1_method_39_code 39 = .ok (.aload_n 1, 1) := by decide +kernel
theorem d_Y_pollThen_40 : decode prog_1_method_39_code 40 = .ok (.iload 5, 2) := by decide +kernel
theorem d_Y_pollThen_42 : decode prog_1_method_39_code 42 = .ok (.iload_n 3, 1) := by decide +kernel
theorem d_Y_pollThen_43 : decode prog_1_method_39_code 43 = .ok (.iconst 1, 1) := by decide +kernel
theorem d_Y_pollThen_44 : decode prog_1_method_39_code 44 = .ok (.iadd, 1) := by decide +kernel
theorem d_Y_pollThen_45 : decode prog_1_method_39_code 45 = .ok (.invokevirtual 240, 3) := by decide +kernel
theorem d_Y_pollThen_48 : decode prog_1_method_39_code 48 = .ok (.pop, 1) := by decide +kernel
theorem d_Y_pollThen_49 : decode prog_1_method_39_code 49 = .ok (.aload_n 1, 1) := by decide +kernel
theorem d_Y_pollThen_50 : decode prog_1_method_39_code 50 = .ok (.iload_n 2, 1) := by decide +kernel
theorem d_Y_pollThen_51 : decode prog_1_method_39_code 51 = .ok (.iload 5, 2) := by decide +kernel
theorem d_Y_pollThen_53 : decode prog_1_method_39_code 53 = .ok (.invokevirtual 329, 3) := by decide +kernel
theorem d_Y_pollThen_56 : decode prog_1_method_39_code 56 = .ok (.return_, 1) := by decide +kernel
theorem d_Y_pollBoth_0 : decode prog_1_method_40_code 0 = .ok (.iload_n 2, 1) := by decide +kernel
theorem d_Y_pollBoth_1 : decode prog_1_method_40_code 1 = .ok (.iconst 1, 1) := by decide +kernel
theorem d_Y_pollBoth_2 : decode prog_1_method_40_code 2 = .ok (.iadd, 1) := by decide +kernel
theorem d_Y_pollBoth_3 : decode prog_1_method_40_code 3 = .ok (.istore 4, 2) := by decide +kernel
theorem d_Y_pollBoth_5 : decode prog_1_method_40_code 5 = .ok (.aload_n 1, 1) := by decide +kernel
theorem d_Y_pollBoth_6 : decode prog_1_method_40_code 6 = .ok (.getfield 257, 3) := by decide +kernel
theorem d_Y_pollBoth_9 : decode prog_1_method_40_code 9 = .ok (.iload 4, 2) := by decide +kernel
theorem d_Y_pollBoth_11 : decode prog_1_method_40_code 11 = .ok (.invokevirtual 335, 3) := by decide +kernel
theorem d_Y_pollBoth_14 : decode prog_1_method_40_code 14 = .ok (.istore 5, 2) := by decide +kernel
theorem d_Y_pollBoth_16 : decode prog_1_method_40_code 16 = .ok (.aload_n 0, 1) := by decide +kernel
theorem d_Y_pollBoth_17 : decode prog_1_method_40_code 17 = .ok (.aload_n 1, 1) := by decide +kernel
theorem d_Y_pollBoth_18 : decode prog_1_method_40_code 18 = .ok (.iload 4, 2) := by decide +kernel
theorem d_Y_pollBoth_20 : decode prog_1_method_40_code 20 = .ok (.iload_n 3, 1) := by decide +kernel
theorem d_Y_pollBoth_21 : decode prog_1_method_40_code 21 = .ok (.iconst 1, 1) := by decide +kernel
theorem d_Y_pollBoth_22 : decode prog_1_method_40_code 22 = .ok (.iadd, 1) := by decide +kernel
theorem d_Y_pollBoth_23 : decode prog_1_method_40_code 23 = .ok (.invokevirtual 240, 3) := by decide +kernel
theorem d_Y_pollBoth_26 : decode prog_1_method_40_code 26 = .ok (.istore 6, 2) := by decide +kernel
theorem d_Y_pollBoth_28 : decode prog_1_method_40_code 28 = .ok (.iload 6, 2) := by decide +kernel
theorem d_Y_pollBoth_30 : decode prog_1_method_40_code 30 = .ok (.iconst 3, 1) := by decide +kernel
theorem d_Y_pollBoth_31 : decode prog_1_method_40_code 31 = .ok (.if_icmp .ne 18, 3) := by decide +kernel
theorem d_Y_pollBoth_34 : decode prog_1_method_40_code 34 = .ok (.aload_n 0, 1) := by decide +kernel
theorem d_Y_pollBoth_35 : decode prog_1_method_40_code 35 = .ok (.aload_n 1, 1) := by decide +kernel
theorem d_Y_pollBoth_36 : decode prog_1_method_40_code 36 = .ok (.iload 5, 2) := by decide +kernel
theorem d_Y_pollBoth_38 : decode prog_1_method_40_code 38 = .ok (.invokevirtual 126, 3) := by decide +kernel
theorem d_Y_pollBoth_41 : decode prog_1_method_40_code 41 = .ok (.aload_n 1, 1) := by decide +kernel
theorem d_Y_pollBoth_42 : decode prog_1_method_40_code 42 = .ok (.iload_n 2, 1) := by decide +kernel
theorem d_Y_pollBoth_43 : decode prog_1_method_40_code 43 = .ok (.iload 4, 2) := by decide +kernel
theorem d_Y_pollBoth_45 : decode prog_1_method_40_code 45 = .ok (.invokevirtual 329, 3) := by decide +kernel
theorem d_Y_pollBoth_48 : decode prog_1_method_40_code 48 = .ok (.return_, 1) := by decide +kernel
theorem d_Y_pollBoth_49 : decode prog_1_method_40_code 49 = .ok (.aload_n 0, 1) := by decide +kernel
theorem d_Y_pollBoth_50 : decode prog_1_method_40_code 50 = .ok (.aload_n 1, 1) := by decide +kernel
theorem d_Y_pollBoth_51 : decode prog_1_method_40_code 51 = .ok (.iload 5, 2) := by decide +kernel
theorem d_Y_pollBoth_53 : decode prog_1_method_40_code 53 = .ok (.iload_n 3, 1) := by decide +kernel
theorem d_Y_pollBoth_54 : decode prog_1_method_40_code 54 = .ok (.iconst 1, 1) := by decide +kernel
theorem d_Y_pollBoth_55 : decode prog_1_method_40_code 55 = .ok (.iadd, 1) := by decide +kernel
theorem d_Y_pollBoth_56 : decode prog_1_method_40_code 56 = .ok (.invokevirtual 240, 3) := by decide +kernel
theorem d_Y_pollBoth_59 : decode prog_1_method_40_code 59 = .ok (.istore 7, 2) := by decide +kernel
theorem d_Y_pollBoth_61 : decode prog_1_method_40_code 61 = .ok (.iload 7, 2) := by decide +kernel
theorem d_Y_pollBoth_63 : decode prog_1_method_40_code 63 = .ok (.iconst 3, 1) := by decide +kernel
theorem d_Y_pollBoth_64 : decode prog_1_method_40_code 64 = .ok (.if_icmp .ne 20, 3) := by decide +kernel
theorem d_Y_pollBoth_67 : decode prog_1_method_40_code 67 = .ok (.aload_n 0, 1) := by decide +kernel
theorem d_Y_pollBoth_68 : decode prog_1_method_40_code 68 = .ok (.aload_n 1, 1) := by decide +kernel
theorem d_Y_pollBoth_69 : decode prog_1_method_40_code 69 = .ok (.iload 4, 2) := by decide +kernel
theorem d_Y_pollBoth_71 : decode prog_1_method_40_code 71 = .ok (.invokevirtual 126, 3) := by decide +kernel
theorem d_Y_pollBoth_74 : decode prog_1_method_40_code 74 = .ok (.aload_n 1, 1) := by decide +kernel
theorem d_Y_pollBoth_75 : decode prog_1_method_40_code 75 = .ok (.iload_n 2, 1) := by decide +kernel
theorem d_Y_pollBoth_76 : decode prog_1_method_40_code 76 = .ok (.iload 5, 2) := by decide +kernel
theorem d_Y_pollBoth_78 : decode prog_1_method_40_code 78 = .ok (.invokevirtual 329, 3) := by decide +kernel
theorem d_Y_pollBoth_81 : decode prog_1_method_40_code 81 = .ok (.goto 33, 3) := by decide +kernel
theorem d_Y_pollBoth_84 : decode prog_1_method_40_code 84 = .ok (.iload 6, 2) := by decide +kernel
theorem d_Y_pollBoth_86 : decode prog_1_method_40_code 86 = .ok (.iconst 2, 1) := by decide +kernel
theorem d_Y_pollBoth_87 : decode prog_1_method_40_code 87 = .ok (.if_icmp .ne 27, 3) := by decide +kernel
theorem d_Y_pollBoth_90 : decode prog_1_method_40_code 90 = .ok (.iload 7, 2) := by decide +kernel
theorem d_Y_pollBoth_92 : decode prog_1_method_40_code 92 = .ok (.iconst 2, 1) := by decide +kernel
theorem d_Y_pollBoth_93 : decode prog_1_method_40_code 93 = .ok (.if_icmp .ne 21, 3) := by decide +kernel
theorem d_Y_pollBoth_96 : decode prog_1_method_40_code 96 = .ok (.aload_n 1, 1) := by decide +kernel
theorem d_Y_pollBoth_97 : decode prog_1_method_40_code 97 = .ok (.iload_n 2, 1) := by decide +kernel
theorem d_Y_pollBoth_98 : decode prog_1_method_40_code 98 = .ok (.aload_n 1, 1) := by decide +kernel
theorem d_Y_pollBoth_99 : decode prog_1_method_40_code 99 = .ok (.iload 4, 2) := by decide +kernel
theorem d_Y_pollBoth_101 : decode prog_1_method_40_code 101 = .ok (.invokevirtual 332, 3) := by decide +kernel
theorem d_Y_pollBoth_104 : decode prog_1_method_40_code 104 = .ok (.aload_n 1, 1) := by decide +kernel
theorem d_Y_pollBoth_105 : decode prog_1_method_40_code 105 = .ok (.iload 5, 2) := by decide +kernel
theorem d_Y_pollBoth_107 : decode prog_1_method_40_code 107 = .ok (.invokevirtual 332, 3) := by decide +kernel
theorem d_Y_pollBoth_110 : decode prog_1_method_40_code 110 = .ok (.iadd, 1) := by decide +kernel
theorem d_Y_pollBoth_111 : decode prog_1_method_40_code 111 = .ok (.invokevirtual 272, 3) := by decide +kernel
theorem d_Y_pollBoth_114 : decode prog_1_method_40_code 114 = .ok (.return_, 1) := by decide +kernel
theorem d_Y_pollFirst_0 : decode prog_1_method_41_code 0 = .ok (.iload_n 2, 1) := by decide +kernel
theorem d_Y_pollFirst_1 : decode prog_1_method_41_code 1 = .ok (.iconst 1, 1) := by decide +kernel
theorem d_Y_pollFirst_2 : decode prog_1_method_41_code 2 = .ok (.iadd, 1) := by decide +kernel
theorem d_Y_pollFirst_3 : decode prog_1_method_41_code 3 = .ok (.istore 4, 2) := by decide +kernel
theorem d_Y_pollFirst_5 : decode prog_1_method_41_code 5 = .ok (.aload_n 1, 1) := by decide +kernel
theorem d_Y_pollFirst_6 : decode prog_1_method_41_code 6 = .ok (.getfield 257, 3) := by decide +kernel
theorem d_Y_pollFirst_9 : decode prog_1_method_41_code 9 = .ok (.iload 4, 2) := by decide +kernel
theorem d_Y_pollFirst_11 : decode prog_1_method_41_code 11 = .ok (.invokevirtual 335, 3) := by decide +kernel
theorem d_Y_pollFirst_14 : decode prog_1_method_41_code 14 = .ok (.istore 5, 2) := by decide +kernel
theorem d_Y_pollFirst_16 : decode prog_1_method_41_code 16 = .ok (.aload_n 0, 1) := by decide +kernel
theorem d_Y_pollFirst_17 : decode prog_1_method_41_code 17 = .ok (.aload_n 1, 1) := by decide +kernel
theorem d_Y_pollFirst_18 : decode prog_1_method_41_code 18 = .ok (.iload 4, 2) := by decide +kernel
theorem d_Y_pollFirst_20 : decode prog_1_method_41_code 20 = .ok (.iload_n 3, 1) := by decide +kernel
theorem d_Y_pollFirst_21 : decode prog_1_method_41_code 21 = .ok (.iconst 1, 1) := by decide +kernel
theorem d_Y_pollFirst_22 : decode prog_1_method_41_code 22 = .ok (.iadd, 1) := by decide +kernel
theorem d_Y_pollFirst_23 : decode prog_1_method_41_code 23 = .ok (.invokevirtual 240, 3) := by decide +kernel
theorem d_Y_pollFirst_26 : decode prog_1_method_41_code 26 = .ok (.iconst 1, 1) := by decide +kernel
theorem d_Y_pollFirst_27 : decode prog_1_method_41_code 27 = .ok (.if_icmp .eq 20, 3) := by decide +kernel
theorem d_Y_pollFirst_30 : decode prog_1_method_41_code 30 = .ok (.aload_n 0, 1) := by decide +kernel
theorem d_Y_pollFirst_31 : decode prog_1_method_41_code 31 = .ok (.aload_n 1, 1) := by decide +kernel
theorem d_Y_pollFirst_32 : decode prog_1_method_41_code 32 = .ok (.iload 5, 2) := by decide +kernel
theorem d_Y_pollFirst_34 : decode prog_1_method_41_code 34 = .ok (.invokevirtual 126, 3) := by decide +kernel
theorem d_Y_pollFirst_37 : decode prog_1_method_41_code 37 = .ok (.aload_n 1, 1) := by decide +kernel
theorem d_Y_pollFirst_38 : decode prog_1_method_41_code 38 = .ok (.iload_n 2, 1) := by decide +kernel
theorem d_Y_pollFirst_39 : decode prog_1_method_41_code 39 = .ok (.iload 4, 2) := by decide +kernel
theorem d_Y_pollFirst_41 : decode prog_1_method_41_code 41 = .ok (.invokevirtual 329, 3) := by decide +kernel
theorem d_Y_pollFirst_44 : decode prog_1_method_41_code 44 = .ok (.goto 31, 3) := by decide +kernel
theorem d_Y_pollFirst_47 : decode prog_1_method_41_code 47 = .ok (.aload_n 0, 1) := by decide +kernel
theorem d_Y_pollFirst_48 : decode prog_1_method_41_code 48 = .ok (.aload_n 1, 1) := by decide +kernel
theorem d_Y_pollFirst_49 : decode prog_1_method_41_code 49 = .ok (.iload 5, 2) := by decide +kernel
theorem d_Y_pollFirst_51 : decode prog_1_method_41_code 51 = .ok (.iload_n 3, 1) := by decide +kernel
theorem d_Y_pollFirst_52 : decode prog_1_method_41_code 52 = .ok (.iconst 1, 1) := by decide +kernel
theorem d_Y_pollFirst_53 : decode prog_1_method_41_code 53 = .ok (.iadd, 1) := by decide +kernel
theorem d_Y_pollFirst_54 : decode prog_1_method_41_code 54 = .ok (.invokevirtual 240, 3) := by decide +kernel
theorem d_Y_pollFirst_57 : decode prog_1_method_41_code 57 = .ok (.iconst 1, 1) := by decide +kernel
theorem d_Y_pollFirst_58 : decode prog_1_method_41_code 58 = .ok (.if_icmp .eq 17, 3) := by decide +kernel
theorem d_Y_pollFirst_61 : decode prog_1_method_41_code 61 = .ok (.aload_n 0, 1) := by decide +kernel
theorem d_Y_pollFirst_62 : decode prog_1_method_41_code 62 = .ok (.aload_n 1, 1) := by decide +kernel
theorem d_Y_pollFirst_63 : decode prog_1_method_41_code 63 = .ok (.iload 4, 2) := by decide +kernel
theorem d_Y_pollFirst_65 : decode prog_1_method_41_code 65 = .ok (.invokevirtual 126, 3) := by decide +kernel
theorem d_Y_pollFirst_68 : decode prog_1_method_41_code 68 = .ok (.aload_n 1, 1) := by decide +kernel
theorem d_Y_pollFirst_69 : decode prog_1_method_41_code 69 = .ok (.iload_n 2, 1) := by decide +kernel
theorem d_Y_pollFirst_70 : decode prog_1_method_41_code 70 = .ok (.iload 5, 2) := by decide +kernel
theorem d_Y_pollFirst_72 : decode prog_1_method_41_code 72 = .ok (.invokevirtual 329, 3) := by decide +kernel
theorem d_Y_pollFirst_75 : decode prog_1_method_41_code 75 = .ok (.return_, 1) := by decide +kernel
theorem d_Y_pollWithin_0 : decode prog_1_method_42_code 0 = .ok (.iload_n 2, 1) := by decide +kernel
theorem d_Y_pollWithin_1 : decode prog_1_method_42_code 1 = .ok (.iconst 1, 1) := by decide +kernel
theorem d_Y_pollWithin_2 : decode prog_1_method_42_code 2 = .ok (.iadd, 1) := by decide +kernel
theorem d_Y_pollWithin_3 : decode prog_1_method_42_code 3 = .ok (.istore 4, 2) := by decide +kernel
theorem d_Y_pollWithin_5 : decode prog_1_method_42_code 5 = .ok (.aload_n 1, 1) := by decide +kernel
theorem d_Y_pollWithin_6 : decode prog_1_method_42_code 6 = .ok (.getfield 204, 3) := by decide +kernel
theorem d_Y_pollWithin_9 : decode prog_1_method_42_code 9 = .ok (.iload_n 2, 1) := by decide +kernel
theorem d_Y_pollWithin_10 : decode prog_1_method_42_code 10 = .ok (.iaload, 1) := by decide +kernel
theorem d_Y_pollWithin_11 : decode prog_1_method_42_code 11 = .ok (.iconst (-1), 1) := by decide +kernel
theorem d_Y_pollWithin_12 : decode prog_1_method_42_code 12 = .ok (.if_icmp .ne 13, 3) := by decide +kernel
theorem d_Y_pollWithin_15 : decode prog_1_method_42_code 15 = .ok (.aload_n 1, 1) := by decide +kernel
theorem d_Y_pollWithin_16 : decode prog_1_method_42_code 16 = .ok (.getfield 204, 3) := by decide +kernel
theorem d_Y_pollWithin_19 : decode prog_1_method_42_code 19 = .ok (.iload_n 2, 1) := by decide +kernel
theorem d_Y_pollWithin_20 : decode prog_1_method_42_code 20 = .ok (.aload_n 0, 1) := by decide +kernel
theorem d_Y_pollWithin_21 : decode prog_1_method_42_code 21 = .ok (.getfield 66, 3) := by decide +kernel
theorem d_Y_pollWithin_24 : decode prog_1_method_42_code 24 = .ok (.iastore, 1) := by decide +kernel
theorem d_Y_pollWithin_25 : decode prog_1_method_42_code 25 = .ok (.aload_n 0, 1) := by decide +kernel
theorem d_Y_pollWithin_26 : decode prog_1_method_42_code 26 = .ok (.aload_n 1, 1) := by decide +kernel
theorem d_Y_pollWithin_27 : decode prog_1_method_42_code 27 = .ok (.iload 4, 2) := by decide +kernel
theorem d_Y_pollWithin_29 : decode prog_1_method_42_code 29 = .ok (.iload_n 3, 1) := by decide +kernel
theorem d_Y_pollWithin_30 : decode prog_1_method_42_code 30 = .ok (.iconst 1, 1) := by decide +kernel
theorem d_Y_pollWithin_31 : decode prog_1_method_42_code 31 = .ok (.iadd, 1) := by decide +kernel
theorem d_Y_pollWithin_32 : decode prog_1_method_42_code 32 = .ok (.invokevirtual 240, 3) := by decide +kernel
theorem d_Y_pollWithin_35 : decode prog_1_method_42_code 35 = .ok (.iconst 1, 1) := by decide +kernel
theorem d_Y_pollWithin_36 : decode prog_1_method_42_code 36 = .ok (.if_icmp .eq 13, 3) := by decide +kernel
theorem d_Y_pollWithin_39 : decode prog_1_method_42_code 39 = .ok (.aload_n 1, 1) := by decide +kernel
theorem d_Y_pollWithin_40 : decode prog_1_method_42_code 40 = .ok (.iload_n 2, 1) := by decide +kernel
theorem d_Y_pollWithin_41 : decode prog_1_method_42_code 41 = .ok (.iload 4, 2) := by decide +kernel
theorem d_Y_pollWithin_43 : decode prog_1_method_42_code 43 = .ok (.invokevirtual 329, 3) := by decide +kernel
theorem d_Y_pollWithin_46 : decode prog_1_method_42_code 46 = .ok (.goto 39, 3) := by decide +kernel
theorem d_Y_pollWithin_49 : decode prog_1_method_42_code 49 = .ok (.aload_n 0, 1) := by decide +kernel
theorem d_Y_pollWithin_50 : decode prog_1_method_42_code 50 = .ok (.getfield 66, 3) := by decide +kernel
theorem d_Y_pollWithin_53 : decode prog_1_method_42_code 53 = .ok (.aload_n 1, 1) := by decide +kernel
theorem d_Y_pollWithin_54 : decode prog_1_method_42_code 54 = .ok (.getfield 204, 3) := by decide +kernel
theorem d_Y_pollWithin_57 : decode prog_1_method_42_code 57 = .ok (.iload_n 2, 1) := by decide +kernel
theorem d_Y_pollWithin_58 : decode prog_1_method_42_code 58 = .ok (.iaload, 1) := by decide +kernel
theorem d_Y_pollWithin_59 : decode prog_1_method_42_code 59 = .ok (.isub, 1) := by decide +kernel
theorem d_Y_pollWithin_60 : decode prog_1_method_42_code 60 = .ok (.aload_n 1, 1) := by decide +kernel
theorem d_Y_pollWithin_61 : decode prog_1_method_42_code 61 = .ok (.getfield 257, 3) := by decide +kernel
theorem d_Y_pollWithin_64 : decode prog_1_method_42_code 64 = .ok (.getfield 266, 3) := by decide +kernel
theorem d_Y_pollWithin_67 : decode prog_1_method_42_code 67 = .ok (.iload_n 2, 1) := by decide +kernel
theorem d_Y_pollWithin_68 : decode prog_1_method_42_code 68 = .ok (.iaload, 1) := by decide +kernel
theorem d_Y_pollWithin_69 : decode prog_1_method_42_code 69 = .ok (.if_icmp .lt 16, 3) := by decide +kernel
theorem d_Y_pollWithin_72 : decode prog_1_method_42_code 72 = .ok (.aload_n 0, 1) := by decide +kernel
theorem d_Y_pollWithin_73 : decode prog_1_method_42_code 73 = .ok (.aload_n 1, 1) := by decide +kernel
theorem d_Y_pollWithin_74 : decode prog_1_method_42_code 74 = .ok (.iload 4, 2) := by decide +kernel
theorem d_Y_pollWithin_76 : decode prog_1_method_42_code 76 = .ok (.invokevirtual 126, 3) := by decide +kernel
theorem d_Y_pollWithin_79 : decode prog_1_method_42_code 79 = .ok (.aload_n 1, 1) := by decide +kernel
theorem d_Y_pollWithin_80 : decode prog_1_method_42_code 80 = .ok (.iload_n 2, 1) := by decide +kernel
theorem d_Y_pollWithin_81 : decode prog_1_method_42_code 81 = .ok (.iconst (-1), 1) := by decide +kernel
theorem d_Y_pollWithin_82 : decode prog_1_method_42_code 82 = .ok (.invokevirtual 272, 3) := by decide +kernel
theorem d_Y_pollWithin_85 : decode prog_1_method_42_code 85 = .ok (.return_, 1) := by decide +kernel
theorem d_Y_pollAdd_0 : decode prog_1_method_43_code 0 = .ok (.iload_n 2, 1) := by decide +kernel
theorem d_Y_pollAdd_1 : decode prog_1_method_43_code 1 = .ok (.iconst 1, 1) := by decide +kernel
theorem d_Y_pollAdd_2 : decode prog_1_method_43_code 2 = .ok (.iadd, 1) := by decide +kernel
theorem d_Y_pollAdd_3 : decode prog_1_method_43_code 3 = .ok (.istore 4, 2) := by decide +kernel
theorem d_Y_pollAdd_5 : decode prog_1_method_43_code 5 = .ok (.aload_n 0, 1) := by decide +kernel
theorem d_Y_pollAdd_6 : decode prog_1_method_43_code 6 = .ok (.aload_n 1, 1) := by decide +kernel
theorem d_Y_pollAdd_7 : decode prog_1_method_43_code 7 = .ok (.iload 4, 2) := by decide +kernel
theorem d_Y_pollAdd_9 : decode prog_1_method_43_code 9 = .ok (.iload_n 3, 1) := by decide +kernel
theorem d_Y_pollAdd_10 : decode prog_1_method_43_code 10 = .ok (.iconst 1, 1) := by decide +kernel
theorem d_Y_pollAdd_11 : decode prog_1_method_43_code 11 = .ok (.iadd, 1) := by decide +kernel
theorem d_Y_pollAdd_12 : decode prog_1_method_43_code 12 = .ok (.invokevirtual 240, 3) := by decide +kernel
theorem d_Y_pollAdd_15 : decode prog_1_method_43_code 15 = .ok (.iconst 2, 1) := by decide +kernel
theorem d_Y_pollAdd_16 : decode prog_1_method_43_code 16 = .ok (.if_icmp .ne 27, 3) := by decide +kernel
theorem d_Y_pollAdd_19 : decode prog_1_method_43_code 19 = .ok (.aload_n 1, 1) := by decide +kernel
theorem d_Y_pollAdd_20 : decode prog_1_method_43_code 20 = .ok (.iload_n 2, 1) := by decide +kernel
theorem d_Y_pollAdd_21 : decode prog_1_method_43_code 21 = .ok (.aload_n 1, 1) := by decide +kernel
theorem d_Y_pollAdd_22 : decode prog_1_method_43_code 22 = .ok (.iload 4, 2) := by decide +kernel
theorem d_Y_pollAdd_24 : decode prog_1_method_43_code 24 = .ok (.invokevirtual 332, 3) := by decide +kernel
theorem d_Y_pollAdd_27 : decode prog_1_method_43_code 27 = .ok (.aload_n 1, 1) := by decide +kernel
theorem d_Y_pollAdd_28 : decode prog_1_method_43_code 28 = .ok (.getfield 257, 3) := by decide +kernel
theorem d_Y_pollAdd_31 : decode prog_1_method_43_code 31 = .ok (.getfield 266, 3) := by decide +kernel
theorem d_Y_pollAdd_34 : decode prog_1_method_43_code 34 = .ok (.iload_n 2, 1) := by decide +kernel
theorem d_Y_pollAdd_35 : decode prog_1_method_43_code 35 = .ok (.iaload, 1) := by decide +kernel
theorem d_Y_pollAdd_36 : decode prog_1_method_43_code 36 = .ok (.iadd, 1) := by decide +kernel
theorem d_Y_pollAdd_37 : decode prog_1_method_43_code 37 = .ok (.invokevirtual 272, 3) := by decide +kernel
theorem d_Y_pollAdd_40 : decode prog_1_method_43_code 40 = .ok (.goto 10, 3) := by decide +kernel
theorem d_Y_pollAdd_43 : decode prog_1_method_43_code 43 = .ok (.aload_n 1, 1) := by decide +kernel
theorem d_Y_pollAdd_44 : decode prog_1_method_43_code 44 = .ok (.iload_n 2, 1) := by decide +kernel
theorem d_Y_pollAdd_45 : decode prog_1_method_43_code 45 = .ok (.iload 4, 2) := by decide +kernel
theorem d_Y_pollAdd_47 : decode prog_1_method_43_code 47 = .ok (.invokevirtual 329, 3) := by decide +kernel
theorem d_Y_pollAdd_50 : decode prog_1_method_43_code 50 = .ok (.return_, 1) := by decide +kernel
theorem d_Y_pollCatch_0 : decode prog_1_method_44_code 0 = .ok (.iload_n 2, 1) := by decide +kernel
theorem d_Y_pollCatch_1 : decode prog_1_method_44_code 1 = .ok (.iconst 1, 1) := by decide +kernel
theorem d_Y_pollCatch_2 : decode prog_1_method_44_code 2 = .ok (.iadd, 1) := by decide +kernel
theorem d_Y_pollCatch_3 : decode prog_1_method_44_code 3 = .ok (.istore 4, 2) := by decide +kernel
theorem d_Y_pollCatch_5 : decode prog_1_method_44_code 5 = .ok (.aload_n 0, 1) := by decide +kernel
theorem d_Y_pollCatch_6 : decode prog_1_method_44_code 6 = .ok (.aload_n 1, 1) := by decide +kernel
theorem d_Y_pollCatch_7 : decode prog_1_method_44_code 7 = .ok (.iload 4, 2) := by decide +kernel
theorem d_Y_pollCatch_9 : decode prog_1_method_44_code 9 = .ok (.iload_n 3, 1) := by decide +kernel
theorem d_Y_pollCatch_10 : decode prog_1_method_44_code 10 = .ok (.iconst 1, 1) := by decide +kernel
theorem d_Y_pollCatch_11 : decode prog_1_method_44_code 11 = .ok (.iadd, 1) := by decide +kernel
theorem d_Y_pollCatch_12 : decode prog_1_method_44_code 12 = .ok (.invokevirtual 240, 3) := by decide +kernel
theorem d_Y_pollCatch_15 : decode prog_1_method_44_code 15 = .ok (.iconst 3, 1) := by decide +kernel
theorem d_Y_pollCatch_16 : decode prog_1_method_44_code 16 = .ok (.if_icmp .ne 18, 3) := by decide +kernel
theorem d_Y_pollCatch_19 : decode prog_1_method_44_code 19 = .ok (.aload_n 1, 1) := by decide +kernel
theorem d_Y_pollCatch_20 : decode prog_1_method_44_code 20 = .ok (.iload_n 2, 1) := by decide +kernel
theorem d_Y_pollCatch_21 : decode prog_1_method_44_code 21 = .ok (.aload_n 1, 1) := by decide +kernel
theorem d_Y_pollCatch_22 : decode prog_1_method_44_code 22 = .ok (.iload 4, 2) := by decide +kernel
theorem d_Y_pollCatch_24 : decode prog_1_method_44_code 24 = .ok (.invokevirtual 332, 3) := by decide +kernel
theorem d_Y_pollCatch_27 : decode prog_1_method_44_code 27 = .ok (.ineg, 1) := by decide +kernel
theorem d_Y_pollCatch_28 : decode prog_1_method_44_code 28 = .ok (.invokevirtual 272, 3) := by decide +kernel
theorem d_Y_pollCatch_31 : decode prog_1_method_44_code 31 = .ok (.goto 10, 3) := by decide +kernel
theorem d_Y_pollCatch_34 : decode prog_1_method_44_code 34 = .ok (.aload_n 1, 1) := by decide +kernel
theorem d_Y_pollCatch_35 : decode prog_1_method_44_code 35 = .ok (.iload_n 2, 1) := by decide +kernel
theorem d_Y_pollCatch_36 : decode prog_1_method_44_code 36 = .ok (.iload 4, 2) := by decide +kernel
theorem d_Y_pollCatch_38 : decode prog_1_method_44_code 38 = .ok (.invokevirtual 329, 3) := by decide +kernel
theorem d_Y_pollCatch_41 : decode prog_1_method_44_code 41 = .ok (.return_, 1) := by decide +kernel
theorem d_Y_spendUnit_0 : decode prog_1_method_45_code 0 = .ok (.aload_n 1, 1) := by decide +kernel
theorem d_Y_spendUnit_1 : decode prog_1_method_45_code 1 = .ok (.getfield 153, 3) := by decide +kernel
theorem d_Y_spendUnit_4 : decode prog_1_method_45_code 4 = .ok (.ifCond .gt 10, 3) := by decide +kernel
theorem d_Y_spendUnit_7 : decode prog_1_method_45_code 7 = .ok (.aload_n 0, 1) := by decide +kernel
theorem d_Y_spendUnit_8 : decode prog_1_method_45_code 8 = .ok (.aload_n 1, 1) := by decide +kernel
theorem d_Y_spendUnit_9 : decode prog_1_method_45_code 9 = .ok (.invokevirtual 220, 3) := by decide +kernel
theorem d_Y_spendUnit_12 : decode prog_1_method_45_code 12 = .ok (.iconst 0, 1) := by decide +kernel
theorem d_Y_spendUnit_13 : decode prog_1_method_45_code 13 = .ok (.ireturn, 1) := by decide +kernel
theorem d_Y_spendUnit_14 : decode prog_1_method_45_code 14 = .ok (.aload_n 1, 1) := by decide +kernel
theorem d_Y_spendUnit_15 : decode prog_1_method_45_code 15 = .ok (.dup, 1) := by decide +kernel
theorem d_Y_spendUnit_16 : decode prog_1_method_45_code 16 = .ok (.getfield 153, 3) := by decide +kernel
theorem d_Y_spendUnit_19 : decode prog_1_method_45_code 19 = .ok (.iconst 1, 1) := by decide +kernel
theorem d_Y_spendUnit_20 : decode prog_1_method_45_code 20 = .ok (.isub, 1) := by decide +kernel
theorem d_Y_spendUnit_21 : decode prog_1_method_45_code 21 = .ok (.putfield 153, 3) := by decide +kernel
theorem d_Y_spendUnit_24 : decode prog_1_method_45_code 24 = .ok (.iconst 1, 1) := by decide +kernel
theorem d_Y_spendUnit_25 : decode prog_1_method_45_code 25 = .ok (.ireturn, 1) := by decide +kernel
theorem d_Y_permitsOf_0 : decode prog_1_method_46_code 0 = .ok (.iconst 1, 1) := by decide +kernel
theorem d_Y_permitsOf_1 : decode prog_1_method_46_code 1 = .ok (.iload_n 0, 1) := by decide +kernel
theorem d_Y_permitsOf_2 : decode prog_1_method_46_code 2 = .ok (.iconst 2, 1) := by decide +kernel
theorem d_Y_permitsOf_3 : decode prog_1_method_46_code 3 = .ok (.idiv, 1) := by decide +kernel
theorem d_Y_permitsOf_4 : decode prog_1_method_46_code 4 = .ok (.iadd, 1) := by decide +kernel
theorem d_Y_permitsOf_5 : decode prog_1_method_46_code 5 = .ok (.ireturn, 1) := by decide +kernel
theorem d_Y_addPermits_0 : decode prog_1_method_47_code 0 = .ok (.iload_n 2, 1) := by decide +kernel
theorem d_Y_addPermits_1 : decode prog_1_method_47_code 1 = .ok (.istore_n 3, 1) := by decide +kernel
theorem d_Y_addPermits_2 : decode prog_1_method_47_code 2 = .ok (.aload_n 1, 1) := by decide +kernel
theorem d_Y_addPermits_3 : decode prog_1_method_47_code 3 = .ok (.getfield 175, 3) := by decide +kernel
theorem d_Y_addPermits_6 : decode prog_1_method_47_code 6 = .ok (.getfield 168, 3) := by decide +kernel
theorem d_Y_addPermits_9 : decode prog_1_method_47_code 9 = .ok (.istore 4, 2) := by decide +kernel
theorem d_Y_addPermits_11 : decode prog_1_method_47_code 11 = .ok (.iload 4, 2) := by decide +kernel
theorem d_Y_addPermits_13 : decode prog_1_method_47_code 13 = .ok (.ifCond .le 124, 3) := by decide +kernel
theorem d_Y_addPermits_16 : decode prog_1_method_47_code 16 = .ok (.iload_n 3, 1) := by decide +kernel
theorem d_Y_addPermits_17 : decode prog_1_method_47_code 17 = .ok (.ifCond .le 120, 3) := by decide +kernel
theorem d_Y_addPermits_20 : decode prog_1_method_47_code 20 = .ok (.aload_n 1, 1) := by decide +kernel
theorem d_Y_addPermits_21 : decode prog_1_method_47_code 21 = .ok (.getfield 175, 3) := by decide +kernel
theorem d_Y_addPermits_24 : decode prog_1_method_47_code 24 = .ok (.iconst 0, 1) := by decide +kernel
theorem d_Y_addPermits_25 : decode prog_1_method_47_code 25 = .ok (.invokevirtual 169, 3) := by decide +kernel
theorem d_Y_addPermits_28 : decode prog_1_method_47_code 28 = .ok (.istore 5, 2) := by decide +kernel
theorem d_Y_addPermits_30 : decode prog_1_method_47_code 30 = .ok (.aload_n 0, 1) := by decide +kernel
theorem d_Y_addPermits_31 : decode prog_1_method_47_code 31 = .ok (.iload 5, 2) := by decide +kernel
theorem d_Y_addPermits_33 : decode prog_1_method_47_code 33 = .ok (.invokevirtual 201, 3) := by decide +kernel
theorem d_Y_addPermits_36 : decode prog_1_method_47_code 36 = .ok (.astore 6, 2) := by decide +kernel
theorem d_Y_addPermits_38 : decode prog_1_method_47_code 38 = .ok (.aload 6, 2) := by decide +kernel
theorem d_Y_addPermits_40 : decode prog_1_method_47_code 40 = .ok (.ifnonnull 6, 3) := by decide +kernel
theorem d_Y_addPermits_43 : decode prog_1_method_47_code 43 = .ok (.goto 94, 3) := by decide +kernel
theorem d_Y_addPermits_46 : decode prog_1_method_47_code 46 = .ok (.iload 5, 2) := by decide +kernel
theorem d_Y_addPermits_48 : decode prog_1_method_47_code 48 = .ok (.bipush 12, 2) := by decide +kernel
theorem d_Y_addPermits_50 : decode prog_1_method_47_code 50 = .ok (.irem, 1) := by decide +kernel
theorem d_Y_addPermits_51 : decode prog_1_method_47_code 51 = .ok (.istore 7, 2) := by decide +kernel
theorem d_Y_addPermits_53 : decode prog_1_method_47_code 53 = .ok (.aload 6, 2) := by decide +kernel
theorem d_Y_addPermits_55 : decode prog_1_method_47_code 55 = .ok (.getfield 257, 3) := by decide +kernel
theorem d_Y_addPermits_58 : decode prog_1_method_47_code 58 = .ok (.getfield 266, 3) := by decide +kernel
theorem d_Y_addPermits_61 : decode prog_1_method_47_code 61 = .ok (.iload 7, 2) := by decide +kernel
theorem d_Y_addPermits_63 : decode prog_1_method_47_code 63 = .ok (.iaload, 1) := by decide +kernel
theorem d_Y_addPermits_64 : decode prog_1_method_47_code 64 = .ok (.invokestatic 286, 3) := by decide +kernel
theorem d_Y_addPermits_67 : decode prog_1_method_47_code 67 = .ok (.istore 8, 2) := by decide +kernel
theorem d_Y_addPermits_69 : decode prog_1_method_47_code 69 = .ok (.iload_n 3, 1) := by decide +kernel
theorem d_Y_addPermits_70 : decode prog_1_method_47_code 70 = .ok (.iload 8, 2) := by decide +kernel
theorem d_Y_addPermits_72 : decode prog_1_method_47_code 72 = .ok (.aload 6, 2) := by decide +kernel
theorem d_Y_addPermits_74 : decode prog_1_method_47_code 74 = .ok (.getfield 204, 3) := by decide +kernel
theorem d_Y_addPermits_77 : decode prog_1_method_47_code 77 = .ok (.iload 7, 2) := by decide +kernel
theorem d_Y_addPermits_79 : decode prog_1_method_47_code 79 = .ok (.iaload, 1) := by decide +kernel
theorem d_Y_addPermits_80 : decode prog_1_method_47_code 80 = .ok (.isub, 1) := by decide +kernel
theorem d_Y_addPermits_81 : decode prog_1_method_47_code 81 = .ok (.invokestatic 338, 3) := by decide +kernel
theorem d_Y_addPermits_84 : decode prog_1_method_47_code 84 = .ok (.istore 9, 2) := by decide +kernel
theorem d_Y_addPermits_86 : decode prog_1_method_47_code 86 = .ok (.aload 6, 2) := by decide +kernel
theorem d_Y_addPermits_88 : decode prog_1_method_47_code 88 = .ok (.getfield 204, 3) := by decide +kernel
theorem d_Y_addPermits_91 : decode prog_1_method_47_code 91 = .ok (.iload 7, 2) := by decide +kernel
theorem d_Y_addPermits_93 : decode prog_1_method_47_code 93 = .ok (.dup2, 1) := by decide +kernel
theorem d_Y_addPermits_94 : decode prog_1_method_47_code 94 = .ok (.iaload, 1) := by decide +kernel
theorem d_Y_addPermits_95 : decode prog_1_method_47_code 95 = .ok (.iload 9, 2) := by decide +kernel
theorem d_Y_addPermits_97 : decode prog_1_method_47_code 97 = .ok (.iadd, 1) := by decide +kernel
theorem d_Y_addPermits_98 : decode prog_1_method_47_code 98 = .ok (.iastore, 1) := by decide +kernel
theorem d_Y_addPermits_99 : decode prog_1_method_47_code 99 = .ok (.iload_n 3, 1) := by decide +kernel
theorem d_Y_addPermits_100 : decode prog_1_method_47_code 100 = .ok (.iload 9, 2) := by decide +kernel
theorem d_Y_addPermits_102 : decode prog_1_method_47_code 102 = .ok (.isub, 1) := by decide +kernel
theorem d_Y_addPermits_103 : decode prog_1_method_47_code 103 = .ok (.istore_n 3, 1) := by decide +kernel
theorem d_Y_addPermits_104 : decode prog_1_method_47_code 104 = .ok (.aload 6, 2) := by decide +kernel
theorem d_Y_addPermits_106 : decode prog_1_method_47_code 106 = .ok (.getfield 204, 3) := by decide +kernel
theorem d_Y_addPermits_109 : decode prog_1_method_47_code 109 = .ok (.iload 7, 2) := by decide +kernel
theorem d_Y_addPermits_111 : decode prog_1_method_47_code 111 = .ok (.iaload, 1) := by decide +kernel
theorem d_Y_addPermits_112 : decode prog_1_method_47_code 112 = .ok (.iload 8, 2) := by decide +kernel
theorem d_Y_addPermits_114 : decode prog_1_method_47_code 114 = .ok (.if_icmp .lt 17, 3) := by decide +kernel
theorem d_Y_addPermits_117 : decode prog_1_method_47_code 117 = .ok (.aload_n 1, 1) := by decide +kernel
theorem d_Y_addPermits_118 : decode prog_1_method_47_code 118 = .ok (.getfield 175, 3) := by decide +kernel
theorem d_Y_addPermits_121 : decode prog_1_method_47_code 121 = .ok (.invokevirtual 231, 3) := by decide +kernel
theorem d_Y_addPermits_124 : decode prog_1_method_47_code 124 = .ok (.pop, 1) := by decide +kernel
theorem d_Y_addPermits_125 : decode prog_1_method_47_code 125 = .ok (.aload_n 0, 1) := by decide +kernel
theorem d_Y_addPermits_126 : decode prog_1_method_47_code 126 = .ok (.aload 6, 2) := by decide +kernel
theorem d_Y_addPermits_128 : decode prog_1_method_47_code 128 = .ok (.invokevirtual 220, 3) := by decide +kernel
theorem d_Y_addPermits_131 : decode prog_1_method_47_code 131 = .ok (.iinc 4 (-1), 3) := by decide +kernel
theorem d_Y_addPermits_134 : decode prog_1_method_47_code 134 = .ok (.goto (-123), 3) := by decide +kernel
theorem d_Y_addPermits_137 : decode prog_1_method_47_code 137 = .ok (.aload_n 1, 1) := by decide +kernel
theorem d_Y_addPermits_138 : decode prog_1_method_47_code 138 = .ok (.dup, 1) := by decide +kernel
theorem d_Y_addPermits_139 : decode prog_1_method_47_code 139 = .ok (.getfield 137, 3) := by decide +kernel
theorem d_Y_addPermits_142 : decode prog_1_method_47_code 142 = .ok (.iload_n 3, 1) := by decide +kernel
theorem d_Y_addPermits_143 : decode prog_1_method_47_code 143 = .ok (.iadd, 1) := by decide +kernel
theorem d_Y_addPermits_144 : decode prog_1_method_47_code 144 = .ok (.putfield 137, 3) := by decide +kernel
theorem d_Y_addPermits_147 : decode prog_1_method_47_code 147 = .ok (.return_, 1) := by decide +kernel
theorem d_Y_giveNotice_0 : decode prog_1_method_48_code 0 = .ok (.aload_n 1, 1) := by decide +kernel
theorem d_Y_giveNotice_1 : decode prog_1_method_48_code 1 = .ok (.getfield 186, 3) := by decide +kernel
theorem d_Y_giveNotice_4 : decode prog_1_method_48_code 4 = .ok (.invokevirtual 198, 3) := by decide +kernel
theorem d_Y_giveNotice_7 : decode prog_1_method_48_code 7 = .ok (.ifCond .eq 10, 3) := by decide +kernel
theorem d_Y_giveNotice_10 : decode prog_1_method_48_code 10 = .ok (.aload_n 1, 1) := by decide +kernel
theorem d_Y_giveNotice_11 : decode prog_1_method_48_code 11 = .ok (.iconst 1, 1) := by decide +kernel
theorem d_Y_giveNotice_12 : decode prog_1_method_48_code 12 = .ok (.putfield 182, 3) := by decide +kernel
theorem d_Y_giveNotice_15 : decode prog_1_method_48_code 15 = .ok (.iconst 0, 1) := by decide +kernel
theorem d_Y_giveNotice_16 : decode prog_1_method_48_code 16 = .ok (.ireturn, 1) := by decide +kernel
theorem d_Y_giveNotice_17 : decode prog_1_method_48_code 17 = .ok (.aload_n 1, 1) := by decide +kernel
theorem d_Y_giveNotice_18 : decode prog_1_method_48_code 18 = .ok (.getfield 186, 3) := by decide +kernel
theorem d_Y_giveNotice_21 : decode prog_1_method_48_code 21 = .ok (.invokevirtual 231, 3) := by decide +kernel
theorem d_Y_giveNotice_24 : decode prog_1_method_48_code 24 = .ok (.istore_n 2, 1) := by decide +kernel
theorem d_Y_giveNotice_25 : decode prog_1_method_48_code 25 = .ok (.aload_n 0, 1) := by decide +kernel
theorem d_Y_giveNotice_26 : decode prog_1_method_48_code 26 = .ok (.iload_n 2, 1) := by decide +kernel
theorem d_Y_giveNotice_27 : decode prog_1_method_48_code 27 = .ok (.invokevirtual 201, 3) := by decide +kernel
theorem d_Y_giveNotice_30 : decode prog_1_method_48_code 30 = .ok (.astore_n 3, 1) := by decide +kernel
theorem d_Y_giveNotice_31 : decode prog_1_method_48_code 31 = .ok (.aload_n 3, 1) := by decide +kernel
theorem d_Y_giveNotice_32 : decode prog_1_method_48_code 32 = .ok (.ifnull 18, 3) := by decide +kernel
theorem d_Y_giveNotice_35 : decode prog_1_method_48_code 35 = .ok (.aload_n 3, 1) := by decide +kernel
theorem d_Y_giveNotice_36 : decode prog_1_method_48_code 36 = .ok (.getfield 204, 3) := by decide +kernel
theorem d_Y_giveNotice_39 : decode prog_1_method_48_code 39 = .ok (.iload_n 2, 1) := by decide +kernel
theorem d_Y_giveNotice_40 : decode prog_1_method_48_code 40 = .ok (.bipush 12, 2) := by decide +kernel
theorem d_Y_giveNotice_42 : decode prog_1_method_48_code 42 = .ok (.irem, 1) := by decide +kernel
theorem d_Y_giveNotice_43 : decode prog_1_method_48_code 43 = .ok (.iconst 1, 1) := by decide +kernel
theorem d_Y_giveNotice_44 : decode prog_1_method_48_code 44 = .ok (.iastore, 1) := by decide +kernel
theorem d_Y_giveNotice_45 : decode prog_1_method_48_code 45 = .ok (.aload_n 0, 1) := by decide +kernel
theorem d_Y_giveNotice_46 : decode prog_1_method_48_code 46 = .ok (.aload_n 3, 1) := by decide +kernel
theorem d_Y_giveNotice_47 : decode prog_1_method_48_code 47 = .ok (.invokevirtual 220, 3) := by decide +kernel
theorem d_Y_giveNotice_50 : decode prog_1_method_48_code 50 = .ok (.iconst 1, 1) := by decide +kernel
theorem d_Y_giveNotice_51 : decode prog_1_method_48_code 51 = .ok (.ireturn, 1) := by decide +kernel
theorem d_Y_drop_0 : decode prog_1_method_49_code 0 = .ok (.aload_n 1, 1) := by decide +kernel
theorem d_Y_drop_1 : decode prog_1_method_49_code 1 = .ok (.iload_n 2, 1) := by decide +kernel
theorem d_Y_drop_2 : decode prog_1_method_49_code 2 = .ok (.invokevirtual 341, 3) := by decide +kernel
theorem d_Y_drop_5 : decode prog_1_method_49_code 5 = .ok (.iconst 1, 1) := by decide +kernel
theorem d_Y_drop_6 : decode prog_1_method_49_code 6 = .ok (.if_icmp .eq 4, 3) := by decide +kernel
theorem d_Y_drop_9 : decode prog_1_method_49_code 9 = .ok (.return_, 1) := by decide +kernel
theorem d_Y_drop_10 : decode prog_1_method_49_code 10 = .ok (.aload_n 1, 1) := by decide +kernel
theorem d_Y_drop_11 : decode prog_1_method_49_code 11 = .ok (.getfield 257, 3) := by decide +kernel
theorem d_Y_drop_14 : decode prog_1_method_49_code 14 = .ok (.iload_n 2, 1) := by decide +kernel
theorem d_Y_drop_15 : decode prog_1_method_49_code 15 = .ok (.invokevirtual 335, 3) := by decide +kernel
theorem d_Y_drop_18 : decode prog_1_method_49_code 18 = .ok (.istore_n 3, 1) := by decide +kernel
theorem d_Y_drop_19 : decode prog_1_method_49_code 19 = .ok (.iload_n 2, 1) := by decide +kernel
theorem d_Y_drop_20 : decode prog_1_method_49_code 20 = .ok (.istore 4, 2) := by decide +kernel
theorem d_Y_drop_22 : decode prog_1_method_49_code 22 = .ok (.iload 4, 2) := by decide +kernel
theorem d_Y_drop_24 : decode prog_1_method_49_code 24 = .ok (.iload_n 3, 1) := by decide +kernel
theorem d_Y_drop_25 : decode prog_1_method_49_code 25 = .ok (.if_icmp .ge 186, 3) := by decide +kernel
theorem d_Y_drop_28 : decode prog_1_method_49_code 28 = .ok (.aload_n 1, 1) := by decide +kernel
theorem d_Y_drop_29 : decode prog_1_method_49_code 29 = .ok (.getfield 263, 3) := by decide +kernel
theorem d_Y_drop_32 : decode prog_1_method_49_code 32 = .ok (.iload 4, 2) := by decide +kernel
theorem d_Y_drop_34 : decode prog_1_method_49_code 34 = .ok (.iaload, 1) := by decide +kernel
theorem d_Y_drop_35 : decode prog_1_method_49_code 35 = .ok (.iconst 1, 1) := by decide +kernel
theorem d_Y_drop_36 : decode prog_1_method_49_code 36 = .ok (.if_icmp .ne 18, 3) := by decide +kernel
theorem d_Y_drop_39 : decode prog_1_method_49_code 39 = .ok (.aload_n 1, 1) := by decide +kernel
theorem d_Y_drop_40 : decode prog_1_method_49_code 40 = .ok (.getfield 204, 3) := by decide +kernel
theorem d_Y_drop_43 : decode prog_1_method_49_code 43 = .ok (.iload 4, 2) := by decide +kernel
theorem d_Y_drop_45 : decode prog_1_method_49_code 45 = .ok (.iaload, 1) := by decide +kernel
theorem d_Y_drop_46 : decode prog_1_method_49_code 46 = .ok (.iconst (-1), 1) := by decide +kernel
theorem d_Y_drop_47 : decode prog_1_method_49_code 47 = .ok (.if_icmp .eq 7, 3) := by decide +kernel
theorem d_Y_drop_50 : decode prog_1_method_49_code 50 = .ok (.iconst 1, 1) := by decide +kernel
theorem d_Y_drop_51 : decode prog_1_method_49_code 51 = .ok (.goto 4, 3) := by decide +kernel
theorem d_Y_drop_54 : decode prog_1_method_49_code 54 = .ok (.iconst 0, 1) := by decide +kernel
theorem d_Y_drop_55 : decode prog_1_method_49_code 55 = .ok (.istore 5, 2) := by decide +kernel
theorem d_Y_drop_57 : decode prog_1_method_49_code 57 = .ok (.aload_n 1, 1) := by decide +kernel
theorem d_Y_drop_58 : decode prog_1_method_49_code 58 = .ok (.getfield 263, 3) := by decide +kernel
theorem d_Y_drop_61 : decode prog_1_method_49_code 61 = .ok (.iload 4, 2) := by decide +kernel
theorem d_Y_drop_63 : decode prog_1_method_49_code 63 = .ok (.iconst 4, 1) := by decide +kernel
theorem d_Y_drop_64 : decode prog_1_method_49_code 64 = .ok (.iastore, 1) := by decide +kernel
theorem d_Y_drop_65 : decode prog_1_method_49_code 65 = .ok (.aload_n 1, 1) := by decide +kernel
theorem d_Y_drop_66 : decode prog_1_method_49_code 66 = .ok (.getfield 257, 3) := by decide +kernel
theorem d_Y_drop_69 : decode prog_1_method_49_code 69 = .ok (.getfield 266, 3) := by decide +kernel
theorem d_Y_drop_72 : decode prog_1_method_49_code 72 = .ok (.iload 4, 2) := by decide +kernel
theorem d_Y_drop_74 : decode prog_1_method_49_code 74 = .ok (.iaload, 1) := by decide +kernel
theorem d_Y_drop_75 : decode prog_1_method_49_code 75 = .ok (.istore 6, 2) := by decide +kernel
theorem d_Y_drop_77 : decode prog_1_method_49_code 77 = .ok (.iload 5, 2) := by decide +kernel
theorem d_Y_drop_79 : decode prog_1_method_49_code 79 = .ok (.ifCond .eq 61, 3) := by decide +kernel
theorem d_Y_drop_82 : decode prog_1_method_49_code 82 = .ok (.aload_n 1, 1) := by decide +kernel
theorem d_Y_drop_83 : decode prog_1_method_49_code 83 = .ok (.getfield 257, 3) := by decide +kernel
theorem d_Y_drop_86 : decode prog_1_method_49_code 86 = .ok (.getfield 269, 3) := by decide +kernel
theorem d_Y_drop_89 : decode prog_1_method_49_code 89 = .ok (.iload 4, 2) := by decide +kernel
theorem d_Y_drop_91 : decode prog_1_method_49_code 91 = .ok (.iaload, 1) := by decide +kernel
theorem d_Y_drop_92 : decode prog_1_method_49_code 92 = .ok (.iconst 3, 1) := by decide +kernel
theorem d_Y_drop_93 : decode prog_1_method_49_code 93 = .ok (.if_icmp .ne 47, 3) := by decide +kernel
theorem d_Y_drop_96 : decode prog_1_method_49_code 96 = .ok (.aload_n 0, 1) := by decide +kernel
theorem d_Y_drop_97 : decode prog_1_method_49_code 97 = .ok (.getfield 55, 3) := by decide +kernel
theorem d_Y_drop_100 : decode prog_1_method_49_code 100 = .ok (.iload 6, 2) := by decide +kernel
theorem d_Y_drop_102 : decode prog_1_method_49_code 102 = .ok (.iconst 1, 1) := by decide +kernel
theorem d_Y_drop_103 : decode prog_1_method_49_code 103 = .ok (.iand, 1) := by decide +kernel
theorem d_Y_drop_104 : decode prog_1_method_49_code 104 = .ok (.aaload, 1) := by decide +kernel
theorem d_Y_drop_105 : decode prog_1_method_49_code 105 = .ok (.getfield 175, 3) := by decide +kernel
theorem d_Y_drop_108 : decode prog_1_method_49_code 108 = .ok (.aload_n 1, 1) := by decide +kernel
theorem d_Y_drop_109 : decode prog_1_method_49_code 109 = .ok (.iload 4, 2) := by decide +kernel
theorem d_Y_drop_111 : decode prog_1_method_49_code 111 = .ok (.invokevirtual 326, 3) := by decide +kernel
theorem d_Y_drop_114 : decode prog_1_method_49_code 114 = .ok (.invokevirtual 234, 3) := by decide +kernel
theorem d_Y_drop_117 : decode prog_1_method_49_code 117 = .ok (.aload_n 0, 1) := by decide +kernel
theorem d_Y_drop_118 : decode prog_1_method_49_code 118 = .ok (.aload_n 0, 1) := by decide +kernel
theorem d_Y_drop_119 : decode prog_1_method_49_code 119 = .ok (.getfield 55, 3) := by decide +kernel
theorem d_Y_drop_122 : decode prog_1_method_49_code 122 = .ok (.iload 6, 2) := by decide +kernel
theorem d_Y_drop_124 : decode prog_1_method_49_code 124 = .ok (.iconst 1, 1) := by decide +kernel
theorem d_Y_drop_125 : decode prog_1_method_49_code 125 = .ok (.iand, 1) := by decide +kernel
theorem d_Y_drop_126 : decode prog_1_method_49_code 126 = .ok (.aaload, 1) := by decide +kernel
theorem d_Y_drop_127 : decode prog_1_method_49_code 127 = .ok (.aload_n 1, 1) := by decide +kernel
theorem d_Y_drop_128 : decode prog_1_method_49_code 128 = .ok (.getfield 204, 3) := by decide +kernel
theorem d_Y_drop_131 : decode prog_1_method_49_code 131 = .ok (.iload 4, 2) := by decide +kernel
theorem d_Y_drop_133 : decode prog_1_method_49_code 133 = .ok (.iaload, 1) := by decide +kernel
theorem d_Y_drop_134 : decode prog_1_method_49_code 134 = .ok (.invokevirtual 133, 3) := by decide +kernel
theorem d_Y_drop_137 : decode prog_1_method_49_code 137 = .ok (.goto 68, 3) := by decide +kernel
theorem d_Y_drop_140 : decode prog_1_method_49_code 140 = .ok (.iload 5, 2) := by decide +kernel
theorem d_Y_drop_142 : decode prog_1_method_49_code 142 = .ok (.ifCond .eq 63, 3) := by decide +kernel
theorem d_Y_drop_145 : decode prog_1_method_49_code 145 = .ok (.aload_n 1, 1) := by decide +kernel
theorem d_Y_drop_146 : decode prog_1_method_49_code 146 = .ok (.getfield 257, 3) := by decide +kernel
theorem d_Y_drop_149 : decode prog_1_method_49_code 149 = .ok (.getfield 269, 3) := by decide +kernel
theorem d_Y_drop_152 : decode prog_1_method_49_code 152 = .ok (.iload 4, 2) := by decide +kernel
theorem d_Y_drop_154 : decode prog_1_method_49_code 154 = .ok (.iaload, 1) := by decide +kernel
theorem d_Y_drop_155 : decode prog_1_method_49_code 155 = .ok (.iconst 5, 1) := by decide +kernel
theorem d_Y_drop_156 : decode prog_1_method_49_code 156 = .ok (.if_icmp .ne 49, 3) := by decide +kernel
theorem d_Y_drop_159 : decode prog_1_method_49_code 159 = .ok (.aload_n 0, 1) := by decide +kernel
theorem d_Y_drop_160 : decode prog_1_method_49_code 160 = .ok (.getfield 62, 3) := by decide +kernel
theorem d_Y_drop_163 : decode prog_1_method_49_code 163 = .ok (.iload 6, 2) := by decide +kernel
theorem d_Y_drop_165 : decode prog_1_method_49_code 165 = .ok (.iconst 1, 1) := by decide +kernel
theorem d_Y_drop_166 : decode prog_1_method_49_code 166 = .ok (.iand, 1) := by decide +kernel
theorem d_Y_drop_167 : decode prog_1_method_49_code 167 = .ok (.aaload, 1) := by decide +kernel
theorem d_Y_drop_168 : decode prog_1_method_49_code 168 = .ok (.getfield 186, 3) := by decide +kernel
theorem d_Y_drop_171 : decode prog_1_method_49_code 171 = .ok (.aload_n 1, 1) := by decide +kernel
theorem d_Y_drop_172 : decode prog_1_method_49_code 172 = .ok (.iload 4, 2) := by decide +kernel
theorem d_Y_drop_174 : decode prog_1_method_49_code 174 = .ok (.invokevirtual 326, 3) := by decide +kernel
theorem d_Y_drop_177 : decode prog_1_method_49_code 177 = .ok (.invokevirtual 234, 3) := by decide +kernel
theorem d_Y_drop_180 : decode prog_1_method_49_code 180 = .ok (.aload_n 1, 1) := by decide +kernel
theorem d_Y_drop_181 : decode prog_1_method_49_code 181 = .ok (.getfield 204, 3) := by decide +kernel
theorem d_Y_drop_184 : decode prog_1_method_49_code 184 = .ok (.iload 4, 2) := by decide +kernel
theorem d_Y_drop_186 : decode prog_1_method_49_code 186 = .ok (.iaload, 1) := by decide +kernel
theorem d_Y_drop_187 : decode prog_1_method_49_code 187 = .ok (.iconst 1, 1) := by decide +kernel
theorem d_Y_drop_188 : decode prog_1_method_49_code 188 = .ok (.if_icmp .ne 17, 3) := by decide +kernel
theorem d_Y_drop_191 : decode prog_1_method_49_code 191 = .ok (.aload_n 0, 1) := by decide +kernel
theorem d_Y_drop_192 : decode prog_1_method_49_code 192 = .ok (.aload_n 0, 1) := by decide +kernel
theorem d_Y_drop_193 : decode prog_1_method_49_code 193 = .ok (.getfield 62, 3) := by decide +kernel
theorem d_Y_drop_196 : decode prog_1_method_49_code 196 = .ok (.iload 6, 2) := by decide +kernel
theorem d_Y_drop_198 : decode prog_1_method_49_code 198 = .ok (.iconst 1, 1) := by decide +kernel
theorem d_Y_drop_199 : decode prog_1_method_49_code 199 = .ok (.iand, 1) := by decide +kernel
theorem d_Y_drop_200 : decode prog_1_method_49_code 200 = .ok (.aaload, 1) := by decide +kernel
theorem d_Y_drop_201 : decode prog_1_method_49_code 201 = .ok (.invokevirtual 140, 3) := by decide +kernel
theorem d_Y_drop_204 : decode prog_1_method_49_code 204 = .ok (.pop, 1) := by decide +kernel
theorem d_Y_drop_205 : decode prog_1_method_49_code 205 = .ok (.iinc 4 1, 3) := by decide +kernel
theorem d_Y_drop_208 : decode prog_1_method_49_code 208 = .ok (.goto (-186), 3) := by decide +kernel
theorem d_Y_drop_211 : decode prog_1_method_49_code 211 = .ok (.return_, 1) := by decide +kernel
end
section
theorem d_M_init_0 : decode prog_9_method_1_code 0 = .ok (.aload_n 0, 1) := by decide +kernel
theorem d_M_init_1 : decode prog_9_method_1_code 1 = .ok (.invokespecial 1, 3) := by decide +kernel
theorem d_M_init_4 : decode prog_9_method_1_code 4 = .ok (.aload_n 0, 1) := by decide +kernel
theorem d_M_init_5 : decode prog_9_method_1_code 5 = .ok (.bipush 84, 2) := by decide +kernel
theorem d_M_init_7 : decode prog_9_method_1_code 7 = .ok (.newarray .int, 2) := by decide +kernel
theorem d_M_init_9 : decode prog_9_method_1_code 9 = .ok (.putfield 7, 3) := by decide +kernel
theorem d_M_init_12 : decode prog_9_method_1_code 12 = .ok (.aload_n 0, 1) := by decide +kernel
theorem d_M_init_13 : decode prog_9_method_1_code 13 = .ok (.bipush 84, 2) := by decide +kernel
theorem d_M_init_15 : decode prog_9_method_1_code 15 = .ok (.newarray .int, 2) := by decide +kernel
theorem d_M_init_17 : decode prog_9_method_1_code 17 = .ok (.putfield 13, 3) := by decide +kernel
theorem d_M_init_20 : decode prog_9_method_1_code 20 = .ok (.aload_n 0, 1) := by decide +kernel
theorem d_M_init_21 : decode prog_9_method_1_code 21 = .ok (.bipush 7, 2) := by decide +kernel
theorem d_M_init_23 : decode prog_9_method_1_code 23 = .ok (.newarray .int, 2) := by decide +kernel
theorem d_M_init_25 : decode prog_9_method_1_code 25 = .ok (.putfield 16, 3) := by decide +kernel
theorem d_M_init_28 : decode prog_9_method_1_code 28 = .ok (.aload_n 0, 1) := by decide +kernel
theorem d_M_init_29 : decode prog_9_method_1_code 29 = .ok (.bipush 12, 2) := by decide +kernel
theorem d_M_init_31 : decode prog_9_method_1_code 31 = .ok (.newarray .int, 2) := by decide +kernel
theorem d_M_init_33 : decode prog_9_method_1_code 33 = .ok (.putfield 19, 3) := by decide +kernel
theorem d_M_init_36 : decode prog_9_method_1_code 36 = .ok (.aload_n 0, 1) := by decide +kernel
theorem d_M_init_37 : decode prog_9_method_1_code 37 = .ok (.bipush 12, 2) := by decide +kernel
theorem d_M_init_39 : decode prog_9_method_1_code 39 = .ok (.newarray .int, 2) := by decide +kernel
theorem d_M_init_41 : decode prog_9_method_1_code 41 = .ok (.putfield 22, 3) := by decide +kernel
theorem d_M_init_44 : decode prog_9_method_1_code 44 = .ok (.aload_n 0, 1) := by decide +kernel
theorem d_M_init_45 : decode prog_9_method_1_code 45 = .ok (.bipush 12, 2) := by decide +kernel
theorem d_M_init_47 : decode prog_9_method_1_code 47 = .ok (.newarray .int, 2) := by decide +kernel
theorem d_M_init_49 : decode prog_9_method_1_code 49 = .ok (.putfield 25, 3) := by decide +kernel
theorem d_M_init_52 : decode prog_9_method_1_code 52 = .ok (.aload_n 0, 1) := by decide +kernel
theorem d_M_init_53 : decode prog_9_method_1_code 53 = .ok (.bipush 12, 2) := by decide +kernel
theorem d_M_init_55 : decode prog_9_method_1_code 55 = .ok (.newarray .int, 2) := by decide +kernel
theorem d_M_init_57 : decode prog_9_method_1_code 57 = .ok (.putfield 28, 3) := by decide +kernel
theorem d_M_init_60 : decode prog_9_method_1_code 60 = .ok (.aload_n 0, 1) := by decide +kernel
theorem d_M_init_61 : decode prog_9_method_1_code 61 = .ok (.bipush 12, 2) := by decide +kernel
theorem d_M_init_63 : decode prog_9_method_1_code 63 = .ok (.newarray .int, 2) := by decide +kernel
theorem d_M_init_65 : decode prog_9_method_1_code 65 = .ok (.putfield 31, 3) := by decide +kernel
theorem d_M_init_68 : decode prog_9_method_1_code 68 = .ok (.aload_n 0, 1) := by decide +kernel
theorem d_M_init_69 : decode prog_9_method_1_code 69 = .ok (.bipush 12, 2) := by decide +kernel
theorem d_M_init_71 : decode prog_9_method_1_code 71 = .ok (.newarray .int, 2) := by decide +kernel
theorem d_M_init_73 : decode prog_9_method_1_code 73 = .ok (.putfield 34, 3) := by decide +kernel
theorem d_M_init_76 : decode prog_9_method_1_code 76 = .ok (.aload_n 0, 1) := by decide +kernel
theorem d_M_init_77 : decode prog_9_method_1_code 77 = .ok (.bipush 12, 2) := by decide +kernel
theorem d_M_init_79 : decode prog_9_method_1_code 79 = .ok (.newarray .boolean, 2) := by decide +kernel
theorem d_M_init_81 : decode prog_9_method_1_code 81 = .ok (.putfield 37, 3) := by decide +kernel
theorem d_M_init_84 : decode prog_9_method_1_code 84 = .ok (.aload_n 0, 1) := by decide +kernel
theorem d_M_init_85 : decode prog_9_method_1_code 85 = .ok (.sipush 144, 3) := by decide +kernel
theorem d_M_init_88 : decode prog_9_method_1_code 88 = .ok (.newarray .int, 2) := by decide +kernel
theorem d_M_init_90 : decode prog_9_method_1_code 90 = .ok (.putfield 41, 3) := by decide +kernel
theorem d_M_init_93 : decode prog_9_method_1_code 93 = .ok (.aload_n 0, 1) := by decide +kernel
theorem d_M_init_94 : decode prog_9_method_1_code 94 = .ok (.sipush 144, 3) := by decide +kernel
theorem d_M_init_97 : decode prog_9_method_1_code 97 = .ok (.newarray .int, 2) := by decide +kernel
theorem d_M_init_99 : decode prog_9_method_1_code 99 = .ok (.putfield 44, 3) := by decide +kernel
theorem d_M_init_102 : decode prog_9_method_1_code 102 = .ok (.aload_n 0, 1) := by decide +kernel
theorem d_M_init_103 : decode prog_9_method_1_code 103 = .ok (.sipush 144, 3) := by decide +kernel
theorem d_M_init_106 : decode prog_9_method_1_code 106 = .ok (.newarray .int, 2) := by decide +kernel
theorem d_M_init_108 : decode prog_9_method_1_code 108 = .ok (.putfield 47, 3) := by decide +kernel
theorem d_M_init_111 : decode prog_9_method_1_code 111 = .ok (.aload_n 0, 1) := by decide +kernel
theorem d_M_init_112 : decode prog_9_method_1_code 112 = .ok (.sipush 144, 3) := by decide +kernel
theorem d_M_init_115 : decode prog_9_method_1_code 115 = .ok (.newarray .int, 2) := by decide +kernel
theorem d_M_init_117 : decode prog_9_method_1_code 117 = .ok (.putfield 50, 3) := by decide +kernel
theorem d_M_init_120 : decode prog_9_method_1_code 120 = .ok (.aload_n 0, 1) := by decide +kernel
theorem d_M_init_121 : decode prog_9_method_1_code 121 = .ok (.sipush 144, 3) := by decide +kernel
theorem d_M_init_124 : decode prog_9_method_1_code 124 = .ok (.newarray .boolean, 2) := by decide +kernel
theorem d_M_init_126 : decode prog_9_method_1_code 126 = .ok (.putfield 53, 3) := by decide +kernel
theorem d_M_init_129 : decode prog_9_method_1_code 129 = .ok (.aload_n 0, 1) := by decide +kernel
theorem d_M_init_130 : decode prog_9_method_1_code 130 = .ok (.sipush 144, 3) := by decide +kernel
theorem d_M_init_133 : decode prog_9_method_1_code 133 = .ok (.newarray .boolean, 2) := by decide +kernel
theorem d_M_init_135 : decode prog_9_method_1_code 135 = .ok (.putfield 56, 3) := by decide +kernel
theorem d_M_init_138 : decode prog_9_method_1_code 138 = .ok (.aload_n 0, 1) := by decide +kernel
theorem d_M_init_139 : decode prog_9_method_1_code 139 = .ok (.bipush 13, 2) := by decide +kernel
theorem d_M_init_141 : decode prog_9_method_1_code 141 = .ok (.newarray .int, 2) := by decide +kernel
theorem d_M_init_143 : decode prog_9_method_1_code 143 = .ok (.putfield 59, 3) := by decide +kernel
theorem d_M_init_146 : decode prog_9_method_1_code 146 = .ok (.aload_n 0, 1) := by decide +kernel
theorem d_M_init_147 : decode prog_9_method_1_code 147 = .ok (.bipush 13, 2) := by decide +kernel
theorem d_M_init_149 : decode prog_9_method_1_code 149 = .ok (.newarray .int, 2) := by decide +kernel
theorem d_M_init_151 : decode prog_9_method_1_code 151 = .ok (.putfield 62, 3) := by decide +kernel
theorem d_M_init_154 : decode prog_9_method_1_code 154 = .ok (.aload_n 0, 1) := by decide +kernel
theorem d_M_init_155 : decode prog_9_method_1_code 155 = .ok (.iconst 3, 1) := by decide +kernel
theorem d_M_init_156 : decode prog_9_method_1_code 156 = .ok (.newarray .int, 2) := by decide +kernel
theorem d_M_init_158 : decode prog_9_method_1_code 158 = .ok (.dup, 1) := by decide +kernel
theorem d_M_init_159 : decode prog_9_method_1_code 159 = .ok (.iconst 0, 1) := by decide +kernel
theorem d_M_init_160 : decode prog_9_method_1_code 160 = .ok (.iconst (-1), 1) := by decide +kernel
theorem d_M_init_161 : decode prog_9_method_1_code 161 = .ok (.iastore, 1) := by decide +kernel
theorem d_M_init_162 : decode prog_9_method_1_code 162 = .ok (.dup, 1) := by decide +kernel
theorem d_M_init_163 : decode prog_9_method_1_code 163 = .ok (.iconst 1, 1) := by decide +kernel
theorem d_M_init_164 : decode prog_9_method_1_code 164 = .ok (.iconst (-1), 1) := by decide +kernel
theorem d_M_init_165 : decode prog_9_method_1_code 165 = .ok (.iastore, 1) := by decide +kernel
theorem d_M_init_166 : decode prog_9_method_1_code 166 = .ok (.dup, 1) := by decide +kernel
theorem d_M_init_167 : decode prog_9_method_1_code 167 = .ok (.iconst 2, 1) := by decide +kernel
theorem d_M_init_168 : decode prog_9_method_1_code 168 = .ok (.iconst (-1), 1) := by decide +kernel
theorem d_M_init_169 : decode prog_9_method_1_code 169 = .ok (.iastore, 1) := by decide +kernel
theorem d_M_init_170 : decode prog_9_method_1_code 170 = .ok (.putfield 65, 3) := by decide +kernel
theorem d_M_init_173 : decode prog_9_method_1_code 173 = .ok (.aload_n 0, 1) := by decide +kernel
theorem d_M_init_174 : decode prog_9_method_1_code 174 = .ok (.iconst 3, 1) := by decide +kernel
theorem d_M_init_175 : decode prog_9_method_1_code 175 = .ok (.newarray .int, 2) := by decide +kernel
theorem d_M_init_177 : decode prog_9_method_1_code 177 = .ok (.putfield 68, 3) := by decide +kernel
theorem d_M_init_180 : decode prog_9_method_1_code 180 = .ok (.aload_n 0, 1) := by decide +kernel
theorem d_M_init_181 : decode prog_9_method_1_code 181 = .ok (.iconst 3, 1) := by decide +kernel
theorem d_M_init_182 : decode prog_9_method_1_code 182 = .ok (.newarray .int, 2) := by decide +kernel
theorem d_M_init_184 : decode prog_9_method_1_code 184 = .ok (.putfield 71, 3) := by decide +kernel
theorem d_M_init_187 : decode prog_9_method_1_code 187 = .ok (.aload_n 0, 1) := by decide +kernel
theorem d_M_init_188 : decode prog_9_method_1_code 188 = .ok (.bipush 12, 2) := by decide +kernel
theorem d_M_init_190 : decode prog_9_method_1_code 190 = .ok (.newarray .int, 2) := by decide +kernel
theorem d_M_init_192 : decode prog_9_method_1_code 192 = .ok (.putfield 74, 3) := by decide +kernel
theorem d_M_init_195 : decode prog_9_method_1_code 195 = .ok (.aload_n 0, 1) := by decide +kernel
theorem d_M_init_196 : decode prog_9_method_1_code 196 = .ok (.iconst 3, 1) := by decide +kernel
theorem d_M_init_197 : decode prog_9_method_1_code 197 = .ok (.newarray .int, 2) := by decide +kernel
theorem d_M_init_199 : decode prog_9_method_1_code 199 = .ok (.putfield 77, 3) := by decide +kernel
theorem d_M_init_202 : decode prog_9_method_1_code 202 = .ok (.aload_n 0, 1) := by decide +kernel
theorem d_M_init_203 : decode prog_9_method_1_code 203 = .ok (.bipush 12, 2) := by decide +kernel
theorem d_M_init_205 : decode prog_9_method_1_code 205 = .ok (.newarray .int, 2) := by decide +kernel
theorem d_M_init_207 : decode prog_9_method_1_code 207 = .ok (.putfield 80, 3) := by decide +kernel
theorem d_M_init_210 : decode prog_9_method_1_code 210 = .ok (.aload_n 0, 1) := by decide +kernel
theorem d_M_init_211 : decode prog_9_method_1_code 211 = .ok (.iconst 2, 1) := by decide +kernel
theorem d_M_init_212 : decode prog_9_method_1_code 212 = .ok (.newarray .int, 2) := by decide +kernel
theorem d_M_init_214 : decode prog_9_method_1_code 214 = .ok (.dup, 1) := by decide +kernel
theorem d_M_init_215 : decode prog_9_method_1_code 215 = .ok (.iconst 0, 1) := by decide +kernel
theorem d_M_init_216 : decode prog_9_method_1_code 216 = .ok (.iconst 1, 1) := by decide +kernel
theorem d_M_init_217 : decode prog_9_method_1_code 217 = .ok (.iastore, 1) := by decide +kernel
theorem d_M_init_218 : decode prog_9_method_1_code 218 = .ok (.dup, 1) := by decide +kernel
theorem d_M_init_219 : decode prog_9_method_1_code 219 = .ok (.iconst 1, 1) := by decide +kernel
theorem d_M_init_220 : decode prog_9_method_1_code 220 = .ok (.iconst 1, 1) := by decide +kernel
theorem d_M_init_221 : decode prog_9_method_1_code 221 = .ok (.iastore, 1) := by decide +kernel
theorem d_M_init_222 : decode prog_9_method_1_code 222 = .ok (.putfield 83, 3) := by decide +kernel
theorem d_M_init_225 : decode prog_9_method_1_code 225 = .ok (.aload_n 0, 1) := by decide +kernel
theorem d_M_init_226 : decode prog_9_method_1_code 226 = .ok (.iconst 2, 1) := by decide +kernel
theorem d_M_init_227 : decode prog_9_method_1_code 227 = .ok (.newarray .boolean, 2) := by decide +kernel
theorem d_M_init_229 : decode prog_9_method_1_code 229 = .ok (.putfield 86, 3) := by decide +kernel
theorem d_M_init_232 : decode prog_9_method_1_code 232 = .ok (.aload_n 0, 1) := by decide +kernel
theorem d_M_init_233 : decode prog_9_method_1_code 233 = .ok (.iconst (-1), 1) := by decide +kernel
theorem d_M_init_234 : decode prog_9_method_1_code 234 = .ok (.putfield 89, 3) := by decide +kernel
theorem d_M_init_237 : decode prog_9_method_1_code 237 = .ok (.return_, 1) := by decide +kernel
theorem d_M_is_0 : decode prog_9_method_2_code 0 = .ok (.iload_n 0, 1) := by decide +kernel
theorem d_M_is_1 : decode prog_9_method_2_code 1 = .ok (.iload_n 1, 1) := by decide +kernel
theorem d_M_is_2 : decode prog_9_method_2_code 2 = .ok (.if_icmp .lt 12, 3) := by decide +kernel
theorem d_M_is_5 : decode prog_9_method_2_code 5 = .ok (.iload_n 0, 1) := by decide +kernel
theorem d_M_is_6 : decode prog_9_method_2_code 6 = .ok (.iload_n 2, 1) := by decide +kernel
theorem d_M_is_7 : decode prog_9_method_2_code 7 = .ok (.if_icmp .gt 7, 3) := by decide +kernel
theorem d_M_is_10 : decode prog_9_method_2_code 10 = .ok (.iconst 1, 1) := by decide +kernel
theorem d_M_is_11 : decode prog_9_method_2_code 11 = .ok (.goto 4, 3) := by decide +kernel
theorem d_M_is_14 : decode prog_9_method_2_code 14 = .ok (.iconst 0, 1) := by decide +kernel
theorem d_M_is_15 : decode prog_9_method_2_code 15 = .ok (.ireturn, 1) := by decide +kernel
theorem d_M_parts_0 : decode prog_9_method_3_code 0 = .ok (.iload_n 0, 1) := by decide +kernel
theorem d_M_parts_1 : decode prog_9_method_3_code 1 = .ok (.bipush 8, 2) := by decide +kernel
theorem d_M_parts_3 : decode prog_9_method_3_code 3 = .ok (.if_icmp .lt 9, 3) := by decide +kernel
theorem d_M_parts_6 : decode prog_9_method_3_code 6 = .ok (.iload_n 0, 1) := by decide +kernel
theorem d_M_parts_7 : decode prog_9_method_3_code 7 = .ok (.bipush 9, 2) := by decide +kernel
theorem d_M_parts_9 : decode prog_9_method_3_code 9 = .ok (.if_icmp .ne 7, 3) := by decide +kernel
theorem d_M_parts_12 : decode prog_9_method_3_code 12 = .ok (.iconst 0, 1) := by decide +kernel
theorem d_M_parts_13 : decode prog_9_method_3_code 13 = .ok (.goto 19, 3) := by decide +kernel
theorem d_M_parts_16 : decode prog_9_method_3_code 16 = .ok (.iload_n 0, 1) := by decide +kernel
theorem d_M_parts_17 : decode prog_9_method_3_code 17 = .ok (.bipush 10, 2) := by decide +kernel
theorem d_M_parts_19 : decode prog_9_method_3_code 19 = .ok (.bipush 12, 2) := by decide +kernel
theorem d_M_parts_21 : decode prog_9_method_3_code 21 = .ok (.invokestatic 93, 3) := by decide +kernel
theorem d_M_parts_24 : decode prog_9_method_3_code 24 = .ok (.ifCond .eq 7, 3) := by decide +kernel
theorem d_M_parts_27 : decode prog_9_method_3_code 27 = .ok (.iconst 2, 1) := by decide +kernel
theorem d_M_parts_28 : decode prog_9_method_3_code 28 = .ok (.goto 4, 3) := by decide +kernel
theorem d_M_parts_31 : decode prog_9_method_3_code 31 = .ok (.iconst 1, 1) := by decide +kernel
theorem d_M_parts_32 : decode prog_9_method_3_code 32 = .ok (.ireturn, 1) := by decide +kernel
theorem d_M_fits_0 : decode prog_9_method_4_code 0 = .ok (.iload_n 0, 1) := by decide +kernel
theorem d_M_fits_1 : decode prog_9_method_4_code 1 = .ok (.tableswitch 104 1 13 #[67, 74, 82, 82, 89, 89, 82, 104, 96, 104, 104, 104, 74], 67) := by decide +kernel
theorem d_M_fits_68 : decode prog_9_method_4_code 68 = .ok (.iload_n 1, 1) := by decide +kernel
theorem d_M_fits_69 : decode prog_9_method_4_code 69 = .ok (.iconst 0, 1) := by decide +kernel
theorem d_M_fits_70 : decode prog_9_method_4_code 70 = .ok (.iconst 3, 1) := by decide +kernel
theorem d_M_fits_71 : decode prog_9_method_4_code 71 = .ok (.invokestatic 93, 3) := by decide +kernel
theorem d_M_fits_74 : decode prog_9_method_4_code 74 = .ok (.ireturn, 1) := by decide +kernel
theorem d_M_fits_75 : decode prog_9_method_4_code 75 = .ok (.iload_n 1, 1) := by decide +kernel
theorem d_M_fits_76 : decode prog_9_method_4_code 76 = .ok (.iconst 1, 1) := by decide +kernel
theorem d_M_fits_77 : decode prog_9_method_4_code 77 = .ok (.bipush 40, 2) := by decide +kernel
theorem d_M_fits_79 : decode prog_9_method_4_code 79 = .ok (.invokestatic 93, 3) := by decide +kernel
theorem d_M_fits_82 : decode prog_9_method_4_code 82 = .ok (.ireturn, 1) := by decide +kernel
theorem d_M_fits_83 : decode prog_9_method_4_code 83 = .ok (.iload_n 1, 1) := by decide +kernel
theorem d_M_fits_84 : decode prog_9_method_4_code 84 = .ok (.iconst 0, 1) := by decide +kernel
theorem d_M_fits_85 : decode prog_9_method_4_code 85 = .ok (.iconst 5, 1) := by decide +kernel
theorem d_M_fits_86 : decode prog_9_method_4_code 86 = .ok (.invokestatic 93, 3) := by decide +kernel
theorem d_M_fits_89 : decode prog_9_method_4_code 89 = .ok (.ireturn, 1) := by decide +kernel
theorem d_M_fits_90 : decode prog_9_method_4_code 90 = .ok (.iload_n 1, 1) := by decide +kernel
theorem d_M_fits_91 : decode prog_9_method_4_code 91 = .ok (.iconst 0, 1) := by decide +kernel
theorem d_M_fits_92 : decode prog_9_method_4_code 92 = .ok (.iconst 1, 1) := by decide +kernel
theorem d_M_fits_93 : decode prog_9_method_4_code 93 = .ok (.invokestatic 93, 3) := by decide +kernel
theorem d_M_fits_96 : decode prog_9_method_4_code 96 = .ok (.ireturn, 1) := by decide +kernel
theorem d_M_fits_97 : decode prog_9_method_4_code 97 = .ok (.iload_n 1, 1) := by decide +kernel
theorem d_M_fits_98 : decode prog_9_method_4_code 98 = .ok (.iconst 1, 1) := by decide +kernel
theorem d_M_fits_99 : decode prog_9_method_4_code 99 = .ok (.bipush 97, 2) := by decide +kernel
theorem d_M_fits_101 : decode prog_9_method_4_code 101 = .ok (.invokestatic 93, 3) := by decide +kernel
theorem d_M_fits_104 : decode prog_9_method_4_code 104 = .ok (.ireturn, 1) := by decide +kernel
theorem d_M_fits_105 : decode prog_9_method_4_code 105 = .ok (.iload_n 0, 1) := by decide +kernel
theorem d_M_fits_106 : decode prog_9_method_4_code 106 = .ok (.iconst 0, 1) := by decide +kernel
theorem d_M_fits_107 : decode prog_9_method_4_code 107 = .ok (.bipush 15, 2) := by decide +kernel
theorem d_M_fits_109 : decode prog_9_method_4_code 109 = .ok (.invokestatic 93, 3) := by decide +kernel
theorem d_M_fits_112 : decode prog_9_method_4_code 112 = .ok (.ireturn, 1) := by decide +kernel
theorem d_M_token_0 : decode prog_9_method_5_code 0 = .ok (.iload_n 1, 1) := by decide +kernel
theorem d_M_token_1 : decode prog_9_method_5_code 1 = .ok (.iload_n 2, 1) := by decide +kernel
theorem d_M_token_2 : decode prog_9_method_5_code 2 = .ok (.invokestatic 97, 3) := by decide +kernel
theorem d_M_token_5 : decode prog_9_method_5_code 5 = .ok (.ifCond .ne 5, 3) := by decide +kernel
theorem d_M_token_8 : decode prog_9_method_5_code 8 = .ok (.iconst (-1), 1) := by decide +kernel
theorem d_M_token_9 : decode prog_9_method_5_code 9 = .ok (.ireturn, 1) := by decide +kernel
theorem d_M_token_10 : decode prog_9_method_5_code 10 = .ok (.aload_n 0, 1) := by decide +kernel
theorem d_M_token_11 : decode prog_9_method_5_code 11 = .ok (.getfield 16, 3) := by decide +kernel
theorem d_M_token_14 : decode prog_9_method_5_code 14 = .ok (.bipush 6, 2) := by decide +kernel
theorem d_M_token_16 : decode prog_9_method_5_code 16 = .ok (.iaload, 1) := by decide +kernel
theorem d_M_token_17 : decode prog_9_method_5_code 17 = .ok (.bipush 12, 2) := by decide +kernel
theorem d_M_token_19 : decode prog_9_method_5_code 19 = .ok (.if_icmp .ne 6, 3) := by decide +kernel
theorem d_M_token_22 : decode prog_9_method_5_code 22 = .ok (.bipush (-2), 2) := by decide +kernel
theorem d_M_token_24 : decode prog_9_method_5_code 24 = .ok (.ireturn, 1) := by decide +kernel
theorem d_M_token_25 : decode prog_9_method_5_code 25 = .ok (.aload_n 0, 1) := by decide +kernel
theorem d_M_token_26 : decode prog_9_method_5_code 26 = .ok (.getfield 7, 3) := by decide +kernel
theorem d_M_token_29 : decode prog_9_method_5_code 29 = .ok (.bipush 72, 2) := by decide +kernel
theorem d_M_token_31 : decode prog_9_method_5_code 31 = .ok (.aload_n 0, 1) := by decide +kernel
theorem d_M_token_32 : decode prog_9_method_5_code 32 = .ok (.getfield 16, 3) := by decide +kernel
theorem d_M_token_35 : decode prog_9_method_5_code 35 = .ok (.bipush 6, 2) := by decide +kernel
theorem d_M_token_37 : decode prog_9_method_5_code 37 = .ok (.iaload, 1) := by decide +kernel
theorem d_M_token_38 : decode prog_9_method_5_code 38 = .ok (.iadd, 1) := by decide +kernel
theorem d_M_token_39 : decode prog_9_method_5_code 39 = .ok (.iload_n 1, 1) := by decide +kernel
theorem d_M_token_40 : decode prog_9_method_5_code 40 = .ok (.iastore, 1) := by decide +kernel
theorem d_M_token_41 : decode prog_9_method_5_code 41 = .ok (.aload_n 0, 1) := by decide +kernel
theorem d_M_token_42 : decode prog_9_method_5_code 42 = .ok (.getfield 13, 3) := by decide +kernel
theorem d_M_token_45 : decode prog_9_method_5_code 45 = .ok (.bipush 72, 2) := by decide +kernel
theorem d_M_token_47 : decode prog_9_method_5_code 47 = .ok (.aload_n 0, 1) := by decide +kernel
theorem d_M_token_48 : decode prog_9_method_5_code 48 = .ok (.getfield 16, 3) := by decide +kernel
theorem d_M_token_51 : decode prog_9_method_5_code 51 = .ok (.bipush 6, 2) := by decide +kernel
theorem d_M_token_53 : decode prog_9_method_5_code 53 = .ok (.iaload, 1) := by decide +kernel
theorem d_M_token_54 : decode prog_9_method_5_code 54 = .ok (.iadd, 1) := by decide +kernel
theorem d_M_token_55 : decode prog_9_method_5_code 55 = .ok (.iload_n 2, 1) := by decide +kernel
theorem d_M_token_56 : decode prog_9_method_5_code 56 = .ok (.iastore, 1) := by decide +kernel
theorem d_M_token_57 : decode prog_9_method_5_code 57 = .ok (.aload_n 0, 1) := by decide +kernel
theorem d_M_token_58 : decode prog_9_method_5_code 58 = .ok (.getfield 16, 3) := by decide +kernel
theorem d_M_token_61 : decode prog_9_method_5_code 61 = .ok (.bipush 6, 2) := by decide +kernel
theorem d_M_token_63 : decode prog_9_method_5_code 63 = .ok (.dup2, 1) := by decide +kernel
theorem d_M_token_64 : decode prog_9_method_5_code 64 = .ok (.iaload, 1) := by decide +kernel
theorem d_M_token_65 : decode prog_9_method_5_code 65 = .ok (.iconst 1, 1) := by decide +kernel
theorem d_M_token_66 : decode prog_9_method_5_code 66 = .ok (.iadd, 1) := by decide +kernel
theorem d_M_token_67 : decode prog_9_method_5_code 67 = .ok (.dup_x2, 1) := by decide +kernel
theorem d_M_token_68 : decode prog_9_method_5_code 68 = .ok (.iastore, 1) := by decide +kernel
theorem d_M_token_69 : decode prog_9_method_5_code 69 = .ok (.ireturn, 1) := by decide +kernel
theorem d_M_clear_0 : decode prog_9_method_6_code 0 = .ok (.aload_n 0, 1) := by decide +kernel
theorem d_M_clear_1 : decode prog_9_method_6_code 1 = .ok (.getfield 16, 3) := by decide +kernel
theorem d_M_clear_4 : decode prog_9_method_6_code 4 = .ok (.bipush 6, 2) := by decide +kernel
theorem d_M_clear_6 : decode prog_9_method_6_code 6 = .ok (.iaload, 1) := by decide +kernel
theorem d_M_clear_7 : decode prog_9_method_6_code 7 = .ok (.istore_n 1, 1) := by decide +kernel
theorem d_M_clear_8 : decode prog_9_method_6_code 8 = .ok (.aload_n 0, 1) := by decide +kernel
theorem d_M_clear_9 : decode prog_9_method_6_code 9 = .ok (.getfield 16, 3) := by decide +kernel
theorem d_M_clear_12 : decode prog_9_method_6_code 12 = .ok (.bipush 6, 2) := by decide +kernel
theorem d_M_clear_14 : decode prog_9_method_6_code 14 = .ok (.iconst 0, 1) := by decide +kernel
theorem d_M_clear_15 : decode prog_9_method_6_code 15 = .ok (.iastore, 1) := by decide +kernel
theorem d_M_clear_16 : decode prog_9_method_6_code 16 = .ok (.iload_n 1, 1) := by decide +kernel
theorem d_M_clear_17 : decode prog_9_method_6_code 17 = .ok (.ireturn, 1) := by decide +kernel
theorem d_M_define_0 : decode prog_9_method_7_code 0 = .ok (.iconst 1, 1) := by decide +kernel
theorem d_M_define_1 : decode prog_9_method_7_code 1 = .ok (.istore_n 1, 1) := by decide +kernel
theorem d_M_define_2 : decode prog_9_method_7_code 2 = .ok (.iconst 0, 1) := by decide +kernel
theorem d_M_define_3 : decode prog_9_method_7_code 3 = .ok (.istore_n 2, 1) := by decide +kernel
theorem d_M_define_4 : decode prog_9_method_7_code 4 = .ok (.iload_n 2, 1) := by decide +kernel
theorem d_M_define_5 : decode prog_9_method_7_code 5 = .ok (.aload_n 0, 1) := by decide +kernel
theorem d_M_define_6 : decode prog_9_method_7_code 6 = .ok (.getfield 16, 3) := by decide +kernel
theorem d_M_define_9 : decode prog_9_method_7_code 9 = .ok (.bipush 6, 2) := by decide +kernel
theorem d_M_define_11 : decode prog_9_method_7_code 11 = .ok (.iaload, 1) := by decide +kernel
theorem d_M_define_12 : decode prog_9_method_7_code 12 = .ok (.if_icmp .ge 32, 3) := by decide +kernel
theorem d_M_define_15 : decode prog_9_method_7_code 15 = .ok (.iload_n 1, 1) := by decide +kernel
theorem d_M_define_16 : decode prog_9_method_7_code 16 = .ok (.ifCond .ne 5, 3) := by decide +kernel
theorem d_M_define_19 : decode prog_9_method_7_code 19 = .ok (.iconst (-1), 1) := by decide +kernel
theorem d_M_define_20 : decode prog_9_method_7_code 20 = .ok (.ireturn, 1) := by decide +kernel
theorem d_M_define_21 : decode prog_9_method_7_code 21 = .ok (.iload_n 1, 1) := by decide +kernel
theorem d_M_define_22 : decode prog_9_method_7_code 22 = .ok (.aload_n 0, 1) := by decide +kernel
theorem d_M_define_23 : decode prog_9_method_7_code 23 = .ok (.getfield 7, 3) := by decide +kernel
theorem d_M_define_26 : decode prog_9_method_7_code 26 = .ok (.bipush 72, 2) := by decide +kernel
theorem d_M_define_28 : decode prog_9_method_7_code 28 = .ok (.iload_n 2, 1) := by decide +kernel
theorem d_M_define_29 : decode prog_9_method_7_code 29 = .ok (.iadd, 1) := by decide +kernel
theorem d_M_define_30 : decode prog_9_method_7_code 30 = .ok (.iaload, 1) := by decide +kernel
theorem d_M_define_31 : decode prog_9_method_7_code 31 = .ok (.invokestatic 101, 3) := by decide +kernel
theorem d_M_define_34 : decode prog_9_method_7_code 34 = .ok (.iconst 1, 1) := by decide +kernel
theorem d_M_define_35 : decode prog_9_method_7_code 35 = .ok (.isub, 1) := by decide +kernel
theorem d_M_define_36 : decode prog_9_method_7_code 36 = .ok (.iadd, 1) := by decide +kernel
theorem d_M_define_37 : decode prog_9_method_7_code 37 = .ok (.istore_n 1, 1) := by decide +kernel
theorem d_M_define_38 : decode prog_9_method_7_code 38 = .ok (.iinc 2 1, 3) := by decide +kernel
theorem d_M_define_41 : decode prog_9_method_7_code 41 = .ok (.goto (-37), 3) := by decide +kernel
theorem d_M_define_44 : decode prog_9_method_7_code 44 = .ok (.iload_n 1, 1) := by decide +kernel
theorem d_M_define_45 : decode prog_9_method_7_code 45 = .ok (.ifCond .le 5, 3) := by decide +kernel
theorem d_M_define_48 : decode prog_9_method_7_code 48 = .ok (.iconst (-1), 1) := by decide +kernel
theorem d_M_define_49 : decode prog_9_method_7_code 49 = .ok (.ireturn, 1) := by decide +kernel
theorem d_M_define_50 : decode prog_9_method_7_code 50 = .ok (.aload_n 0, 1) := by decide +kernel
theorem d_M_define_51 : decode prog_9_method_7_code 51 = .ok (.getfield 105, 3) := by decide +kernel
theorem d_M_define_54 : decode prog_9_method_7_code 54 = .ok (.bipush 6, 2) := by decide +kernel
theorem d_M_define_56 : decode prog_9_method_7_code 56 = .ok (.if_icmp .ne 6, 3) := by decide +kernel
theorem d_M_define_59 : decode prog_9_method_7_code 59 = .ok (.bipush (-2), 2) := by decide +kernel
theorem d_M_define_61 : decode prog_9_method_7_code 61 = .ok (.ireturn, 1) := by decide +kernel
theorem d_M_define_62 : decode prog_9_method_7_code 62 = .ok (.iconst 0, 1) := by decide +kernel
theorem d_M_define_63 : decode prog_9_method_7_code 63 = .ok (.istore_n 2, 1) := by decide +kernel
theorem d_M_define_64 : decode prog_9_method_7_code 64 = .ok (.iload_n 2, 1) := by decide +kernel
theorem d_M_define_65 : decode prog_9_method_7_code 65 = .ok (.bipush 12, 2) := by decide +kernel
theorem d_M_define_67 : decode prog_9_method_7_code 67 = .ok (.if_icmp .ge 55, 3) := by decide +kernel
theorem d_M_define_70 : decode prog_9_method_7_code 70 = .ok (.aload_n 0, 1) := by decide +kernel
theorem d_M_define_71 : decode prog_9_method_7_code 71 = .ok (.getfield 7, 3) := by decide +kernel
theorem d_M_define_74 : decode prog_9_method_7_code 74 = .ok (.bipush 12, 2) := by decide +kernel
theorem d_M_define_76 : decode prog_9_method_7_code 76 = .ok (.aload_n 0, 1) := by decide +kernel
theorem d_M_define_77 : decode prog_9_method_7_code 77 = .ok (.getfield 105, 3) := by decide +kernel
theorem d_M_define_80 : decode prog_9_method_7_code 80 = .ok (.imul, 1) := by decide +kernel
theorem d_M_define_81 : decode prog_9_method_7_code 81 = .ok (.iload_n 2, 1) := by decide +kernel
theorem d_M_define_82 : decode prog_9_method_7_code 82 = .ok (.iadd, 1) := by decide +kernel
theorem d_M_define_83 : decode prog_9_method_7_code 83 = .ok (.aload_n 0, 1) := by decide +kernel
theorem d_M_define_84 : decode prog_9_method_7_code 84 = .ok (.getfield 7, 3) := by decide +kernel
theorem d_M_define_87 : decode prog_9_method_7_code 87 = .ok (.bipush 72, 2) := by decide +kernel
theorem d_M_define_89 : decode prog_9_method_7_code 89 = .ok (.iload_n 2, 1) := by decide +kernel
theorem d_M_define_90 : decode prog_9_method_7_code 90 = .ok (.iadd, 1) := by decide +kernel
theorem d_M_define_91 : decode prog_9_method_7_code 91 = .ok (.iaload, 1) := by decide +kernel
theorem d_M_define_92 : decode prog_9_method_7_code 92 = .ok (.iastore, 1) := by decide +kernel
theorem d_M_define_93 : decode prog_9_method_7_code 93 = .ok (.aload_n 0, 1) := by decide +kernel
theorem d_M_define_94 : decode prog_9_method_7_code 94 = .ok (.getfield 13, 3) := by decide +kernel
theorem d_M_define_97 : decode prog_9_method_7_code 97 = .ok (.bipush 12, 2) := by decide +kernel
theorem d_M_define_99 : decode prog_9_method_7_code 99 = .ok (.aload_n 0, 1) := by decide +kernel
theorem d_M_define_100 : decode prog_9_method_7_code 100 = .ok (.getfield 105, 3) := by decide +kernel
theorem d_M_define_103 : decode prog_9_method_7_code 103 = .ok (.imul, 1) := by decide +kernel
theorem d_M_define_104 : decode prog_9_method_7_code 104 = .ok (.iload_n 2, 1) := by decide +kernel
theorem d_M_define_105 : decode prog_9_method_7_code 105 = .ok (.iadd, 1) := by decide +kernel
theorem d_M_define_106 : decode prog_9_method_7_code 106 = .ok (.aload_n 0, 1) := by decide +kernel
theorem d_M_define_107 : decode prog_9_method_7_code 107 = .ok (.getfield 13, 3) := by decide +kernel
theorem d_M_define_110 : decode prog_9_method_7_code 110 = .ok (.bipush 72, 2) := by decide +kernel
theorem d_M_define_112 : decode prog_9_method_7_code 112 = .ok (.iload_n 2, 1) := by decide +kernel
theorem d_M_define_113 : decode prog_9_method_7_code 113 = .ok (.iadd, 1) := by decide +kernel
theorem d_M_define_114 : decode prog_9_method_7_code 114 = .ok (.iaload, 1) := by decide +kernel
theorem d_M_define_115 : decode prog_9_method_7_code 115 = .ok (.iastore, 1) := by decide +kernel
theorem d_M_define_116 : decode prog_9_method_7_code 116 = .ok (.iinc 2 1, 3) := by decide +kernel
theorem d_M_define_119 : decode prog_9_method_7_code 119 = .ok (.goto (-55), 3) := by decide +kernel
theorem d_M_define_122 : decode prog_9_method_7_code 122 = .ok (.aload_n 0, 1) := by decide +kernel
theorem d_M_define_123 : decode prog_9_method_7_code 123 = .ok (.getfield 16, 3) := by decide +kernel
theorem d_M_define_126 : decode prog_9_method_7_code 126 = .ok (.aload_n 0, 1) := by decide +kernel
theorem d_M_define_127 : decode prog_9_method_7_code 127 = .ok (.getfield 105, 3) := by decide +kernel
theorem d_M_define_130 : decode prog_9_method_7_code 130 = .ok (.aload_n 0, 1) := by decide +kernel
theorem d_M_define_131 : decode prog_9_method_7_code 131 = .ok (.getfield 16, 3) := by decide +kernel
theorem d_M_define_134 : decode prog_9_method_7_code 134 = .ok (.bipush 6, 2) := by decide +kernel
theorem d_M_define_136 : decode prog_9_method_7_code 136 = .ok (.iaload, 1) := by decide +kernel
theorem d_M_define_137 : decode prog_9_method_7_code 137 = .ok (.iastore, 1) := by decide +kernel
theorem d_M_define_138 : decode prog_9_method_7_code 138 = .ok (.aload_n 0, 1) := by decide +kernel
theorem d_M_define_139 : decode prog_9_method_7_code 139 = .ok (.getfield 16, 3) := by decide +kernel
theorem d_M_define_142 : decode prog_9_method_7_code 142 = .ok (.bipush 6, 2) := by decide +kernel
theorem d_M_define_144 : decode prog_9_method_7_code 144 = .ok (.iconst 0, 1) := by decide +kernel
theorem d_M_define_145 : decode prog_9_method_7_code 145 = .ok (.iastore, 1) := by decide +kernel
theorem d_M_define_146 : decode prog_9_method_7_code 146 = .ok (.aload_n 0, 1) := by decide +kernel
theorem d_M_define_147 : decode prog_9_method_7_code 147 = .ok (.dup, 1) := by decide +kernel
theorem d_M_define_148 : decode prog_9_method_7_code 148 = .ok (.getfield 105, 3) := by decide +kernel
theorem d_M_define_151 : decode prog_9_method_7_code 151 = .ok (.dup_x1, 1) := by decide +kernel
theorem d_M_define_152 : decode prog_9_method_7_code 152 = .ok (.iconst 1, 1) := by decide +kernel
theorem d_M_define_153 : decode prog_9_method_7_code 153 = .ok (.iadd, 1) := by decide +kernel
theorem d_M_define_154 : decode prog_9_method_7_code 154 = .ok (.putfield 105, 3) := by decide +kernel
theorem d_M_define_157 : decode prog_9_method_7_code 157 = .ok (.ireturn, 1) := by decide +kernel
theorem d_M_opOf_0 : decode prog_9_method_8_code 0 = .ok (.aload_n 0, 1) := by decide +kernel
theorem d_M_opOf_1 : decode prog_9_method_8_code 1 = .ok (.getfield 7, 3) := by decide +kernel
theorem d_M_opOf_4 : decode prog_9_method_8_code 4 = .ok (.bipush 12, 2) := by decide +kernel
theorem d_M_opOf_6 : decode prog_9_method_8_code 6 = .ok (.aload_n 0, 1) := by decide +kernel
theorem d_M_opOf_7 : decode prog_9_method_8_code 7 = .ok (.getfield 28, 3) := by decide +kernel
theorem d_M_opOf_10 : decode prog_9_method_8_code 10 = .ok (.iload_n 1, 1) := by decide +kernel
theorem d_M_opOf_11 : decode prog_9_method_8_code 11 = .ok (.iaload, 1) := by decide +kernel
theorem d_M_opOf_12 : decode prog_9_method_8_code 12 = .ok (.imul, 1) := by decide +kernel
theorem d_M_opOf_13 : decode prog_9_method_8_code 13 = .ok (.iload_n 2, 1) := by decide +kernel
theorem d_M_opOf_14 : decode prog_9_method_8_code 14 = .ok (.iadd, 1) := by decide +kernel
theorem d_M_opOf_15 : decode prog_9_method_8_code 15 = .ok (.iaload, 1) := by decide +kernel
theorem d_M_opOf_16 : decode prog_9_method_8_code 16 = .ok (.ireturn, 1) := by decide +kernel
theorem d_M_argOf_0 : decode prog_9_method_9_code 0 = .ok (.aload_n 0, 1) := by decide +kernel
theorem d_M_argOf_1 : decode prog_9_method_9_code 1 = .ok (.getfield 13, 3) := by decide +kernel
theorem d_M_argOf_4 : decode prog_9_method_9_code 4 = .ok (.bipush 12, 2) := by decide +kernel
theorem d_M_argOf_6 : decode prog_9_method_9_code 6 = .ok (.aload_n 0, 1) := by decide +kernel
theorem d_M_argOf_7 : decode prog_9_method_9_code 7 = .ok (.getfield 28, 3) := by decide +kernel
theorem d_M_argOf_10 : decode prog_9_method_9_code 10 = .ok (.iload_n 1, 1) := by decide +kernel
theorem d_M_argOf_11 : decode prog_9_method_9_code 11 = .ok (.iaload, 1) := by decide +kernel
theorem d_M_argOf_12 : decode prog_9_method_9_code 12 = .ok (.imul, 1) := by decide +kernel
theorem d_M_argOf_13 : decode prog_9_method_9_code 13 = .ok (.iload_n 2, 1) := by decide +kernel
theorem d_M_argOf_14 : decode prog_9_method_9_code 14 = .ok (.iadd, 1) := by decide +kernel
theorem d_M_argOf_15 : decode prog_9_method_9_code 15 = .ok (.iaload, 1) := by decide +kernel
theorem d_M_argOf_16 : decode prog_9_method_9_code 16 = .ok (.ireturn, 1) := by decide +kernel
theorem d_M_end_0 : decode prog_9_method_10_code 0 = .ok (.iconst 1, 1) := by decide +kernel
theorem d_M_end_1 : decode prog_9_method_10_code 1 = .ok (.istore_n 3, 1) := by decide +kernel
theorem d_M_end_2 : decode prog_9_method_10_code 2 = .ok (.iload_n 2, 1) := by decide +kernel
theorem d_M_end_3 : decode prog_9_method_10_code 3 = .ok (.istore 4, 2) := by decide +kernel
theorem d_M_end_5 : decode prog_9_method_10_code 5 = .ok (.iload_n 3, 1) := by decide +kernel
theorem d_M_end_6 : decode prog_9_method_10_code 6 = .ok (.ifCond .le 24, 3) := by decide +kernel
theorem d_M_end_9 : decode prog_9_method_10_code 9 = .ok (.iload_n 3, 1) := by decide +kernel
theorem d_M_end_10 : decode prog_9_method_10_code 10 = .ok (.aload_n 0, 1) := by decide +kernel
theorem d_M_end_11 : decode prog_9_method_10_code 11 = .ok (.iload_n 1, 1) := by decide +kernel
theorem d_M_end_12 : decode prog_9_method_10_code 12 = .ok (.iload 4, 2) := by decide +kernel
theorem d_M_end_14 : decode prog_9_method_10_code 14 = .ok (.invokevirtual 108, 3) := by decide +kernel
theorem d_M_end_17 : decode prog_9_method_10_code 17 = .ok (.invokestatic 101, 3) := by decide +kernel
theorem d_M_end_20 : decode prog_9_method_10_code 20 = .ok (.iconst 1, 1) := by decide +kernel
theorem d_M_end_21 : decode prog_9_method_10_code 21 = .ok (.isub, 1) := by decide +kernel
theorem d_M_end_22 : decode prog_9_method_10_code 22 = .ok (.iadd, 1) := by decide +kernel
theorem d_M_end_23 : decode prog_9_method_10_code 23 = .ok (.istore_n 3, 1) := by decide +kernel
theorem d_M_end_24 : decode prog_9_method_10_code 24 = .ok (.iinc 4 1, 3) := by decide +kernel
theorem d_M_end_27 : decode prog_9_method_10_code 27 = .ok (.goto (-22), 3) := by decide +kernel
theorem d_M_end_30 : decode prog_9_method_10_code 30 = .ok (.iload 4, 2) := by decide +kernel
theorem d_M_end_32 : decode prog_9_method_10_code 32 = .ok (.ireturn, 1) := by decide +kernel
theorem d_M_make_0 : decode prog_9_method_11_code 0 = .ok (.aload_n 0, 1) := by decide +kernel
theorem d_M_make_1 : decode prog_9_method_11_code 1 = .ok (.dup, 1) := by decide +kernel
theorem d_M_make_2 : decode prog_9_method_11_code 2 = .ok (.getfield 112, 3) := by decide +kernel
theorem d_M_make_5 : decode prog_9_method_11_code 5 = .ok (.dup_x1, 1) := by decide +kernel
theorem d_M_make_6 : decode prog_9_method_11_code 6 = .ok (.iconst 1, 1) := by decide +kernel
theorem d_M_make_7 : decode prog_9_method_11_code 7 = .ok (.iadd, 1) := by decide +kernel
theorem d_M_make_8 : decode prog_9_method_11_code 8 = .ok (.putfield 112, 3) := by decide +kernel
theorem d_M_make_11 : decode prog_9_method_11_code 11 = .ok (.istore_n 2, 1) := by decide +kernel
theorem d_M_make_12 : decode prog_9_method_11_code 12 = .ok (.aload_n 0, 1) := by decide +kernel
theorem d_M_make_13 : decode prog_9_method_11_code 13 = .ok (.getfield 28, 3) := by decide +kernel
theorem d_M_make_16 : decode prog_9_method_11_code 16 = .ok (.iload_n 2, 1) := by decide +kernel
theorem d_M_make_17 : decode prog_9_method_11_code 17 = .ok (.iload_n 1, 1) := by decide +kernel
theorem d_M_make_18 : decode prog_9_method_11_code 18 = .ok (.iastore, 1) := by decide +kernel
theorem d_M_make_19 : decode prog_9_method_11_code 19 = .ok (.aload_n 0, 1) := by decide +kernel
theorem d_M_make_20 : decode prog_9_method_11_code 20 = .ok (.getfield 19, 3) := by decide +kernel
theorem d_M_make_23 : decode prog_9_method_11_code 23 = .ok (.iload_n 2, 1) := by decide +kernel
theorem d_M_make_24 : decode prog_9_method_11_code 24 = .ok (.iconst 0, 1) := by decide +kernel
theorem d_M_make_25 : decode prog_9_method_11_code 25 = .ok (.iastore, 1) := by decide +kernel
theorem d_M_make_26 : decode prog_9_method_11_code 26 = .ok (.aload_n 0, 1) := by decide +kernel
theorem d_M_make_27 : decode prog_9_method_11_code 27 = .ok (.getfield 31, 3) := by decide +kernel
theorem d_M_make_30 : decode prog_9_method_11_code 30 = .ok (.iload_n 2, 1) := by decide +kernel
theorem d_M_make_31 : decode prog_9_method_11_code 31 = .ok (.iconst 4, 1) := by decide +kernel
theorem d_M_make_32 : decode prog_9_method_11_code 32 = .ok (.iastore, 1) := by decide +kernel
theorem d_M_make_33 : decode prog_9_method_11_code 33 = .ok (.bipush 12, 2) := by decide +kernel
theorem d_M_make_35 : decode prog_9_method_11_code 35 = .ok (.iload_n 2, 1) := by decide +kernel
theorem d_M_make_36 : decode prog_9_method_11_code 36 = .ok (.imul, 1) := by decide +kernel
theorem d_M_make_37 : decode prog_9_method_11_code 37 = .ok (.istore_n 3, 1) := by decide +kernel
theorem d_M_make_38 : decode prog_9_method_11_code 38 = .ok (.iload_n 3, 1) := by decide +kernel
theorem d_M_make_39 : decode prog_9_method_11_code 39 = .ok (.bipush 12, 2) := by decide +kernel
theorem d_M_make_41 : decode prog_9_method_11_code 41 = .ok (.iload_n 2, 1) := by decide +kernel
theorem d_M_make_42 : decode prog_9_method_11_code 42 = .ok (.imul, 1) := by decide +kernel
theorem d_M_make_43 : decode prog_9_method_11_code 43 = .ok (.bipush 12, 2) := by decide +kernel
theorem d_M_make_45 : decode prog_9_method_11_code 45 = .ok (.iadd, 1) := by decide +kernel
theorem d_M_make_46 : decode prog_9_method_11_code 46 = .ok (.if_icmp .ge 37, 3) := by decide +kernel
theorem d_M_make_49 : decode prog_9_method_11_code 49 = .ok (.aload_n 0, 1) := by decide +kernel
theorem d_M_make_50 : decode prog_9_method_11_code 50 = .ok (.getfield 41, 3) := by decide +kernel
theorem d_M_make_53 : decode prog_9_method_11_code 53 = .ok (.iload_n 3, 1) := by decide +kernel
theorem d_M_make_54 : decode prog_9_method_11_code 54 = .ok (.iconst 0, 1) := by decide +kernel
theorem d_M_make_55 : decode prog_9_method_11_code 55 = .ok (.iastore, 1) := by decide +kernel
theorem d_M_make_56 : decode prog_9_method_11_code 56 = .ok (.aload_n 0, 1) := by decide +kernel
theorem d_M_make_57 : decode prog_9_method_11_code 57 = .ok (.getfield 47, 3) := by decide +kernel
theorem d_M_make_60 : decode prog_9_method_11_code 60 = .ok (.iload_n 3, 1) := by decide +kernel
theorem d_M_make_61 : decode prog_9_method_11_code 61 = .ok (.iconst 0, 1) := by decide +kernel
theorem d_M_make_62 : decode prog_9_method_11_code 62 = .ok (.iastore, 1) := by decide +kernel
theorem d_M_make_63 : decode prog_9_method_11_code 63 = .ok (.aload_n 0, 1) := by decide +kernel
theorem d_M_make_64 : decode prog_9_method_11_code 64 = .ok (.getfield 53, 3) := by decide +kernel
theorem d_M_make_67 : decode prog_9_method_11_code 67 = .ok (.iload_n 3, 1) := by decide +kernel
theorem d_M_make_68 : decode prog_9_method_11_code 68 = .ok (.iconst 0, 1) := by decide +kernel
theorem d_M_make_69 : decode prog_9_method_11_code 69 = .ok (.bastore, 1) := by decide +kernel
theorem d_M_make_70 : decode prog_9_method_11_code 70 = .ok (.aload_n 0, 1) := by decide +kernel
theorem d_M_make_71 : decode prog_9_method_11_code 71 = .ok (.getfield 56, 3) := by decide +kernel
theorem d_M_make_74 : decode prog_9_method_11_code 74 = .ok (.iload_n 3, 1) := by decide +kernel
theorem d_M_make_75 : decode prog_9_method_11_code 75 = .ok (.iconst 0, 1) := by decide +kernel
theorem d_M_make_76 : decode prog_9_method_11_code 76 = .ok (.bastore, 1) := by decide +kernel
theorem d_M_make_77 : decode prog_9_method_11_code 77 = .ok (.iinc 3 1, 3) := by decide +kernel
theorem d_M_make_80 : decode prog_9_method_11_code 80 = .ok (.goto (-42), 3) := by decide +kernel
theorem d_M_make_83 : decode prog_9_method_11_code 83 = .ok (.aload_n 0, 1) := by decide +kernel
theorem d_M_make_84 : decode prog_9_method_11_code 84 = .ok (.iload_n 2, 1) := by decide +kernel
theorem d_M_make_85 : decode prog_9_method_11_code 85 = .ok (.invokevirtual 115, 3) := by decide +kernel
theorem d_M_make_88 : decode prog_9_method_11_code 88 = .ok (.iload_n 2, 1) := by decide +kernel
theorem d_M_make_89 : decode prog_9_method_11_code 89 = .ok (.ireturn, 1) := by decide +kernel
theorem d_M_inject_0 : decode prog_9_method_12_code 0 = .ok (.aload_n 0, 1) := by decide +kernel
theorem d_M_inject_1 : decode prog_9_method_12_code 1 = .ok (.getfield 80, 3) := by decide +kernel
theorem d_M_inject_4 : decode prog_9_method_12_code 4 = .ok (.aload_n 0, 1) := by decide +kernel
theorem d_M_inject_5 : decode prog_9_method_12_code 5 = .ok (.dup, 1) := by decide +kernel
theorem d_M_inject_6 : decode prog_9_method_12_code 6 = .ok (.getfield 119, 3) := by decide +kernel
theorem d_M_inject_9 : decode prog_9_method_12_code 9 = .ok (.dup_x1, 1) := by decide +kernel
theorem d_M_inject_10 : decode prog_9_method_12_code 10 = .ok (.iconst 1, 1) := by decide +kernel
theorem d_M_inject_11 : decode prog_9_method_12_code 11 = .ok (.iadd, 1) := by decide +kernel
theorem d_M_inject_12 : decode prog_9_method_12_code 12 = .ok (.putfield 119, 3) := by decide +kernel
theorem d_M_inject_15 : decode prog_9_method_12_code 15 = .ok (.iload_n 1, 1) := by decide +kernel
theorem d_M_inject_16 : decode prog_9_method_12_code 16 = .ok (.iastore, 1) := by decide +kernel
theorem d_M_inject_17 : decode prog_9_method_12_code 17 = .ok (.aload_n 0, 1) := by decide +kernel
theorem d_M_inject_18 : decode prog_9_method_12_code 18 = .ok (.getfield 34, 3) := by decide +kernel
theorem d_M_inject_21 : decode prog_9_method_12_code 21 = .ok (.iload_n 1, 1) := by decide +kernel
theorem d_M_inject_22 : decode prog_9_method_12_code 22 = .ok (.iconst 1, 1) := by decide +kernel
theorem d_M_inject_23 : decode prog_9_method_12_code 23 = .ok (.iastore, 1) := by decide +kernel
theorem d_M_inject_24 : decode prog_9_method_12_code 24 = .ok (.return_, 1) := by decide +kernel
theorem d_M_toRing_0 : decode prog_9_method_13_code 0 = .ok (.aload_n 0, 1) := by decide +kernel
theorem d_M_toRing_1 : decode prog_9_method_13_code 1 = .ok (.getfield 77, 3) := by decide +kernel
theorem d_M_toRing_4 : decode prog_9_method_13_code 4 = .ok (.iload_n 2, 1) := by decide +kernel
theorem d_M_toRing_5 : decode prog_9_method_13_code 5 = .ok (.iaload, 1) := by decide +kernel
theorem d_M_toRing_6 : decode prog_9_method_13_code 6 = .ok (.iconst 4, 1) := by decide +kernel
theorem d_M_toRing_7 : decode prog_9_method_13_code 7 = .ok (.if_icmp .ge 34, 3) := by decide +kernel
theorem d_M_toRing_10 : decode prog_9_method_13_code 10 = .ok (.aload_n 0, 1) := by decide +kernel
theorem d_M_toRing_11 : decode prog_9_method_13_code 11 = .ok (.getfield 74, 3) := by decide +kernel
theorem d_M_toRing_14 : decode prog_9_method_13_code 14 = .ok (.iconst 4, 1) := by decide +kernel
theorem d_M_toRing_15 : decode prog_9_method_13_code 15 = .ok (.iload_n 2, 1) := by decide +kernel
theorem d_M_toRing_16 : decode prog_9_method_13_code 16 = .ok (.imul, 1) := by decide +kernel
theorem d_M_toRing_17 : decode prog_9_method_13_code 17 = .ok (.aload_n 0, 1) := by decide +kernel
theorem d_M_toRing_18 : decode prog_9_method_13_code 18 = .ok (.getfield 77, 3) := by decide +kernel
theorem d_M_toRing_21 : decode prog_9_method_13_code 21 = .ok (.iload_n 2, 1) := by decide +kernel
theorem d_M_toRing_22 : decode prog_9_method_13_code 22 = .ok (.dup2, 1) := by decide +kernel
theorem d_M_toRing_23 : decode prog_9_method_13_code 23 = .ok (.iaload, 1) := by decide +kernel
theorem d_M_toRing_24 : decode prog_9_method_13_code 24 = .ok (.dup_x2, 1) := by decide +kernel
theorem d_M_toRing_25 : decode prog_9_method_13_code 25 = .ok (.iconst 1, 1) := by decide +kernel
theorem d_M_toRing_26 : decode prog_9_method_13_code 26 = .ok (.iadd, 1) := by decide +kernel
theorem d_M_toRing_27 : decode prog_9_method_13_code 27 = .ok (.iastore, 1) := by decide +kernel
theorem d_M_toRing_28 : decode prog_9_method_13_code 28 = .ok (.iadd, 1) := by decide +kernel
theorem d_M_toRing_29 : decode prog_9_method_13_code 29 = .ok (.iload_n 1, 1) := by decide +kernel
theorem d_M_toRing_30 : decode prog_9_method_13_code 30 = .ok (.iastore, 1) := by decide +kernel
theorem d_M_toRing_31 : decode prog_9_method_13_code 31 = .ok (.aload_n 0, 1) := by decide +kernel
theorem d_M_toRing_32 : decode prog_9_method_13_code 32 = .ok (.getfield 34, 3) := by decide +kernel
theorem d_M_toRing_35 : decode prog_9_method_13_code 35 = .ok (.iload_n 1, 1) := by decide +kernel
theorem d_M_toRing_36 : decode prog_9_method_13_code 36 = .ok (.iconst 5, 1) := by decide +kernel
theorem d_M_toRing_37 : decode prog_9_method_13_code 37 = .ok (.iload_n 2, 1) := by decide +kernel
theorem d_M_toRing_38 : decode prog_9_method_13_code 38 = .ok (.iadd, 1) := by decide +kernel
theorem d_M_toRing_39 : decode prog_9_method_13_code 39 = .ok (.iastore, 1) := by decide +kernel
theorem d_M_toRing_40 : decode prog_9_method_13_code 40 = .ok (.return_, 1) := by decide +kernel
theorem d_M_toRing_41 : decode prog_9_method_13_code 41 = .ok (.aload_n 0, 1) := by decide +kernel
theorem d_M_toRing_42 : decode prog_9_method_13_code 42 = .ok (.iload_n 2, 1) := by decide +kernel
theorem d_M_toRing_43 : decode prog_9_method_13_code 43 = .ok (.invokevirtual 122, 3) := by decide +kernel
theorem d_M_toRing_46 : decode prog_9_method_13_code 46 = .ok (.istore_n 3, 1) := by decide +kernel
theorem d_M_toRing_47 : decode prog_9_method_13_code 47 = .ok (.aload_n 0, 1) := by decide +kernel
theorem d_M_toRing_48 : decode prog_9_method_13_code 48 = .ok (.iload_n 2, 1) := by decide +kernel
theorem d_M_toRing_49 : decode prog_9_method_13_code 49 = .ok (.invokevirtual 122, 3) := by decide +kernel
theorem d_M_toRing_52 : decode prog_9_method_13_code 52 = .ok (.istore 4, 2) := by decide +kernel
theorem d_M_toRing_54 : decode prog_9_method_13_code 54 = .ok (.aload_n 0, 1) := by decide +kernel
theorem d_M_toRing_55 : decode prog_9_method_13_code 55 = .ok (.iload_n 3, 1) := by decide +kernel
theorem d_M_toRing_56 : decode prog_9_method_13_code 56 = .ok (.invokevirtual 125, 3) := by decide +kernel
theorem d_M_toRing_59 : decode prog_9_method_13_code 59 = .ok (.aload_n 0, 1) := by decide +kernel
theorem d_M_toRing_60 : decode prog_9_method_13_code 60 = .ok (.iload 4, 2) := by decide +kernel
theorem d_M_toRing_62 : decode prog_9_method_13_code 62 = .ok (.invokevirtual 125, 3) := by decide +kernel
theorem d_M_toRing_65 : decode prog_9_method_13_code 65 = .ok (.aload_n 0, 1) := by decide +kernel
theorem d_M_toRing_66 : decode prog_9_method_13_code 66 = .ok (.iload_n 1, 1) := by decide +kernel
theorem d_M_toRing_67 : decode prog_9_method_13_code 67 = .ok (.invokevirtual 125, 3) := by decide +kernel
theorem d_M_toRing_70 : decode prog_9_method_13_code 70 = .ok (.return_, 1) := by decide +kernel
theorem d_M_shift_0 : decode prog_9_method_14_code 0 = .ok (.aload_n 0, 1) := by decide +kernel
theorem d_M_shift_1 : decode prog_9_method_14_code 1 = .ok (.getfield 74, 3) := by decide +kernel
theorem d_M_shift_4 : decode prog_9_method_14_code 4 = .ok (.iconst 4, 1) := by decide +kernel
theorem d_M_shift_5 : decode prog_9_method_14_code 5 = .ok (.iload_n 1, 1) := by decide +kernel
theorem d_M_shift_6 : decode prog_9_method_14_code 6 = .ok (.imul, 1) := by decide +kernel
theorem d_M_shift_7 : decode prog_9_method_14_code 7 = .ok (.iaload, 1) := by decide +kernel
theorem d_M_shift_8 : decode prog_9_method_14_code 8 = .ok (.istore_n 2, 1) := by decide +kernel
theorem d_M_shift_9 : decode prog_9_method_14_code 9 = .ok (.aload_n 0, 1) := by decide +kernel
theorem d_M_shift_10 : decode prog_9_method_14_code 10 = .ok (.getfield 77, 3) := by decide +kernel
theorem d_M_shift_13 : decode prog_9_method_14_code 13 = .ok (.iload_n 1, 1) := by decide +kernel
theorem d_M_shift_14 : decode prog_9_method_14_code 14 = .ok (.dup2, 1) := by decide +kernel
theorem d_M_shift_15 : decode prog_9_method_14_code 15 = .ok (.iaload, 1) := by decide +kernel
theorem d_M_shift_16 : decode prog_9_method_14_code 16 = .ok (.iconst 1, 1) := by decide +kernel
theorem d_M_shift_17 : decode prog_9_method_14_code 17 = .ok (.isub, 1) := by decide +kernel
theorem d_M_shift_18 : decode prog_9_method_14_code 18 = .ok (.iastore, 1) := by decide +kernel
theorem d_M_shift_19 : decode prog_9_method_14_code 19 = .ok (.iconst 0, 1) := by decide +kernel
theorem d_M_shift_20 : decode prog_9_method_14_code 20 = .ok (.istore_n 3, 1) := by decide +kernel
theorem d_M_shift_21 : decode prog_9_method_14_code 21 = .ok (.iload_n 3, 1) := by decide +kernel
theorem d_M_shift_22 : decode prog_9_method_14_code 22 = .ok (.aload_n 0, 1) := by decide +kernel
theorem d_M_shift_23 : decode prog_9_method_14_code 23 = .ok (.getfield 77, 3) := by decide +kernel
theorem d_M_shift_26 : decode prog_9_method_14_code 26 = .ok (.iload_n 1, 1) := by decide +kernel
theorem d_M_shift_27 : decode prog_9_method_14_code 27 = .ok (.iaload, 1) := by decide +kernel
theorem d_M_shift_28 : decode prog_9_method_14_code 28 = .ok (.if_icmp .ge 31, 3) := by decide +kernel
theorem d_M_shift_31 : decode prog_9_method_14_code 31 = .ok (.aload_n 0, 1) := by decide +kernel
theorem d_M_shift_32 : decode prog_9_method_14_code 32 = .ok (.getfield 74, 3) := by decide +kernel
theorem d_M_shift_35 : decode prog_9_method_14_code 35 = .ok (.iconst 4, 1) := by decide +kernel
theorem d_M_shift_36 : decode prog_9_method_14_code 36 = .ok (.iload_n 1, 1) := by decide +kernel
theorem d_M_shift_37 : decode prog_9_method_14_code 37 = .ok (.imul, 1) := by decide +kernel
theorem d_M_shift_38 : decode prog_9_method_14_code 38 = .ok (.iload_n 3, 1) := by decide +kernel
theorem d_M_shift_39 : decode prog_9_method_14_code 39 = .ok (.iadd, 1) := by decide +kernel
theorem d_M_shift_40 : decode prog_9_method_14_code 40 = .ok (.aload_n 0, 1) := by decide +kernel
theorem d_M_shift_41 : decode prog_9_method_14_code 41 = .ok (.getfield 74, 3) := by decide +kernel
theorem d_M_shift_44 : decode prog_9_method_14_code 44 = .ok (.iconst 4, 1) := by decide +kernel
theorem d_M_shift_45 : decode prog_9_method_14_code 45 = .ok (.iload_n 1, 1) := by decide +kernel
theorem d_M_shift_46 : decode prog_9_method_14_code 46 = .ok (.imul, 1) := by decide +kernel
theorem d_M_shift_47 : decode prog_9_method_14_code 47 = .ok (.iload_n 3, 1) := by decide +kernel
theorem d_M_shift_48 : decode prog_9_method_14_code 48 = .ok (.iadd, 1) := by decide +kernel
theorem d_M_shift_49 : decode prog_9_method_14_code 49 = .ok (.iconst 1, 1) := by decide +kernel
theorem d_M_shift_50 : decode prog_9_method_14_code 50 = .ok (.iadd, 1) := by decide +kernel
theorem d_M_shift_51 : decode prog_9_method_14_code 51 = .ok (.iaload, 1) := by decide +kernel
theorem d_M_shift_52 : decode prog_9_method_14_code 52 = .ok (.iastore, 1) := by decide +kernel
theorem d_M_shift_53 : decode prog_9_method_14_code 53 = .ok (.iinc 3 1, 3) := by decide +kernel
theorem d_M_shift_56 : decode prog_9_method_14_code 56 = .ok (.goto (-35), 3) := by decide +kernel
theorem d_M_shift_59 : decode prog_9_method_14_code 59 = .ok (.iload_n 2, 1) := by decide +kernel
theorem d_M_shift_60 : decode prog_9_method_14_code 60 = .ok (.ireturn, 1) := by decide +kernel
theorem d_M_shiftInjector_0 : decode prog_9_method_15_code 0 = .ok (.aload_n 0, 1) := by decide +kernel
theorem d_M_shiftInjector_1 : decode prog_9_method_15_code 1 = .ok (.getfield 80, 3) := by decide +kernel
theorem d_M_shiftInjector_4 : decode prog_9_method_15_code 4 = .ok (.iconst 0, 1) := by decide +kernel
theorem d_M_shiftInjector_5 : decode prog_9_method_15_code 5 = .ok (.iaload, 1) := by decide +kernel
theorem d_M_shiftInjector_6 : decode prog_9_method_15_code 6 = .ok (.istore_n 1, 1) := by decide +kernel
theorem d_M_shiftInjector_7 : decode prog_9_method_15_code 7 = .ok (.aload_n 0, 1) := by decide +kernel
theorem d_M_shiftInjector_8 : decode prog_9_method_15_code 8 = .ok (.dup, 1) := by decide +kernel
theorem d_M_shiftInjector_9 : decode prog_9_method_15_code 9 = .ok (.getfield 119, 3) := by decide +kernel
theorem d_M_shiftInjector_12 : decode prog_9_method_15_code 12 = .ok (.iconst 1, 1) := by decide +kernel
theorem d_M_shiftInjector_13 : decode prog_9_method_15_code 13 = .ok (.isub, 1) := by decide +kernel
theorem d_M_shiftInjector_14 : decode prog_9_method_15_code 14 = .ok (.putfield 119, 3) := by decide +kernel
theorem d_M_shiftInjector_17 : decode prog_9_method_15_code 17 = .ok (.iconst 0, 1) := by decide +kernel
theorem d_M_shiftInjector_18 : decode prog_9_method_15_code 18 = .ok (.istore_n 2, 1) := by decide +kernel
theorem d_M_shiftInjector_19 : decode prog_9_method_15_code 19 = .ok (.iload_n 2, 1) := by decide +kernel
theorem d_M_shiftInjector_20 : decode prog_9_method_15_code 20 = .ok (.aload_n 0, 1) := by decide +kernel
theorem d_M_shiftInjector_21 : decode prog_9_method_15_code 21 = .ok (.getfield 119, 3) := by decide +kernel
theorem d_M_shiftInjector_24 : decode prog_9_method_15_code 24 = .ok (.if_icmp .ge 23, 3) := by decide +kernel
theorem d_M_shiftInjector_27 : decode prog_9_method_15_code 27 = .ok (.aload_n 0, 1) := by decide +kernel
theorem d_M_shiftInjector_28 : decode prog_9_method_15_code 28 = .ok (.getfield 80, 3) := by decide +kernel
theorem d_M_shiftInjector_31 : decode prog_9_method_15_code 31 = .ok (.iload_n 2, 1) := by decide +kernel
theorem d_M_shiftInjector_32 : decode prog_9_method_15_code 32 = .ok (.aload_n 0, 1) := by decide +kernel
theorem d_M_shiftInjector_33 : decode prog_9_method_15_code 33 = .ok (.getfield 80, 3) := by decide +kernel
theorem d_M_shiftInjector_36 : decode prog_9_method_15_code 36 = .ok (.iload_n 2, 1) := by decide +kernel
theorem d_M_shiftInjector_37 : decode prog_9_method_15_code 37 = .ok (.iconst 1, 1) := by decide +kernel
theorem d_M_shiftInjector_38 : decode prog_9_method_15_code 38 = .ok (.iadd, 1) := by decide +kernel
theorem d_M_shiftInjector_39 : decode prog_9_method_15_code 39 = .ok (.iaload, 1) := by decide +kernel
theorem d_M_shiftInjector_40 : decode prog_9_method_15_code 40 = .ok (.iastore, 1) := by decide +kernel
theorem d_M_shiftInjector_41 : decode prog_9_method_15_code 41 = .ok (.iinc 2 1, 3) := by decide +kernel
theorem d_M_shiftInjector_44 : decode prog_9_method_15_code 44 = .ok (.goto (-25), 3) := by decide +kernel
theorem d_M_shiftInjector_47 : decode prog_9_method_15_code 47 = .ok (.iload_n 1, 1) := by decide +kernel
theorem d_M_shiftInjector_48 : decode prog_9_method_15_code 48 = .ok (.ireturn, 1) := by decide +kernel
theorem d_M_wakeUp_0 : decode prog_9_method_16_code 0 = .ok (.aload_n 0, 1) := by decide +kernel
theorem d_M_wakeUp_1 : decode prog_9_method_16_code 1 = .ok (.getfield 19, 3) := by decide +kernel
theorem d_M_wakeUp_4 : decode prog_9_method_16_code 4 = .ok (.iload_n 1, 1) := by decide +kernel
theorem d_M_wakeUp_5 : decode prog_9_method_16_code 5 = .ok (.iaload, 1) := by decide +kernel
theorem d_M_wakeUp_6 : decode prog_9_method_16_code 6 = .ok (.iconst 5, 1) := by decide +kernel
theorem d_M_wakeUp_7 : decode prog_9_method_16_code 7 = .ok (.if_icmp .ne 10, 3) := by decide +kernel
theorem d_M_wakeUp_10 : decode prog_9_method_16_code 10 = .ok (.aload_n 0, 1) := by decide +kernel
theorem d_M_wakeUp_11 : decode prog_9_method_16_code 11 = .ok (.getfield 37, 3) := by decide +kernel
theorem d_M_wakeUp_14 : decode prog_9_method_16_code 14 = .ok (.iload_n 1, 1) := by decide +kernel
theorem d_M_wakeUp_15 : decode prog_9_method_16_code 15 = .ok (.iconst 1, 1) := by decide +kernel
theorem d_M_wakeUp_16 : decode prog_9_method_16_code 16 = .ok (.bastore, 1) := by decide +kernel
theorem d_M_wakeUp_17 : decode prog_9_method_16_code 17 = .ok (.aload_n 0, 1) := by decide +kernel
theorem d_M_wakeUp_18 : decode prog_9_method_16_code 18 = .ok (.getfield 19, 3) := by decide +kernel
theorem d_M_wakeUp_21 : decode prog_9_method_16_code 21 = .ok (.iload_n 1, 1) := by decide +kernel
theorem d_M_wakeUp_22 : decode prog_9_method_16_code 22 = .ok (.iaload, 1) := by decide +kernel
theorem d_M_wakeUp_23 : decode prog_9_method_16_code 23 = .ok (.ifCond .eq 4, 3) := by decide +kernel
theorem d_M_wakeUp_26 : decode prog_9_method_16_code 26 = .ok (.return_, 1) := by decide +kernel
theorem d_M_wakeUp_27 : decode prog_9_method_16_code 27 = .ok (.aload_n 0, 1) := by decide +kernel
theorem d_M_wakeUp_28 : decode prog_9_method_16_code 28 = .ok (.getfield 19, 3) := by decide +kernel
theorem d_M_wakeUp_31 : decode prog_9_method_16_code 31 = .ok (.iload_n 1, 1) := by decide +kernel
theorem d_M_wakeUp_32 : decode prog_9_method_16_code 32 = .ok (.iconst 1, 1) := by decide +kernel
theorem d_M_wakeUp_33 : decode prog_9_method_16_code 33 = .ok (.iastore, 1) := by decide +kernel
theorem d_M_wakeUp_34 : decode prog_9_method_16_code 34 = .ok (.aload_n 0, 1) := by decide +kernel
theorem d_M_wakeUp_35 : decode prog_9_method_16_code 35 = .ok (.getfield 89, 3) := by decide +kernel
theorem d_M_wakeUp_38 : decode prog_9_method_16_code 38 = .ok (.ifCond .ge 9, 3) := by decide +kernel
theorem d_M_wakeUp_41 : decode prog_9_method_16_code 41 = .ok (.aload_n 0, 1) := by decide +kernel
theorem d_M_wakeUp_42 : decode prog_9_method_16_code 42 = .ok (.iload_n 1, 1) := by decide +kernel
theorem d_M_wakeUp_43 : decode prog_9_method_16_code 43 = .ok (.invokevirtual 125, 3) := by decide +kernel
theorem d_M_wakeUp_46 : decode prog_9_method_16_code 46 = .ok (.return_, 1) := by decide +kernel
theorem d_M_wakeUp_47 : decode prog_9_method_16_code 47 = .ok (.aload_n 0, 1) := by decide +kernel
theorem d_M_wakeUp_48 : decode prog_9_method_16_code 48 = .ok (.getfield 65, 3) := by decide +kernel
theorem d_M_wakeUp_51 : decode prog_9_method_16_code 51 = .ok (.aload_n 0, 1) := by decide +kernel
theorem d_M_wakeUp_52 : decode prog_9_method_16_code 52 = .ok (.getfield 89, 3) := by decide +kernel
theorem d_M_wakeUp_55 : decode prog_9_method_16_code 55 = .ok (.iaload, 1) := by decide +kernel
theorem d_M_wakeUp_56 : decode prog_9_method_16_code 56 = .ok (.istore_n 2, 1) := by decide +kernel
theorem d_M_wakeUp_57 : decode prog_9_method_16_code 57 = .ok (.aload_n 0, 1) := by decide +kernel
theorem d_M_wakeUp_58 : decode prog_9_method_16_code 58 = .ok (.getfield 65, 3) := by decide +kernel
theorem d_M_wakeUp_61 : decode prog_9_method_16_code 61 = .ok (.aload_n 0, 1) := by decide +kernel
theorem d_M_wakeUp_62 : decode prog_9_method_16_code 62 = .ok (.getfield 89, 3) := by decide +kernel
theorem d_M_wakeUp_65 : decode prog_9_method_16_code 65 = .ok (.iload_n 1, 1) := by decide +kernel
theorem d_M_wakeUp_66 : decode prog_9_method_16_code 66 = .ok (.iastore, 1) := by decide +kernel
theorem d_M_wakeUp_67 : decode prog_9_method_16_code 67 = .ok (.aload_n 0, 1) := by decide +kernel
theorem d_M_wakeUp_68 : decode prog_9_method_16_code 68 = .ok (.getfield 34, 3) := by decide +kernel
theorem d_M_wakeUp_71 : decode prog_9_method_16_code 71 = .ok (.iload_n 1, 1) := by decide +kernel
theorem d_M_wakeUp_72 : decode prog_9_method_16_code 72 = .ok (.iconst 2, 1) := by decide +kernel
theorem d_M_wakeUp_73 : decode prog_9_method_16_code 73 = .ok (.aload_n 0, 1) := by decide +kernel
theorem d_M_wakeUp_74 : decode prog_9_method_16_code 74 = .ok (.getfield 89, 3) := by decide +kernel
theorem d_M_wakeUp_77 : decode prog_9_method_16_code 77 = .ok (.iadd, 1) := by decide +kernel
theorem d_M_wakeUp_78 : decode prog_9_method_16_code 78 = .ok (.iastore, 1) := by decide +kernel
theorem d_M_wakeUp_79 : decode prog_9_method_16_code 79 = .ok (.iload_n 2, 1) := by decide +kernel
theorem d_M_wakeUp_80 : decode prog_9_method_16_code 80 = .ok (.ifCond .lt 12, 3) := by decide +kernel
theorem d_M_wakeUp_83 : decode prog_9_method_16_code 83 = .ok (.aload_n 0, 1) := by decide +kernel
theorem d_M_wakeUp_84 : decode prog_9_method_16_code 84 = .ok (.iload_n 2, 1) := by decide +kernel
theorem d_M_wakeUp_85 : decode prog_9_method_16_code 85 = .ok (.aload_n 0, 1) := by decide +kernel
theorem d_M_wakeUp_86 : decode prog_9_method_16_code 86 = .ok (.getfield 89, 3) := by decide +kernel
theorem d_M_wakeUp_89 : decode prog_9_method_16_code 89 = .ok (.invokevirtual 128, 3) := by decide +kernel
theorem d_M_wakeUp_92 : decode prog_9_method_16_code 92 = .ok (.return_, 1) := by decide +kernel
theorem d_M_firstAt_0 : decode prog_9_method_17_code 0 = .ok (.iconst (-1), 1) := by decide +kernel
theorem d_M_firstAt_1 : decode prog_9_method_17_code 1 = .ok (.istore_n 3, 1) := by decide +kernel
theorem d_M_firstAt_2 : decode prog_9_method_17_code 2 = .ok (.iconst 0, 1) := by decide +kernel
theorem d_M_firstAt_3 : decode prog_9_method_17_code 3 = .ok (.istore 4, 2) := by decide +kernel
theorem d_M_firstAt_5 : decode prog_9_method_17_code 5 = .ok (.iload 4, 2) := by decide +kernel
theorem d_M_firstAt_7 : decode prog_9_method_17_code 7 = .ok (.bipush 12, 2) := by decide +kernel
theorem d_M_firstAt_9 : decode prog_9_method_17_code 9 = .ok (.aload_n 0, 1) := by decide +kernel
theorem d_M_firstAt_10 : decode prog_9_method_17_code 10 = .ok (.getfield 112, 3) := by decide +kernel
theorem d_M_firstAt_13 : decode prog_9_method_17_code 13 = .ok (.imul, 1) := by decide +kernel
theorem d_M_firstAt_14 : decode prog_9_method_17_code 14 = .ok (.if_icmp .ge 85, 3) := by decide +kernel
theorem d_M_firstAt_17 : decode prog_9_method_17_code 17 = .ok (.iload 4, 2) := by decide +kernel
theorem d_M_firstAt_19 : decode prog_9_method_17_code 19 = .ok (.bipush 12, 2) := by decide +kernel
theorem d_M_firstAt_21 : decode prog_9_method_17_code 21 = .ok (.idiv, 1) := by decide +kernel
theorem d_M_firstAt_22 : decode prog_9_method_17_code 22 = .ok (.istore 5, 2) := by decide +kernel
theorem d_M_firstAt_24 : decode prog_9_method_17_code 24 = .ok (.iload 4, 2) := by decide +kernel
theorem d_M_firstAt_26 : decode prog_9_method_17_code 26 = .ok (.bipush 12, 2) := by decide +kernel
theorem d_M_firstAt_28 : decode prog_9_method_17_code 28 = .ok (.irem, 1) := by decide +kernel
theorem d_M_firstAt_29 : decode prog_9_method_17_code 29 = .ok (.istore 6, 2) := by decide +kernel
theorem d_M_firstAt_31 : decode prog_9_method_17_code 31 = .ok (.aload_n 0, 1) := by decide +kernel
theorem d_M_firstAt_32 : decode prog_9_method_17_code 32 = .ok (.getfield 53, 3) := by decide +kernel
theorem d_M_firstAt_35 : decode prog_9_method_17_code 35 = .ok (.iload 4, 2) := by decide +kernel
theorem d_M_firstAt_37 : decode prog_9_method_17_code 37 = .ok (.baload, 1) := by decide +kernel
theorem d_M_firstAt_38 : decode prog_9_method_17_code 38 = .ok (.ifCond .eq 55, 3) := by decide +kernel
theorem d_M_firstAt_41 : decode prog_9_method_17_code 41 = .ok (.aload_n 0, 1) := by decide +kernel
theorem d_M_firstAt_42 : decode prog_9_method_17_code 42 = .ok (.iload 5, 2) := by decide +kernel
theorem d_M_firstAt_44 : decode prog_9_method_17_code 44 = .ok (.iload 6, 2) := by decide +kernel
theorem d_M_firstAt_46 : decode prog_9_method_17_code 46 = .ok (.invokevirtual 108, 3) := by decide +kernel
theorem d_M_firstAt_49 : decode prog_9_method_17_code 49 = .ok (.iload_n 1, 1) := by decide +kernel
theorem d_M_firstAt_50 : decode prog_9_method_17_code 50 = .ok (.if_icmp .ne 43, 3) := by decide +kernel
theorem d_M_firstAt_53 : decode prog_9_method_17_code 53 = .ok (.aload_n 0, 1) := by decide +kernel
theorem d_M_firstAt_54 : decode prog_9_method_17_code 54 = .ok (.iload 5, 2) := by decide +kernel
theorem d_M_firstAt_56 : decode prog_9_method_17_code 56 = .ok (.iload 6, 2) := by decide +kernel
theorem d_M_firstAt_58 : decode prog_9_method_17_code 58 = .ok (.invokevirtual 132, 3) := by decide +kernel
theorem d_M_firstAt_61 : decode prog_9_method_17_code 61 = .ok (.iconst 2, 1) := by decide +kernel
theorem d_M_firstAt_62 : decode prog_9_method_17_code 62 = .ok (.irem, 1) := by decide +kernel
theorem d_M_firstAt_63 : decode prog_9_method_17_code 63 = .ok (.iload_n 2, 1) := by decide +kernel
theorem d_M_firstAt_64 : decode prog_9_method_17_code 64 = .ok (.if_icmp .eq 6, 3) := by decide +kernel
theorem d_M_firstAt_67 : decode prog_9_method_17_code 67 = .ok (.goto 26, 3) := by decide +kernel
theorem d_M_firstAt_70 : decode prog_9_method_17_code 70 = .ok (.iload_n 3, 1) := by decide +kernel
theorem d_M_firstAt_71 : decode prog_9_method_17_code 71 = .ok (.ifCond .lt 19, 3) := by decide +kernel
theorem d_M_firstAt_74 : decode prog_9_method_17_code 74 = .ok (.aload_n 0, 1) := by decide +kernel
theorem d_M_firstAt_75 : decode prog_9_method_17_code 75 = .ok (.getfield 50, 3) := by decide +kernel
theorem d_M_firstAt_78 : decode prog_9_method_17_code 78 = .ok (.iload 4, 2) := by decide +kernel
theorem d_M_firstAt_80 : decode prog_9_method_17_code 80 = .ok (.iaload, 1) := by decide +kernel
theorem d_M_firstAt_81 : decode prog_9_method_17_code 81 = .ok (.aload_n 0, 1) := by decide +kernel
theorem d_M_firstAt_82 : decode prog_9_method_17_code 82 = .ok (.getfield 50, 3) := by decide +kernel
theorem d_M_firstAt_85 : decode prog_9_method_17_code 85 = .ok (.iload_n 3, 1) := by decide +kernel
theorem d_M_firstAt_86 : decode prog_9_method_17_code 86 = .ok (.iaload, 1) := by decide +kernel
theorem d_M_firstAt_87 : decode prog_9_method_17_code 87 = .ok (.if_icmp .ge 6, 3) := by decide +kernel
theorem d_M_firstAt_90 : decode prog_9_method_17_code 90 = .ok (.iload 4, 2) := by decide +kernel
theorem d_M_firstAt_92 : decode prog_9_method_17_code 92 = .ok (.istore_n 3, 1) := by decide +kernel
theorem d_M_firstAt_93 : decode prog_9_method_17_code 93 = .ok (.iinc 4 1, 3) := by decide +kernel
theorem d_M_firstAt_96 : decode prog_9_method_17_code 96 = .ok (.goto (-91), 3) := by decide +kernel
theorem d_M_firstAt_99 : decode prog_9_method_17_code 99 = .ok (.iload_n 3, 1) := by decide +kernel
theorem d_M_firstAt_100 : decode prog_9_method_17_code 100 = .ok (.ireturn, 1) := by decide +kernel
theorem d_M_waiting_0 : decode prog_9_method_18_code 0 = .ok (.iconst 0, 1) := by decide +kernel
theorem d_M_waiting_1 : decode prog_9_method_18_code 1 = .ok (.istore_n 3, 1) := by decide +kernel
theorem d_M_waiting_2 : decode prog_9_method_18_code 2 = .ok (.iconst 0, 1) := by decide +kernel
theorem d_M_waiting_3 : decode prog_9_method_18_code 3 = .ok (.istore 4, 2) := by decide +kernel
theorem d_M_waiting_5 : decode prog_9_method_18_code 5 = .ok (.iload 4, 2) := by decide +kernel
theorem d_M_waiting_7 : decode prog_9_method_18_code 7 = .ok (.bipush 12, 2) := by decide +kernel
theorem d_M_waiting_9 : decode prog_9_method_18_code 9 = .ok (.aload_n 0, 1) := by decide +kernel
theorem d_M_waiting_10 : decode prog_9_method_18_code 10 = .ok (.getfield 112, 3) := by decide +kernel
theorem d_M_waiting_13 : decode prog_9_method_18_code 13 = .ok (.imul, 1) := by decide +kernel
theorem d_M_waiting_14 : decode prog_9_method_18_code 14 = .ok (.if_icmp .ge 60, 3) := by decide +kernel
theorem d_M_waiting_17 : decode prog_9_method_18_code 17 = .ok (.aload_n 0, 1) := by decide +kernel
theorem d_M_waiting_18 : decode prog_9_method_18_code 18 = .ok (.getfield 53, 3) := by decide +kernel
theorem d_M_waiting_21 : decode prog_9_method_18_code 21 = .ok (.iload 4, 2) := by decide +kernel
theorem d_M_waiting_23 : decode prog_9_method_18_code 23 = .ok (.baload, 1) := by decide +kernel
theorem d_M_waiting_24 : decode prog_9_method_18_code 24 = .ok (.ifCond .eq 44, 3) := by decide +kernel
theorem d_M_waiting_27 : decode prog_9_method_18_code 27 = .ok (.aload_n 0, 1) := by decide +kernel
theorem d_M_waiting_28 : decode prog_9_method_18_code 28 = .ok (.iload 4, 2) := by decide +kernel
theorem d_M_waiting_30 : decode prog_9_method_18_code 30 = .ok (.bipush 12, 2) := by decide +kernel
theorem d_M_waiting_32 : decode prog_9_method_18_code 32 = .ok (.idiv, 1) := by decide +kernel
theorem d_M_waiting_33 : decode prog_9_method_18_code 33 = .ok (.iload 4, 2) := by decide +kernel
theorem d_M_waiting_35 : decode prog_9_method_18_code 35 = .ok (.bipush 12, 2) := by decide +kernel
theorem d_M_waiting_37 : decode prog_9_method_18_code 37 = .ok (.irem, 1) := by decide +kernel
theorem d_M_waiting_38 : decode prog_9_method_18_code 38 = .ok (.invokevirtual 108, 3) := by decide +kernel
theorem d_M_waiting_41 : decode prog_9_method_18_code 41 = .ok (.iload_n 1, 1) := by decide +kernel
theorem d_M_waiting_42 : decode prog_9_method_18_code 42 = .ok (.if_icmp .ne 26, 3) := by decide +kernel
theorem d_M_waiting_45 : decode prog_9_method_18_code 45 = .ok (.aload_n 0, 1) := by decide +kernel
theorem d_M_waiting_46 : decode prog_9_method_18_code 46 = .ok (.iload 4, 2) := by decide +kernel
theorem d_M_waiting_48 : decode prog_9_method_18_code 48 = .ok (.bipush 12, 2) := by decide +kernel
theorem d_M_waiting_50 : decode prog_9_method_18_code 50 = .ok (.idiv, 1) := by decide +kernel
theorem d_M_waiting_51 : decode prog_9_method_18_code 51 = .ok (.iload 4, 2) := by decide +kernel
theorem d_M_waiting_53 : decode prog_9_method_18_code 53 = .ok (.bipush 12, 2) := by decide +kernel
theorem d_M_waiting_55 : decode prog_9_method_18_code 55 = .ok (.irem, 1) := by decide +kernel
theorem d_M_waiting_56 : decode prog_9_method_18_code 56 = .ok (.invokevirtual 132, 3) := by decide +kernel
theorem d_M_waiting_59 : decode prog_9_method_18_code 59 = .ok (.iconst 2, 1) := by decide +kernel
theorem d_M_waiting_60 : decode prog_9_method_18_code 60 = .ok (.irem, 1) := by decide +kernel
theorem d_M_waiting_61 : decode prog_9_method_18_code 61 = .ok (.iload_n 2, 1) := by decide +kernel
theorem d_M_waiting_62 : decode prog_9_method_18_code 62 = .ok (.if_icmp .ne 6, 3) := by decide +kernel
theorem d_M_waiting_65 : decode prog_9_method_18_code 65 = .ok (.iinc 3 1, 3) := by decide +kernel
theorem d_M_waiting_68 : decode prog_9_method_18_code 68 = .ok (.iinc 4 1, 3) := by decide +kernel
theorem d_M_waiting_71 : decode prog_9_method_18_code 71 = .ok (.goto (-66), 3) := by decide +kernel
theorem d_M_waiting_74 : decode prog_9_method_18_code 74 = .ok (.iload_n 3, 1) := by decide +kernel
theorem d_M_waiting_75 : decode prog_9_method_18_code 75 = .ok (.ireturn, 1) := by decide +kernel
theorem d_M_wants_0 : decode prog_9_method_19_code 0 = .ok (.iconst 1, 1) := by decide +kernel
theorem d_M_wants_1 : decode prog_9_method_19_code 1 = .ok (.iload_n 0, 1) := by decide +kernel
theorem d_M_wants_2 : decode prog_9_method_19_code 2 = .ok (.iconst 2, 1) := by decide +kernel
theorem d_M_wants_3 : decode prog_9_method_19_code 3 = .ok (.idiv, 1) := by decide +kernel
theorem d_M_wants_4 : decode prog_9_method_19_code 4 = .ok (.iadd, 1) := by decide +kernel
theorem d_M_wants_5 : decode prog_9_method_19_code 5 = .ok (.ireturn, 1) := by decide +kernel
theorem d_M_add_0 : decode prog_9_method_20_code 0 = .ok (.iload_n 2, 1) := by decide +kernel
theorem d_M_add_1 : decode prog_9_method_20_code 1 = .ok (.istore_n 3, 1) := by decide +kernel
theorem d_M_add_2 : decode prog_9_method_20_code 2 = .ok (.aload_n 0, 1) := by decide +kernel
theorem d_M_add_3 : decode prog_9_method_20_code 3 = .ok (.iconst 3, 1) := by decide +kernel
theorem d_M_add_4 : decode prog_9_method_20_code 4 = .ok (.iload_n 1, 1) := by decide +kernel
theorem d_M_add_5 : decode prog_9_method_20_code 5 = .ok (.invokevirtual 135, 3) := by decide +kernel
theorem d_M_add_8 : decode prog_9_method_20_code 8 = .ok (.istore 4, 2) := by decide +kernel
theorem d_M_add_10 : decode prog_9_method_20_code 10 = .ok (.iload_n 3, 1) := by decide +kernel
theorem d_M_add_11 : decode prog_9_method_20_code 11 = .ok (.ifCond .le 117, 3) := by decide +kernel
theorem d_M_add_14 : decode prog_9_method_20_code 14 = .ok (.iload 4, 2) := by decide +kernel
theorem d_M_add_16 : decode prog_9_method_20_code 16 = .ok (.ifCond .lt 112, 3) := by decide +kernel
theorem d_M_add_19 : decode prog_9_method_20_code 19 = .ok (.aload_n 0, 1) := by decide +kernel
theorem d_M_add_20 : decode prog_9_method_20_code 20 = .ok (.iload 4, 2) := by decide +kernel
theorem d_M_add_22 : decode prog_9_method_20_code 22 = .ok (.bipush 12, 2) := by decide +kernel
theorem d_M_add_24 : decode prog_9_method_20_code 24 = .ok (.idiv, 1) := by decide +kernel
theorem d_M_add_25 : decode prog_9_method_20_code 25 = .ok (.iload 4, 2) := by decide +kernel
theorem d_M_add_27 : decode prog_9_method_20_code 27 = .ok (.bipush 12, 2) := by decide +kernel
theorem d_M_add_29 : decode prog_9_method_20_code 29 = .ok (.irem, 1) := by decide +kernel
theorem d_M_add_30 : decode prog_9_method_20_code 30 = .ok (.invokevirtual 132, 3) := by decide +kernel
theorem d_M_add_33 : decode prog_9_method_20_code 33 = .ok (.invokestatic 138, 3) := by decide +kernel
theorem d_M_add_36 : decode prog_9_method_20_code 36 = .ok (.aload_n 0, 1) := by decide +kernel
theorem d_M_add_37 : decode prog_9_method_20_code 37 = .ok (.getfield 47, 3) := by decide +kernel
theorem d_M_add_40 : decode prog_9_method_20_code 40 = .ok (.iload 4, 2) := by decide +kernel
theorem d_M_add_42 : decode prog_9_method_20_code 42 = .ok (.iaload, 1) := by decide +kernel
theorem d_M_add_43 : decode prog_9_method_20_code 43 = .ok (.isub, 1) := by decide +kernel
theorem d_M_add_44 : decode prog_9_method_20_code 44 = .ok (.istore 5, 2) := by decide +kernel
theorem d_M_add_46 : decode prog_9_method_20_code 46 = .ok (.iload 5, 2) := by decide +kernel
theorem d_M_add_48 : decode prog_9_method_20_code 48 = .ok (.iload_n 3, 1) := by decide +kernel
theorem d_M_add_49 : decode prog_9_method_20_code 49 = .ok (.if_icmp .ge 8, 3) := by decide +kernel
theorem d_M_add_52 : decode prog_9_method_20_code 52 = .ok (.iload 5, 2) := by decide +kernel
theorem d_M_add_54 : decode prog_9_method_20_code 54 = .ok (.goto 4, 3) := by decide +kernel
theorem d_M_add_57 : decode prog_9_method_20_code 57 = .ok (.iload_n 3, 1) := by decide +kernel
theorem d_M_add_58 : decode prog_9_method_20_code 58 = .ok (.istore 6, 2) := by decide +kernel
theorem d_M_add_60 : decode prog_9_method_20_code 60 = .ok (.aload_n 0, 1) := by decide +kernel
theorem d_M_add_61 : decode prog_9_method_20_code 61 = .ok (.getfield 47, 3) := by decide +kernel
theorem d_M_add_64 : decode prog_9_method_20_code 64 = .ok (.iload 4, 2) := by decide +kernel
theorem d_M_add_66 : decode prog_9_method_20_code 66 = .ok (.dup2, 1) := by decide +kernel
theorem d_M_add_67 : decode prog_9_method_20_code 67 = .ok (.iaload, 1) := by decide +kernel
theorem d_M_add_68 : decode prog_9_method_20_code 68 = .ok (.iload 6, 2) := by decide +kernel
theorem d_M_add_70 : decode prog_9_method_20_code 70 = .ok (.iadd, 1) := by decide +kernel
theorem d_M_add_71 : decode prog_9_method_20_code 71 = .ok (.iastore, 1) := by decide +kernel
theorem d_M_add_72 : decode prog_9_method_20_code 72 = .ok (.iload_n 3, 1) := by decide +kernel
theorem d_M_add_73 : decode prog_9_method_20_code 73 = .ok (.iload 6, 2) := by decide +kernel
theorem d_M_add_75 : decode prog_9_method_20_code 75 = .ok (.isub, 1) := by decide +kernel
theorem d_M_add_76 : decode prog_9_method_20_code 76 = .ok (.istore_n 3, 1) := by decide +kernel
theorem d_M_add_77 : decode prog_9_method_20_code 77 = .ok (.iload 6, 2) := by decide +kernel
theorem d_M_add_79 : decode prog_9_method_20_code 79 = .ok (.iload 5, 2) := by decide +kernel
theorem d_M_add_81 : decode prog_9_method_20_code 81 = .ok (.if_icmp .ne 28, 3) := by decide +kernel
theorem d_M_add_84 : decode prog_9_method_20_code 84 = .ok (.aload_n 0, 1) := by decide +kernel
theorem d_M_add_85 : decode prog_9_method_20_code 85 = .ok (.getfield 53, 3) := by decide +kernel
theorem d_M_add_88 : decode prog_9_method_20_code 88 = .ok (.iload 4, 2) := by decide +kernel
theorem d_M_add_90 : decode prog_9_method_20_code 90 = .ok (.iconst 0, 1) := by decide +kernel
theorem d_M_add_91 : decode prog_9_method_20_code 91 = .ok (.bastore, 1) := by decide +kernel
theorem d_M_add_92 : decode prog_9_method_20_code 92 = .ok (.aload_n 0, 1) := by decide +kernel
theorem d_M_add_93 : decode prog_9_method_20_code 93 = .ok (.getfield 56, 3) := by decide +kernel
theorem d_M_add_96 : decode prog_9_method_20_code 96 = .ok (.iload 4, 2) := by decide +kernel
theorem d_M_add_98 : decode prog_9_method_20_code 98 = .ok (.iconst 1, 1) := by decide +kernel
theorem d_M_add_99 : decode prog_9_method_20_code 99 = .ok (.bastore, 1) := by decide +kernel
theorem d_M_add_100 : decode prog_9_method_20_code 100 = .ok (.aload_n 0, 1) := by decide +kernel
theorem d_M_add_101 : decode prog_9_method_20_code 101 = .ok (.iload 4, 2) := by decide +kernel
theorem d_M_add_103 : decode prog_9_method_20_code 103 = .ok (.bipush 12, 2) := by decide +kernel
theorem d_M_add_105 : decode prog_9_method_20_code 105 = .ok (.idiv, 1) := by decide +kernel
theorem d_M_add_106 : decode prog_9_method_20_code 106 = .ok (.invokevirtual 115, 3) := by decide +kernel
theorem d_M_add_109 : decode prog_9_method_20_code 109 = .ok (.iload_n 3, 1) := by decide +kernel
theorem d_M_add_110 : decode prog_9_method_20_code 110 = .ok (.ifCond .le 12, 3) := by decide +kernel
theorem d_M_add_113 : decode prog_9_method_20_code 113 = .ok (.aload_n 0, 1) := by decide +kernel
theorem d_M_add_114 : decode prog_9_method_20_code 114 = .ok (.iconst 3, 1) := by decide +kernel
theorem d_M_add_115 : decode prog_9_method_20_code 115 = .ok (.iload_n 1, 1) := by decide +kernel
theorem d_M_add_116 : decode prog_9_method_20_code 116 = .ok (.invokevirtual 135, 3) := by decide +kernel
theorem d_M_add_119 : decode prog_9_method_20_code 119 = .ok (.goto 4, 3) := by decide +kernel
theorem d_M_add_122 : decode prog_9_method_20_code 122 = .ok (.iconst (-1), 1) := by decide +kernel
theorem d_M_add_123 : decode prog_9_method_20_code 123 = .ok (.istore 4, 2) := by decide +kernel
theorem d_M_add_125 : decode prog_9_method_20_code 125 = .ok (.goto (-115), 3) := by decide +kernel
theorem d_M_add_128 : decode prog_9_method_20_code 128 = .ok (.aload_n 0, 1) := by decide +kernel
theorem d_M_add_129 : decode prog_9_method_20_code 129 = .ok (.getfield 83, 3) := by decide +kernel
theorem d_M_add_132 : decode prog_9_method_20_code 132 = .ok (.iload_n 1, 1) := by decide +kernel
theorem d_M_add_133 : decode prog_9_method_20_code 133 = .ok (.dup2, 1) := by decide +kernel
theorem d_M_add_134 : decode prog_9_method_20_code 134 = .ok (.iaload, 1) := by decide +kernel
theorem d_M_add_135 : decode prog_9_method_20_code 135 = .ok (.iload_n 3, 1) := by decide +kernel
theorem d_M_add_136 : decode prog_9_method_20_code 136 = .ok (.iadd, 1) := by decide +kernel
theorem d_M_add_137 : decode prog_9_method_20_code 137 = .ok (.iastore, 1) := by decide +kernel
theorem d_M_add_138 : decode prog_9_method_20_code 138 = .ok (.return_, 1) := by decide +kernel
theorem d_M_give_0 : decode prog_9_method_21_code 0 = .ok (.aload_n 0, 1) := by decide +kernel
theorem d_M_give_1 : decode prog_9_method_21_code 1 = .ok (.iconst 5, 1) := by decide +kernel
theorem d_M_give_2 : decode prog_9_method_21_code 2 = .ok (.iload_n 1, 1) := by decide +kernel
theorem d_M_give_3 : decode prog_9_method_21_code 3 = .ok (.invokevirtual 135, 3) := by decide +kernel
theorem d_M_give_6 : decode prog_9_method_21_code 6 = .ok (.istore_n 2, 1) := by decide +kernel
theorem d_M_give_7 : decode prog_9_method_21_code 7 = .ok (.iload_n 2, 1) := by decide +kernel
theorem d_M_give_8 : decode prog_9_method_21_code 8 = .ok (.ifCond .ge 13, 3) := by decide +kernel
theorem d_M_give_11 : decode prog_9_method_21_code 11 = .ok (.aload_n 0, 1) := by decide +kernel
theorem d_M_give_12 : decode prog_9_method_21_code 12 = .ok (.getfield 86, 3) := by decide +kernel
theorem d_M_give_15 : decode prog_9_method_21_code 15 = .ok (.iload_n 1, 1) := by decide +kernel
theorem d_M_give_16 : decode prog_9_method_21_code 16 = .ok (.iconst 1, 1) := by decide +kernel
theorem d_M_give_17 : decode prog_9_method_21_code 17 = .ok (.bastore, 1) := by decide +kernel
theorem d_M_give_18 : decode prog_9_method_21_code 18 = .ok (.goto 25, 3) := by decide +kernel
theorem d_M_give_21 : decode prog_9_method_21_code 21 = .ok (.aload_n 0, 1) := by decide +kernel
theorem d_M_give_22 : decode prog_9_method_21_code 22 = .ok (.getfield 53, 3) := by decide +kernel
theorem d_M_give_25 : decode prog_9_method_21_code 25 = .ok (.iload_n 2, 1) := by decide +kernel
theorem d_M_give_26 : decode prog_9_method_21_code 26 = .ok (.iconst 0, 1) := by decide +kernel
theorem d_M_give_27 : decode prog_9_method_21_code 27 = .ok (.bastore, 1) := by decide +kernel
theorem d_M_give_28 : decode prog_9_method_21_code 28 = .ok (.aload_n 0, 1) := by decide +kernel
theorem d_M_give_29 : decode prog_9_method_21_code 29 = .ok (.getfield 56, 3) := by decide +kernel
theorem d_M_give_32 : decode prog_9_method_21_code 32 = .ok (.iload_n 2, 1) := by decide +kernel
theorem d_M_give_33 : decode prog_9_method_21_code 33 = .ok (.iconst 1, 1) := by decide +kernel
theorem d_M_give_34 : decode prog_9_method_21_code 34 = .ok (.bastore, 1) := by decide +kernel
theorem d_M_give_35 : decode prog_9_method_21_code 35 = .ok (.aload_n 0, 1) := by decide +kernel
theorem d_M_give_36 : decode prog_9_method_21_code 36 = .ok (.iload_n 2, 1) := by decide +kernel
theorem d_M_give_37 : decode prog_9_method_21_code 37 = .ok (.bipush 12, 2) := by decide +kernel
theorem d_M_give_39 : decode prog_9_method_21_code 39 = .ok (.idiv, 1) := by decide +kernel
theorem d_M_give_40 : decode prog_9_method_21_code 40 = .ok (.invokevirtual 115, 3) := by decide +kernel
theorem d_M_give_43 : decode prog_9_method_21_code 43 = .ok (.iload_n 2, 1) := by decide +kernel
theorem d_M_give_44 : decode prog_9_method_21_code 44 = .ok (.ifCond .lt 7, 3) := by decide +kernel
theorem d_M_give_47 : decode prog_9_method_21_code 47 = .ok (.iconst 1, 1) := by decide +kernel
theorem d_M_give_48 : decode prog_9_method_21_code 48 = .ok (.goto 4, 3) := by decide +kernel
theorem d_M_give_51 : decode prog_9_method_21_code 51 = .ok (.iconst 0, 1) := by decide +kernel
theorem d_M_give_52 : decode prog_9_method_21_code 52 = .ok (.ireturn, 1) := by decide +kernel
theorem d_M_drop_0 : decode prog_9_method_22_code 0 = .ok (.aload_n 0, 1) := by decide +kernel
theorem d_M_drop_1 : decode prog_9_method_22_code 1 = .ok (.iload_n 1, 1) := by decide +kernel
theorem d_M_drop_2 : decode prog_9_method_22_code 2 = .ok (.iload_n 2, 1) := by decide +kernel
theorem d_M_drop_3 : decode prog_9_method_22_code 3 = .ok (.invokevirtual 141, 3) := by decide +kernel
theorem d_M_drop_6 : decode prog_9_method_22_code 6 = .ok (.istore_n 3, 1) := by decide +kernel
theorem d_M_drop_7 : decode prog_9_method_22_code 7 = .ok (.iload_n 2, 1) := by decide +kernel
theorem d_M_drop_8 : decode prog_9_method_22_code 8 = .ok (.istore 4, 2) := by decide +kernel
theorem d_M_drop_10 : decode prog_9_method_22_code 10 = .ok (.iload 4, 2) := by decide +kernel
theorem d_M_drop_12 : decode prog_9_method_22_code 12 = .ok (.iload_n 3, 1) := by decide +kernel
theorem d_M_drop_13 : decode prog_9_method_22_code 13 = .ok (.if_icmp .ge 164, 3) := by decide +kernel
theorem d_M_drop_16 : decode prog_9_method_22_code 16 = .ok (.bipush 12, 2) := by decide +kernel
theorem d_M_drop_18 : decode prog_9_method_22_code 18 = .ok (.iload_n 1, 1) := by decide +kernel
theorem d_M_drop_19 : decode prog_9_method_22_code 19 = .ok (.imul, 1) := by decide +kernel
theorem d_M_drop_20 : decode prog_9_method_22_code 20 = .ok (.iload 4, 2) := by decide +kernel
theorem d_M_drop_22 : decode prog_9_method_22_code 22 = .ok (.iadd, 1) := by decide +kernel
theorem d_M_drop_23 : decode prog_9_method_22_code 23 = .ok (.istore 5, 2) := by decide +kernel
theorem d_M_drop_25 : decode prog_9_method_22_code 25 = .ok (.aload_n 0, 1) := by decide +kernel
theorem d_M_drop_26 : decode prog_9_method_22_code 26 = .ok (.iload_n 1, 1) := by decide +kernel
theorem d_M_drop_27 : decode prog_9_method_22_code 27 = .ok (.iload 4, 2) := by decide +kernel
theorem d_M_drop_29 : decode prog_9_method_22_code 29 = .ok (.invokevirtual 108, 3) := by decide +kernel
theorem d_M_drop_32 : decode prog_9_method_22_code 32 = .ok (.istore 6, 2) := by decide +kernel
theorem d_M_drop_34 : decode prog_9_method_22_code 34 = .ok (.aload_n 0, 1) := by decide +kernel
theorem d_M_drop_35 : decode prog_9_method_22_code 35 = .ok (.iload_n 1, 1) := by decide +kernel
theorem d_M_drop_36 : decode prog_9_method_22_code 36 = .ok (.iload 4, 2) := by decide +kernel
theorem d_M_drop_38 : decode prog_9_method_22_code 38 = .ok (.invokevirtual 132, 3) := by decide +kernel
theorem d_M_drop_41 : decode prog_9_method_22_code 41 = .ok (.iconst 2, 1) := by decide +kernel
theorem d_M_drop_42 : decode prog_9_method_22_code 42 = .ok (.irem, 1) := by decide +kernel
theorem d_M_drop_43 : decode prog_9_method_22_code 43 = .ok (.istore 7, 2) := by decide +kernel
theorem d_M_drop_45 : decode prog_9_method_22_code 45 = .ok (.aload_n 0, 1) := by decide +kernel
theorem d_M_drop_46 : decode prog_9_method_22_code 46 = .ok (.getfield 41, 3) := by decide +kernel
theorem d_M_drop_49 : decode prog_9_method_22_code 49 = .ok (.iload 5, 2) := by decide +kernel
theorem d_M_drop_51 : decode prog_9_method_22_code 51 = .ok (.iaload, 1) := by decide +kernel
theorem d_M_drop_52 : decode prog_9_method_22_code 52 = .ok (.iconst 1, 1) := by decide +kernel
theorem d_M_drop_53 : decode prog_9_method_22_code 53 = .ok (.if_icmp .eq 6, 3) := by decide +kernel
theorem d_M_drop_56 : decode prog_9_method_22_code 56 = .ok (.goto 115, 3) := by decide +kernel
theorem d_M_drop_59 : decode prog_9_method_22_code 59 = .ok (.aload_n 0, 1) := by decide +kernel
theorem d_M_drop_60 : decode prog_9_method_22_code 60 = .ok (.getfield 41, 3) := by decide +kernel
theorem d_M_drop_63 : decode prog_9_method_22_code 63 = .ok (.iload 5, 2) := by decide +kernel
theorem d_M_drop_65 : decode prog_9_method_22_code 65 = .ok (.iconst 4, 1) := by decide +kernel
theorem d_M_drop_66 : decode prog_9_method_22_code 66 = .ok (.iastore, 1) := by decide +kernel
theorem d_M_drop_67 : decode prog_9_method_22_code 67 = .ok (.aload_n 0, 1) := by decide +kernel
theorem d_M_drop_68 : decode prog_9_method_22_code 68 = .ok (.getfield 56, 3) := by decide +kernel
theorem d_M_drop_71 : decode prog_9_method_22_code 71 = .ok (.iload 5, 2) := by decide +kernel
theorem d_M_drop_73 : decode prog_9_method_22_code 73 = .ok (.baload, 1) := by decide +kernel
theorem d_M_drop_74 : decode prog_9_method_22_code 74 = .ok (.ifCond .ne 19, 3) := by decide +kernel
theorem d_M_drop_77 : decode prog_9_method_22_code 77 = .ok (.aload_n 0, 1) := by decide +kernel
theorem d_M_drop_78 : decode prog_9_method_22_code 78 = .ok (.getfield 53, 3) := by decide +kernel
theorem d_M_drop_81 : decode prog_9_method_22_code 81 = .ok (.iload 5, 2) := by decide +kernel
theorem d_M_drop_83 : decode prog_9_method_22_code 83 = .ok (.baload, 1) := by decide +kernel
theorem d_M_drop_84 : decode prog_9_method_22_code 84 = .ok (.ifCond .eq 13, 3) := by decide +kernel
theorem d_M_drop_87 : decode prog_9_method_22_code 87 = .ok (.iload 6, 2) := by decide +kernel
theorem d_M_drop_89 : decode prog_9_method_22_code 89 = .ok (.iconst 3, 1) := by decide +kernel
theorem d_M_drop_90 : decode prog_9_method_22_code 90 = .ok (.if_icmp .ne 7, 3) := by decide +kernel
theorem d_M_drop_93 : decode prog_9_method_22_code 93 = .ok (.iconst 1, 1) := by decide +kernel
theorem d_M_drop_94 : decode prog_9_method_22_code 94 = .ok (.goto 4, 3) := by decide +kernel
theorem d_M_drop_97 : decode prog_9_method_22_code 97 = .ok (.iconst 0, 1) := by decide +kernel
theorem d_M_drop_98 : decode prog_9_method_22_code 98 = .ok (.istore 8, 2) := by decide +kernel
theorem d_M_drop_100 : decode prog_9_method_22_code 100 = .ok (.aload_n 0, 1) := by decide +kernel
theorem d_M_drop_101 : decode prog_9_method_22_code 101 = .ok (.getfield 47, 3) := by decide +kernel
theorem d_M_drop_104 : decode prog_9_method_22_code 104 = .ok (.iload 5, 2) := by decide +kernel
theorem d_M_drop_106 : decode prog_9_method_22_code 106 = .ok (.iaload, 1) := by decide +kernel
theorem d_M_drop_107 : decode prog_9_method_22_code 107 = .ok (.istore 9, 2) := by decide +kernel
theorem d_M_drop_109 : decode prog_9_method_22_code 109 = .ok (.aload_n 0, 1) := by decide +kernel
theorem d_M_drop_110 : decode prog_9_method_22_code 110 = .ok (.getfield 56, 3) := by decide +kernel
theorem d_M_drop_113 : decode prog_9_method_22_code 113 = .ok (.iload 5, 2) := by decide +kernel
theorem d_M_drop_115 : decode prog_9_method_22_code 115 = .ok (.baload, 1) := by decide +kernel
theorem d_M_drop_116 : decode prog_9_method_22_code 116 = .ok (.istore 10, 2) := by decide +kernel
theorem d_M_drop_118 : decode prog_9_method_22_code 118 = .ok (.aload_n 0, 1) := by decide +kernel
theorem d_M_drop_119 : decode prog_9_method_22_code 119 = .ok (.getfield 56, 3) := by decide +kernel
theorem d_M_drop_122 : decode prog_9_method_22_code 122 = .ok (.iload 5, 2) := by decide +kernel
theorem d_M_drop_124 : decode prog_9_method_22_code 124 = .ok (.iconst 0, 1) := by decide +kernel
theorem d_M_drop_125 : decode prog_9_method_22_code 125 = .ok (.bastore, 1) := by decide +kernel
theorem d_M_drop_126 : decode prog_9_method_22_code 126 = .ok (.aload_n 0, 1) := by decide +kernel
theorem d_M_drop_127 : decode prog_9_method_22_code 127 = .ok (.getfield 53, 3) := by decide +kernel
theorem d_M_drop_130 : decode prog_9_method_22_code 130 = .ok (.iload 5, 2) := by decide +kernel
theorem d_M_drop_132 : decode prog_9_method_22_code 132 = .ok (.iconst 0, 1) := by decide +kernel
theorem d_M_drop_133 : decode prog_9_method_22_code 133 = .ok (.bastore, 1) := by decide +kernel
theorem d_M_drop_134 : decode prog_9_method_22_code 134 = .ok (.iload 6, 2) := by decide +kernel
theorem d_M_drop_136 : decode prog_9_method_22_code 136 = .ok (.iconst 3, 1) := by decide +kernel
theorem d_M_drop_137 : decode prog_9_method_22_code 137 = .ok (.if_icmp .ne 16, 3) := by decide +kernel
theorem d_M_drop_140 : decode prog_9_method_22_code 140 = .ok (.iload 8, 2) := by decide +kernel
theorem d_M_drop_142 : decode prog_9_method_22_code 142 = .ok (.ifCond .eq 11, 3) := by decide +kernel
theorem d_M_drop_145 : decode prog_9_method_22_code 145 = .ok (.aload_n 0, 1) := by decide +kernel
theorem d_M_drop_146 : decode prog_9_method_22_code 146 = .ok (.iload 7, 2) := by decide +kernel
theorem d_M_drop_148 : decode prog_9_method_22_code 148 = .ok (.iload 9, 2) := by decide +kernel
theorem d_M_drop_150 : decode prog_9_method_22_code 150 = .ok (.invokevirtual 144, 3) := by decide +kernel
theorem d_M_drop_153 : decode prog_9_method_22_code 153 = .ok (.iload 6, 2) := by decide +kernel
theorem d_M_drop_155 : decode prog_9_method_22_code 155 = .ok (.iconst 5, 1) := by decide +kernel
theorem d_M_drop_156 : decode prog_9_method_22_code 156 = .ok (.if_icmp .ne 15, 3) := by decide +kernel
theorem d_M_drop_159 : decode prog_9_method_22_code 159 = .ok (.iload 10, 2) := by decide +kernel
theorem d_M_drop_161 : decode prog_9_method_22_code 161 = .ok (.ifCond .eq 10, 3) := by decide +kernel
theorem d_M_drop_164 : decode prog_9_method_22_code 164 = .ok (.aload_n 0, 1) := by decide +kernel
theorem d_M_drop_165 : decode prog_9_method_22_code 165 = .ok (.iload 7, 2) := by decide +kernel
theorem d_M_drop_167 : decode prog_9_method_22_code 167 = .ok (.invokevirtual 147, 3) := by decide +kernel
theorem d_M_drop_170 : decode prog_9_method_22_code 170 = .ok (.pop, 1) := by decide +kernel
theorem d_M_drop_171 : decode prog_9_method_22_code 171 = .ok (.iinc 4 1, 3) := by decide +kernel
theorem d_M_drop_174 : decode prog_9_method_22_code 174 = .ok (.goto (-164), 3) := by decide +kernel
theorem d_M_drop_177 : decode prog_9_method_22_code 177 = .ok (.return_, 1) := by decide +kernel
theorem d_M_ready_0 : decode prog_9_method_23_code 0 = .ok (.aload_n 0, 1) := by decide +kernel
theorem d_M_ready_1 : decode prog_9_method_23_code 1 = .ok (.getfield 41, 3) := by decide +kernel
theorem d_M_ready_4 : decode prog_9_method_23_code 4 = .ok (.iload_n 1, 1) := by decide +kernel
theorem d_M_ready_5 : decode prog_9_method_23_code 5 = .ok (.iconst 2, 1) := by decide +kernel
theorem d_M_ready_6 : decode prog_9_method_23_code 6 = .ok (.iastore, 1) := by decide +kernel
theorem d_M_ready_7 : decode prog_9_method_23_code 7 = .ok (.aload_n 0, 1) := by decide +kernel
theorem d_M_ready_8 : decode prog_9_method_23_code 8 = .ok (.getfield 44, 3) := by decide +kernel
theorem d_M_ready_11 : decode prog_9_method_23_code 11 = .ok (.iload_n 1, 1) := by decide +kernel
theorem d_M_ready_12 : decode prog_9_method_23_code 12 = .ok (.iload_n 2, 1) := by decide +kernel
theorem d_M_ready_13 : decode prog_9_method_23_code 13 = .ok (.iastore, 1) := by decide +kernel
theorem d_M_ready_14 : decode prog_9_method_23_code 14 = .ok (.aload_n 0, 1) := by decide +kernel
theorem d_M_ready_15 : decode prog_9_method_23_code 15 = .ok (.iconst 2, 1) := by decide +kernel
theorem d_M_ready_16 : decode prog_9_method_23_code 16 = .ok (.putfield 151, 3) := by decide +kernel
theorem d_M_ready_19 : decode prog_9_method_23_code 19 = .ok (.return_, 1) := by decide +kernel
theorem d_M_broken_0 : decode prog_9_method_24_code 0 = .ok (.aload_n 0, 1) := by decide +kernel
theorem d_M_broken_1 : decode prog_9_method_24_code 1 = .ok (.getfield 41, 3) := by decide +kernel
theorem d_M_broken_4 : decode prog_9_method_24_code 4 = .ok (.iload_n 1, 1) := by decide +kernel
theorem d_M_broken_5 : decode prog_9_method_24_code 5 = .ok (.iconst 3, 1) := by decide +kernel
theorem d_M_broken_6 : decode prog_9_method_24_code 6 = .ok (.iastore, 1) := by decide +kernel
theorem d_M_broken_7 : decode prog_9_method_24_code 7 = .ok (.aload_n 0, 1) := by decide +kernel
theorem d_M_broken_8 : decode prog_9_method_24_code 8 = .ok (.getfield 44, 3) := by decide +kernel
theorem d_M_broken_11 : decode prog_9_method_24_code 11 = .ok (.iload_n 1, 1) := by decide +kernel
theorem d_M_broken_12 : decode prog_9_method_24_code 12 = .ok (.iload_n 2, 1) := by decide +kernel
theorem d_M_broken_13 : decode prog_9_method_24_code 13 = .ok (.iastore, 1) := by decide +kernel
theorem d_M_broken_14 : decode prog_9_method_24_code 14 = .ok (.aload_n 0, 1) := by decide +kernel
theorem d_M_broken_15 : decode prog_9_method_24_code 15 = .ok (.iconst 3, 1) := by decide +kernel
theorem d_M_broken_16 : decode prog_9_method_24_code 16 = .ok (.putfield 151, 3) := by decide +kernel
theorem d_M_broken_19 : decode prog_9_method_24_code 19 = .ok (.return_, 1) := by decide +kernel
theorem d_M_pending_0 : decode prog_9_method_25_code 0 = .ok (.aload_n 0, 1) := by decide +kernel
theorem d_M_pending_1 : decode prog_9_method_25_code 1 = .ok (.getfield 41, 3) := by decide +kernel
theorem d_M_pending_4 : decode prog_9_method_25_code 4 = .ok (.iload_n 1, 1) := by decide +kernel
theorem d_M_pending_5 : decode prog_9_method_25_code 5 = .ok (.iconst 1, 1) := by decide +kernel
theorem d_M_pending_6 : decode prog_9_method_25_code 6 = .ok (.iastore, 1) := by decide +kernel
theorem d_M_pending_7 : decode prog_9_method_25_code 7 = .ok (.aload_n 0, 1) := by decide +kernel
theorem d_M_pending_8 : decode prog_9_method_25_code 8 = .ok (.iconst 1, 1) := by decide +kernel
theorem d_M_pending_9 : decode prog_9_method_25_code 9 = .ok (.putfield 151, 3) := by decide +kernel
theorem d_M_pending_12 : decode prog_9_method_25_code 12 = .ok (.return_, 1) := by decide +kernel
theorem d_M_spends_0 : decode prog_9_method_26_code 0 = .ok (.aload_n 0, 1) := by decide +kernel
theorem d_M_spends_1 : decode prog_9_method_26_code 1 = .ok (.getfield 31, 3) := by decide +kernel
theorem d_M_spends_4 : decode prog_9_method_26_code 4 = .ok (.iload_n 1, 1) := by decide +kernel
theorem d_M_spends_5 : decode prog_9_method_26_code 5 = .ok (.iaload, 1) := by decide +kernel
theorem d_M_spends_6 : decode prog_9_method_26_code 6 = .ok (.ifCond .le 15, 3) := by decide +kernel
theorem d_M_spends_9 : decode prog_9_method_26_code 9 = .ok (.aload_n 0, 1) := by decide +kernel
theorem d_M_spends_10 : decode prog_9_method_26_code 10 = .ok (.getfield 31, 3) := by decide +kernel
theorem d_M_spends_13 : decode prog_9_method_26_code 13 = .ok (.iload_n 1, 1) := by decide +kernel
theorem d_M_spends_14 : decode prog_9_method_26_code 14 = .ok (.dup2, 1) := by decide +kernel
theorem d_M_spends_15 : decode prog_9_method_26_code 15 = .ok (.iaload, 1) := by decide +kernel
theorem d_M_spends_16 : decode prog_9_method_26_code 16 = .ok (.iconst 1, 1) := by decide +kernel
theorem d_M_spends_17 : decode prog_9_method_26_code 17 = .ok (.isub, 1) := by decide +kernel
theorem d_M_spends_18 : decode prog_9_method_26_code 18 = .ok (.iastore, 1) := by decide +kernel
theorem d_M_spends_19 : decode prog_9_method_26_code 19 = .ok (.iconst 1, 1) := by decide +kernel
theorem d_M_spends_20 : decode prog_9_method_26_code 20 = .ok (.ireturn, 1) := by decide +kernel
theorem d_M_spends_21 : decode prog_9_method_26_code 21 = .ok (.aload_n 0, 1) := by decide +kernel
theorem d_M_spends_22 : decode prog_9_method_26_code 22 = .ok (.iload_n 1, 1) := by decide +kernel
theorem d_M_spends_23 : decode prog_9_method_26_code 23 = .ok (.invokevirtual 115, 3) := by decide +kernel
theorem d_M_spends_26 : decode prog_9_method_26_code 26 = .ok (.iconst 0, 1) := by decide +kernel
theorem d_M_spends_27 : decode prog_9_method_26_code 27 = .ok (.ireturn, 1) := by decide +kernel
theorem d_M_poll_0 : decode prog_9_method_27_code 0 = .ok (.iconst 0, 1) := by decide +kernel
theorem d_M_poll_1 : decode prog_9_method_27_code 1 = .ok (.istore_n 2, 1) := by decide +kernel
theorem d_M_poll_2 : decode prog_9_method_27_code 2 = .ok (.aload_n 0, 1) := by decide +kernel
theorem d_M_poll_3 : decode prog_9_method_27_code 3 = .ok (.getfield 59, 3) := by decide +kernel
theorem d_M_poll_6 : decode prog_9_method_27_code 6 = .ok (.iconst 0, 1) := by decide +kernel
theorem d_M_poll_7 : decode prog_9_method_27_code 7 = .ok (.iconst 0, 1) := by decide +kernel
theorem d_M_poll_8 : decode prog_9_method_27_code 8 = .ok (.iastore, 1) := by decide +kernel
theorem d_M_poll_9 : decode prog_9_method_27_code 9 = .ok (.aload_n 0, 1) := by decide +kernel
theorem d_M_poll_10 : decode prog_9_method_27_code 10 = .ok (.getfield 62, 3) := by decide +kernel
theorem d_M_poll_13 : decode prog_9_method_27_code 13 = .ok (.iconst 0, 1) := by decide +kernel
theorem d_M_poll_14 : decode prog_9_method_27_code 14 = .ok (.iconst 0, 1) := by decide +kernel
theorem d_M_poll_15 : decode prog_9_method_27_code 15 = .ok (.iastore, 1) := by decide +kernel
theorem d_M_poll_16 : decode prog_9_method_27_code 16 = .ok (.iload_n 2, 1) := by decide +kernel
theorem d_M_poll_17 : decode prog_9_method_27_code 17 = .ok (.ifCond .lt 121, 3) := by decide +kernel
theorem d_M_poll_20 : decode prog_9_method_27_code 20 = .ok (.aload_n 0, 1) := by decide +kernel
theorem d_M_poll_21 : decode prog_9_method_27_code 21 = .ok (.getfield 59, 3) := by decide +kernel
theorem d_M_poll_24 : decode prog_9_method_27_code 24 = .ok (.iload_n 2, 1) := by decide +kernel
theorem d_M_poll_25 : decode prog_9_method_27_code 25 = .ok (.iaload, 1) := by decide +kernel
theorem d_M_poll_26 : decode prog_9_method_27_code 26 = .ok (.istore_n 3, 1) := by decide +kernel
theorem d_M_poll_27 : decode prog_9_method_27_code 27 = .ok (.bipush 12, 2) := by decide +kernel
theorem d_M_poll_29 : decode prog_9_method_27_code 29 = .ok (.iload_n 1, 1) := by decide +kernel
theorem d_M_poll_30 : decode prog_9_method_27_code 30 = .ok (.imul, 1) := by decide +kernel
theorem d_M_poll_31 : decode prog_9_method_27_code 31 = .ok (.iload_n 3, 1) := by decide +kernel
theorem d_M_poll_32 : decode prog_9_method_27_code 32 = .ok (.iadd, 1) := by decide +kernel
theorem d_M_poll_33 : decode prog_9_method_27_code 33 = .ok (.istore 4, 2) := by decide +kernel
theorem d_M_poll_35 : decode prog_9_method_27_code 35 = .ok (.iconst (-1), 1) := by decide +kernel
theorem d_M_poll_36 : decode prog_9_method_27_code 36 = .ok (.istore 5, 2) := by decide +kernel
theorem d_M_poll_38 : decode prog_9_method_27_code 38 = .ok (.aload_n 0, 1) := by decide +kernel
theorem d_M_poll_39 : decode prog_9_method_27_code 39 = .ok (.iload_n 1, 1) := by decide +kernel
theorem d_M_poll_40 : decode prog_9_method_27_code 40 = .ok (.iload_n 3, 1) := by decide +kernel
theorem d_M_poll_41 : decode prog_9_method_27_code 41 = .ok (.invokevirtual 108, 3) := by decide +kernel
theorem d_M_poll_44 : decode prog_9_method_27_code 44 = .ok (.invokestatic 101, 3) := by decide +kernel
theorem d_M_poll_47 : decode prog_9_method_27_code 47 = .ok (.ifCond .ne 14, 3) := by decide +kernel
theorem d_M_poll_50 : decode prog_9_method_27_code 50 = .ok (.aload_n 0, 1) := by decide +kernel
theorem d_M_poll_51 : decode prog_9_method_27_code 51 = .ok (.iload_n 1, 1) := by decide +kernel
theorem d_M_poll_52 : decode prog_9_method_27_code 52 = .ok (.iload_n 3, 1) := by decide +kernel
theorem d_M_poll_53 : decode prog_9_method_27_code 53 = .ok (.iload 4, 2) := by decide +kernel
theorem d_M_poll_55 : decode prog_9_method_27_code 55 = .ok (.invokevirtual 154, 3) := by decide +kernel
theorem d_M_poll_58 : decode prog_9_method_27_code 58 = .ok (.goto 24, 3) := by decide +kernel
theorem d_M_poll_61 : decode prog_9_method_27_code 61 = .ok (.aload_n 0, 1) := by decide +kernel
theorem d_M_poll_62 : decode prog_9_method_27_code 62 = .ok (.iload_n 1, 1) := by decide +kernel
theorem d_M_poll_63 : decode prog_9_method_27_code 63 = .ok (.iload_n 3, 1) := by decide +kernel
theorem d_M_poll_64 : decode prog_9_method_27_code 64 = .ok (.iload 4, 2) := by decide +kernel
theorem d_M_poll_66 : decode prog_9_method_27_code 66 = .ok (.aload_n 0, 1) := by decide +kernel
theorem d_M_poll_67 : decode prog_9_method_27_code 67 = .ok (.getfield 62, 3) := by decide +kernel
theorem d_M_poll_70 : decode prog_9_method_27_code 70 = .ok (.iload_n 2, 1) := by decide +kernel
theorem d_M_poll_71 : decode prog_9_method_27_code 71 = .ok (.dup2, 1) := by decide +kernel
theorem d_M_poll_72 : decode prog_9_method_27_code 72 = .ok (.iaload, 1) := by decide +kernel
theorem d_M_poll_73 : decode prog_9_method_27_code 73 = .ok (.dup_x2, 1) := by decide +kernel
theorem d_M_poll_74 : decode prog_9_method_27_code 74 = .ok (.iconst 1, 1) := by decide +kernel
theorem d_M_poll_75 : decode prog_9_method_27_code 75 = .ok (.iadd, 1) := by decide +kernel
theorem d_M_poll_76 : decode prog_9_method_27_code 76 = .ok (.iastore, 1) := by decide +kernel
theorem d_M_poll_77 : decode prog_9_method_27_code 77 = .ok (.invokevirtual 158, 3) := by decide +kernel
theorem d_M_poll_80 : decode prog_9_method_27_code 80 = .ok (.istore 5, 2) := by decide +kernel
theorem d_M_poll_82 : decode prog_9_method_27_code 82 = .ok (.iload 5, 2) := by decide +kernel
theorem d_M_poll_84 : decode prog_9_method_27_code 84 = .ok (.ifCond .ge 9, 3) := by decide +kernel
theorem d_M_poll_87 : decode prog_9_method_27_code 87 = .ok (.iinc 2 (-1), 3) := by decide +kernel
theorem d_M_poll_90 : decode prog_9_method_27_code 90 = .ok (.goto 45, 3) := by decide +kernel
theorem d_M_poll_93 : decode prog_9_method_27_code 93 = .ok (.aload_n 0, 1) := by decide +kernel
theorem d_M_poll_94 : decode prog_9_method_27_code 94 = .ok (.getfield 41, 3) := by decide +kernel
theorem d_M_poll_97 : decode prog_9_method_27_code 97 = .ok (.bipush 12, 2) := by decide +kernel
theorem d_M_poll_99 : decode prog_9_method_27_code 99 = .ok (.iload_n 1, 1) := by decide +kernel
theorem d_M_poll_100 : decode prog_9_method_27_code 100 = .ok (.imul, 1) := by decide +kernel
theorem d_M_poll_101 : decode prog_9_method_27_code 101 = .ok (.iload 5, 2) := by decide +kernel
theorem d_M_poll_103 : decode prog_9_method_27_code 103 = .ok (.iadd, 1) := by decide +kernel
theorem d_M_poll_104 : decode prog_9_method_27_code 104 = .ok (.iaload, 1) := by decide +kernel
theorem d_M_poll_105 : decode prog_9_method_27_code 105 = .ok (.iconst 2, 1) := by decide +kernel
theorem d_M_poll_106 : decode prog_9_method_27_code 106 = .ok (.if_icmp .ne 11, 3) := by decide +kernel
theorem d_M_poll_109 : decode prog_9_method_27_code 109 = .ok (.aload_n 0, 1) := by decide +kernel
theorem d_M_poll_110 : decode prog_9_method_27_code 110 = .ok (.iconst 2, 1) := by decide +kernel
theorem d_M_poll_111 : decode prog_9_method_27_code 111 = .ok (.putfield 151, 3) := by decide +kernel
theorem d_M_poll_114 : decode prog_9_method_27_code 114 = .ok (.goto 21, 3) := by decide +kernel
theorem d_M_poll_117 : decode prog_9_method_27_code 117 = .ok (.iinc 2 1, 3) := by decide +kernel
theorem d_M_poll_120 : decode prog_9_method_27_code 120 = .ok (.aload_n 0, 1) := by decide +kernel
theorem d_M_poll_121 : decode prog_9_method_27_code 121 = .ok (.getfield 59, 3) := by decide +kernel
theorem d_M_poll_124 : decode prog_9_method_27_code 124 = .ok (.iload_n 2, 1) := by decide +kernel
theorem d_M_poll_125 : decode prog_9_method_27_code 125 = .ok (.iload 5, 2) := by decide +kernel
theorem d_M_poll_127 : decode prog_9_method_27_code 127 = .ok (.iastore, 1) := by decide +kernel
theorem d_M_poll_128 : decode prog_9_method_27_code 128 = .ok (.aload_n 0, 1) := by decide +kernel
theorem d_M_poll_129 : decode prog_9_method_27_code 129 = .ok (.getfield 62, 3) := by decide +kernel
theorem d_M_poll_132 : decode prog_9_method_27_code 132 = .ok (.iload_n 2, 1) := by decide +kernel
theorem d_M_poll_133 : decode prog_9_method_27_code 133 = .ok (.iconst 0, 1) := by decide +kernel
theorem d_M_poll_134 : decode prog_9_method_27_code 134 = .ok (.iastore, 1) := by decide +kernel
theorem d_M_poll_135 : decode prog_9_method_27_code 135 = .ok (.goto (-119), 3) := by decide +kernel
theorem d_M_poll_138 : decode prog_9_method_27_code 138 = .ok (.return_, 1) := by decide +kernel
theorem d_M_step_0 : decode prog_9_method_28_code 0 = .ok (.aload_n 0, 1) := by decide +kernel
theorem d_M_step_1 : decode prog_9_method_28_code 1 = .ok (.iload_n 1, 1) := by decide +kernel
theorem d_M_step_2 : decode prog_9_method_28_code 2 = .ok (.iload_n 2, 1) := by decide +kernel
theorem d_M_step_3 : decode prog_9_method_28_code 3 = .ok (.invokevirtual 108, 3) := by decide +kernel
theorem d_M_step_6 : decode prog_9_method_28_code 6 = .ok (.istore 5, 2) := by decide +kernel
theorem d_M_step_8 : decode prog_9_method_28_code 8 = .ok (.aload_n 0, 1) := by decide +kernel
theorem d_M_step_9 : decode prog_9_method_28_code 9 = .ok (.iload_n 1, 1) := by decide +kernel
theorem d_M_step_10 : decode prog_9_method_28_code 10 = .ok (.iload_n 2, 1) := by decide +kernel
theorem d_M_step_11 : decode prog_9_method_28_code 11 = .ok (.invokevirtual 132, 3) := by decide +kernel
theorem d_M_step_14 : decode prog_9_method_28_code 14 = .ok (.istore 6, 2) := by decide +kernel
theorem d_M_step_16 : decode prog_9_method_28_code 16 = .ok (.iload_n 2, 1) := by decide +kernel
theorem d_M_step_17 : decode prog_9_method_28_code 17 = .ok (.iconst 1, 1) := by decide +kernel
theorem d_M_step_18 : decode prog_9_method_28_code 18 = .ok (.iadd, 1) := by decide +kernel
theorem d_M_step_19 : decode prog_9_method_28_code 19 = .ok (.istore 7, 2) := by decide +kernel
theorem d_M_step_21 : decode prog_9_method_28_code 21 = .ok (.iload 5, 2) := by decide +kernel
theorem d_M_step_23 : decode prog_9_method_28_code 23 = .ok (.invokestatic 101, 3) := by decide +kernel
theorem d_M_step_26 : decode prog_9_method_28_code 26 = .ok (.iconst 2, 1) := by decide +kernel
theorem d_M_step_27 : decode prog_9_method_28_code 27 = .ok (.if_icmp .ne 13, 3) := by decide +kernel
theorem d_M_step_30 : decode prog_9_method_28_code 30 = .ok (.aload_n 0, 1) := by decide +kernel
theorem d_M_step_31 : decode prog_9_method_28_code 31 = .ok (.iload_n 1, 1) := by decide +kernel
theorem d_M_step_32 : decode prog_9_method_28_code 32 = .ok (.iload 7, 2) := by decide +kernel
theorem d_M_step_34 : decode prog_9_method_28_code 34 = .ok (.invokevirtual 141, 3) := by decide +kernel
theorem d_M_step_37 : decode prog_9_method_28_code 37 = .ok (.goto 4, 3) := by decide +kernel
theorem d_M_step_40 : decode prog_9_method_28_code 40 = .ok (.iconst (-1), 1) := by decide +kernel
theorem d_M_step_41 : decode prog_9_method_28_code 41 = .ok (.istore 8, 2) := by decide +kernel
theorem d_M_step_43 : decode prog_9_method_28_code 43 = .ok (.bipush 12, 2) := by decide +kernel
theorem d_M_step_45 : decode prog_9_method_28_code 45 = .ok (.iload_n 1, 1) := by decide +kernel
theorem d_M_step_46 : decode prog_9_method_28_code 46 = .ok (.imul, 1) := by decide +kernel
theorem d_M_step_47 : decode prog_9_method_28_code 47 = .ok (.iload 7, 2) := by decide +kernel
theorem d_M_step_49 : decode prog_9_method_28_code 49 = .ok (.iadd, 1) := by decide +kernel
theorem d_M_step_50 : decode prog_9_method_28_code 50 = .ok (.istore 9, 2) := by decide +kernel
theorem d_M_step_52 : decode prog_9_method_28_code 52 = .ok (.bipush 12, 2) := by decide +kernel
theorem d_M_step_54 : decode prog_9_method_28_code 54 = .ok (.iload_n 1, 1) := by decide +kernel
theorem d_M_step_55 : decode prog_9_method_28_code 55 = .ok (.imul, 1) := by decide +kernel
theorem d_M_step_56 : decode prog_9_method_28_code 56 = .ok (.iload 8, 2) := by decide +kernel
theorem d_M_step_58 : decode prog_9_method_28_code 58 = .ok (.iadd, 1) := by decide +kernel
theorem d_M_step_59 : decode prog_9_method_28_code 59 = .ok (.istore 10, 2) := by decide +kernel
theorem d_M_step_61 : decode prog_9_method_28_code 61 = .ok (.iload 4, 2) := by decide +kernel
theorem d_M_step_63 : decode prog_9_method_28_code 63 = .ok (.ifCond .ne 42, 3) := by decide +kernel
theorem d_M_step_66 : decode prog_9_method_28_code 66 = .ok (.aload_n 0, 1) := by decide +kernel
theorem d_M_step_67 : decode prog_9_method_28_code 67 = .ok (.getfield 41, 3) := by decide +kernel
theorem d_M_step_70 : decode prog_9_method_28_code 70 = .ok (.iload_n 3, 1) := by decide +kernel
theorem d_M_step_71 : decode prog_9_method_28_code 71 = .ok (.iaload, 1) := by decide +kernel
theorem d_M_step_72 : decode prog_9_method_28_code 72 = .ok (.ifCond .ne 23, 3) := by decide +kernel
theorem d_M_step_75 : decode prog_9_method_28_code 75 = .ok (.iload 5, 2) := by decide +kernel
theorem d_M_step_77 : decode prog_9_method_28_code 77 = .ok (.bipush 13, 2) := by decide +kernel
theorem d_M_step_79 : decode prog_9_method_28_code 79 = .ok (.if_icmp .ne 16, 3) := by decide +kernel
theorem d_M_step_82 : decode prog_9_method_28_code 82 = .ok (.aload_n 0, 1) := by decide +kernel
theorem d_M_step_83 : decode prog_9_method_28_code 83 = .ok (.getfield 47, 3) := by decide +kernel
theorem d_M_step_86 : decode prog_9_method_28_code 86 = .ok (.iload_n 3, 1) := by decide +kernel
theorem d_M_step_87 : decode prog_9_method_28_code 87 = .ok (.aload_n 0, 1) := by decide +kernel
theorem d_M_step_88 : decode prog_9_method_28_code 88 = .ok (.getfield 162, 3) := by decide +kernel
theorem d_M_step_91 : decode prog_9_method_28_code 91 = .ok (.iload 6, 2) := by decide +kernel
theorem d_M_step_93 : decode prog_9_method_28_code 93 = .ok (.iadd, 1) := by decide +kernel
theorem d_M_step_94 : decode prog_9_method_28_code 94 = .ok (.iastore, 1) := by decide +kernel
theorem d_M_step_95 : decode prog_9_method_28_code 95 = .ok (.aload_n 0, 1) := by decide +kernel
theorem d_M_step_96 : decode prog_9_method_28_code 96 = .ok (.getfield 41, 3) := by decide +kernel
theorem d_M_step_99 : decode prog_9_method_28_code 99 = .ok (.iload_n 3, 1) := by decide +kernel
theorem d_M_step_100 : decode prog_9_method_28_code 100 = .ok (.iconst 1, 1) := by decide +kernel
theorem d_M_step_101 : decode prog_9_method_28_code 101 = .ok (.iastore, 1) := by decide +kernel
theorem d_M_step_102 : decode prog_9_method_28_code 102 = .ok (.iload 7, 2) := by decide +kernel
theorem d_M_step_104 : decode prog_9_method_28_code 104 = .ok (.ireturn, 1) := by decide +kernel
theorem d_M_step_105 : decode prog_9_method_28_code 105 = .ok (.iload 4, 2) := by decide +kernel
theorem d_M_step_107 : decode prog_9_method_28_code 107 = .ok (.iconst 2, 1) := by decide +kernel
theorem d_M_step_108 : decode prog_9_method_28_code 108 = .ok (.if_icmp .ne 137, 3) := by decide +kernel
theorem d_M_step_111 : decode prog_9_method_28_code 111 = .ok (.aload_n 0, 1) := by decide +kernel
theorem d_M_step_112 : decode prog_9_method_28_code 112 = .ok (.getfield 151, 3) := by decide +kernel
theorem d_M_step_115 : decode prog_9_method_28_code 115 = .ok (.iconst 3, 1) := by decide +kernel
theorem d_M_step_116 : decode prog_9_method_28_code 116 = .ok (.if_icmp .ne 30, 3) := by decide +kernel
theorem d_M_step_119 : decode prog_9_method_28_code 119 = .ok (.aload_n 0, 1) := by decide +kernel
theorem d_M_step_120 : decode prog_9_method_28_code 120 = .ok (.iload_n 3, 1) := by decide +kernel
theorem d_M_step_121 : decode prog_9_method_28_code 121 = .ok (.aload_n 0, 1) := by decide +kernel
theorem d_M_step_122 : decode prog_9_method_28_code 122 = .ok (.getfield 44, 3) := by decide +kernel
theorem d_M_step_125 : decode prog_9_method_28_code 125 = .ok (.iload 10, 2) := by decide +kernel
theorem d_M_step_127 : decode prog_9_method_28_code 127 = .ok (.iaload, 1) := by decide +kernel
theorem d_M_step_128 : decode prog_9_method_28_code 128 = .ok (.invokevirtual 165, 3) := by decide +kernel
theorem d_M_step_131 : decode prog_9_method_28_code 131 = .ok (.aload_n 0, 1) := by decide +kernel
theorem d_M_step_132 : decode prog_9_method_28_code 132 = .ok (.iload_n 1, 1) := by decide +kernel
theorem d_M_step_133 : decode prog_9_method_28_code 133 = .ok (.iload 7, 2) := by decide +kernel
theorem d_M_step_135 : decode prog_9_method_28_code 135 = .ok (.invokevirtual 168, 3) := by decide +kernel
theorem d_M_step_138 : decode prog_9_method_28_code 138 = .ok (.aload_n 0, 1) := by decide +kernel
theorem d_M_step_139 : decode prog_9_method_28_code 139 = .ok (.iconst 3, 1) := by decide +kernel
theorem d_M_step_140 : decode prog_9_method_28_code 140 = .ok (.putfield 151, 3) := by decide +kernel
theorem d_M_step_143 : decode prog_9_method_28_code 143 = .ok (.goto 100, 3) := by decide +kernel
theorem d_M_step_146 : decode prog_9_method_28_code 146 = .ok (.iload 5, 2) := by decide +kernel
theorem d_M_step_148 : decode prog_9_method_28_code 148 = .ok (.bipush 11, 2) := by decide +kernel
theorem d_M_step_150 : decode prog_9_method_28_code 150 = .ok (.if_icmp .ne 53, 3) := by decide +kernel
theorem d_M_step_153 : decode prog_9_method_28_code 153 = .ok (.aload_n 0, 1) := by decide +kernel
theorem d_M_step_154 : decode prog_9_method_28_code 154 = .ok (.getfield 151, 3) := by decide +kernel
theorem d_M_step_157 : decode prog_9_method_28_code 157 = .ok (.iconst 2, 1) := by decide +kernel
theorem d_M_step_158 : decode prog_9_method_28_code 158 = .ok (.if_icmp .ne 37, 3) := by decide +kernel
theorem d_M_step_161 : decode prog_9_method_28_code 161 = .ok (.aload_n 0, 1) := by decide +kernel
theorem d_M_step_162 : decode prog_9_method_28_code 162 = .ok (.getfield 41, 3) := by decide +kernel
theorem d_M_step_165 : decode prog_9_method_28_code 165 = .ok (.iload 9, 2) := by decide +kernel
theorem d_M_step_167 : decode prog_9_method_28_code 167 = .ok (.iaload, 1) := by decide +kernel
theorem d_M_step_168 : decode prog_9_method_28_code 168 = .ok (.iconst 2, 1) := by decide +kernel
theorem d_M_step_169 : decode prog_9_method_28_code 169 = .ok (.if_icmp .ne 26, 3) := by decide +kernel
theorem d_M_step_172 : decode prog_9_method_28_code 172 = .ok (.aload_n 0, 1) := by decide +kernel
theorem d_M_step_173 : decode prog_9_method_28_code 173 = .ok (.iload_n 3, 1) := by decide +kernel
theorem d_M_step_174 : decode prog_9_method_28_code 174 = .ok (.aload_n 0, 1) := by decide +kernel
theorem d_M_step_175 : decode prog_9_method_28_code 175 = .ok (.getfield 44, 3) := by decide +kernel
theorem d_M_step_178 : decode prog_9_method_28_code 178 = .ok (.iload 9, 2) := by decide +kernel
theorem d_M_step_180 : decode prog_9_method_28_code 180 = .ok (.iaload, 1) := by decide +kernel
theorem d_M_step_181 : decode prog_9_method_28_code 181 = .ok (.aload_n 0, 1) := by decide +kernel
theorem d_M_step_182 : decode prog_9_method_28_code 182 = .ok (.getfield 44, 3) := by decide +kernel
theorem d_M_step_185 : decode prog_9_method_28_code 185 = .ok (.iload 10, 2) := by decide +kernel
theorem d_M_step_187 : decode prog_9_method_28_code 187 = .ok (.iaload, 1) := by decide +kernel
theorem d_M_step_188 : decode prog_9_method_28_code 188 = .ok (.iadd, 1) := by decide +kernel
theorem d_M_step_189 : decode prog_9_method_28_code 189 = .ok (.invokevirtual 171, 3) := by decide +kernel
theorem d_M_step_192 : decode prog_9_method_28_code 192 = .ok (.goto 51, 3) := by decide +kernel
theorem d_M_step_195 : decode prog_9_method_28_code 195 = .ok (.aload_n 0, 1) := by decide +kernel
theorem d_M_step_196 : decode prog_9_method_28_code 196 = .ok (.iload_n 3, 1) := by decide +kernel
theorem d_M_step_197 : decode prog_9_method_28_code 197 = .ok (.invokevirtual 174, 3) := by decide +kernel
theorem d_M_step_200 : decode prog_9_method_28_code 200 = .ok (.goto 43, 3) := by decide +kernel
theorem d_M_step_203 : decode prog_9_method_28_code 203 = .ok (.aload_n 0, 1) := by decide +kernel
theorem d_M_step_204 : decode prog_9_method_28_code 204 = .ok (.getfield 151, 3) := by decide +kernel
theorem d_M_step_207 : decode prog_9_method_28_code 207 = .ok (.iconst 2, 1) := by decide +kernel
theorem d_M_step_208 : decode prog_9_method_28_code 208 = .ok (.if_icmp .ne 30, 3) := by decide +kernel
theorem d_M_step_211 : decode prog_9_method_28_code 211 = .ok (.aload_n 0, 1) := by decide +kernel
theorem d_M_step_212 : decode prog_9_method_28_code 212 = .ok (.iload_n 3, 1) := by decide +kernel
theorem d_M_step_213 : decode prog_9_method_28_code 213 = .ok (.aload_n 0, 1) := by decide +kernel
theorem d_M_step_214 : decode prog_9_method_28_code 214 = .ok (.getfield 44, 3) := by decide +kernel
theorem d_M_step_217 : decode prog_9_method_28_code 217 = .ok (.iload 10, 2) := by decide +kernel
theorem d_M_step_219 : decode prog_9_method_28_code 219 = .ok (.iaload, 1) := by decide +kernel
theorem d_M_step_220 : decode prog_9_method_28_code 220 = .ok (.invokevirtual 171, 3) := by decide +kernel
theorem d_M_step_223 : decode prog_9_method_28_code 223 = .ok (.aload_n 0, 1) := by decide +kernel
theorem d_M_step_224 : decode prog_9_method_28_code 224 = .ok (.iload_n 1, 1) := by decide +kernel
theorem d_M_step_225 : decode prog_9_method_28_code 225 = .ok (.iload 7, 2) := by decide +kernel
theorem d_M_step_227 : decode prog_9_method_28_code 227 = .ok (.invokevirtual 168, 3) := by decide +kernel
theorem d_M_step_230 : decode prog_9_method_28_code 230 = .ok (.aload_n 0, 1) := by decide +kernel
theorem d_M_step_231 : decode prog_9_method_28_code 231 = .ok (.iconst 2, 1) := by decide +kernel
theorem d_M_step_232 : decode prog_9_method_28_code 232 = .ok (.putfield 151, 3) := by decide +kernel
theorem d_M_step_235 : decode prog_9_method_28_code 235 = .ok (.goto 8, 3) := by decide +kernel
theorem d_M_step_238 : decode prog_9_method_28_code 238 = .ok (.aload_n 0, 1) := by decide +kernel
theorem d_M_step_239 : decode prog_9_method_28_code 239 = .ok (.iload_n 3, 1) := by decide +kernel
theorem d_M_step_240 : decode prog_9_method_28_code 240 = .ok (.invokevirtual 174, 3) := by decide +kernel
theorem d_M_step_243 : decode prog_9_method_28_code 243 = .ok (.iconst (-1), 1) := by decide +kernel
theorem d_M_step_244 : decode prog_9_method_28_code 244 = .ok (.ireturn, 1) := by decide +kernel
theorem d_M_step_245 : decode prog_9_method_28_code 245 = .ok (.aload_n 0, 1) := by decide +kernel
theorem d_M_step_246 : decode prog_9_method_28_code 246 = .ok (.getfield 151, 3) := by decide +kernel
theorem d_M_step_249 : decode prog_9_method_28_code 249 = .ok (.iconst 3, 1) := by decide +kernel
theorem d_M_step_250 : decode prog_9_method_28_code 250 = .ok (.if_icmp .ne 67, 3) := by decide +kernel
theorem d_M_step_253 : decode prog_9_method_28_code 253 = .ok (.aload_n 0, 1) := by decide +kernel
theorem d_M_step_254 : decode prog_9_method_28_code 254 = .ok (.getfield 44, 3) := by decide +kernel
theorem d_M_step_257 : decode prog_9_method_28_code 257 = .ok (.iload 9, 2) := by decide +kernel
theorem d_M_step_259 : decode prog_9_method_28_code 259 = .ok (.iaload, 1) := by decide +kernel
theorem d_M_step_260 : decode prog_9_method_28_code 260 = .ok (.istore 11, 2) := by decide +kernel
theorem d_M_step_262 : decode prog_9_method_28_code 262 = .ok (.iload 5, 2) := by decide +kernel
theorem d_M_step_264 : decode prog_9_method_28_code 264 = .ok (.bipush 15, 2) := by decide +kernel
theorem d_M_step_266 : decode prog_9_method_28_code 266 = .ok (.if_icmp .ne 14, 3) := by decide +kernel
theorem d_M_step_269 : decode prog_9_method_28_code 269 = .ok (.aload_n 0, 1) := by decide +kernel
theorem d_M_step_270 : decode prog_9_method_28_code 270 = .ok (.iload_n 3, 1) := by decide +kernel
theorem d_M_step_271 : decode prog_9_method_28_code 271 = .ok (.iload 11, 2) := by decide +kernel
theorem d_M_step_273 : decode prog_9_method_28_code 273 = .ok (.ineg, 1) := by decide +kernel
theorem d_M_step_274 : decode prog_9_method_28_code 274 = .ok (.invokevirtual 171, 3) := by decide +kernel
theorem d_M_step_277 : decode prog_9_method_28_code 277 = .ok (.goto 10, 3) := by decide +kernel
theorem d_M_step_280 : decode prog_9_method_28_code 280 = .ok (.aload_n 0, 1) := by decide +kernel
theorem d_M_step_281 : decode prog_9_method_28_code 281 = .ok (.iload_n 3, 1) := by decide +kernel
theorem d_M_step_282 : decode prog_9_method_28_code 282 = .ok (.iload 11, 2) := by decide +kernel
theorem d_M_step_284 : decode prog_9_method_28_code 284 = .ok (.invokevirtual 165, 3) := by decide +kernel
theorem d_M_step_287 : decode prog_9_method_28_code 287 = .ok (.iload 8, 2) := by decide +kernel
theorem d_M_step_289 : decode prog_9_method_28_code 289 = .ok (.ifCond .lt 10, 3) := by decide +kernel
theorem d_M_step_292 : decode prog_9_method_28_code 292 = .ok (.aload_n 0, 1) := by decide +kernel
theorem d_M_step_293 : decode prog_9_method_28_code 293 = .ok (.iload_n 1, 1) := by decide +kernel
theorem d_M_step_294 : decode prog_9_method_28_code 294 = .ok (.iload 8, 2) := by decide +kernel
theorem d_M_step_296 : decode prog_9_method_28_code 296 = .ok (.invokevirtual 168, 3) := by decide +kernel
theorem d_M_step_299 : decode prog_9_method_28_code 299 = .ok (.aload_n 0, 1) := by decide +kernel
theorem d_M_step_300 : decode prog_9_method_28_code 300 = .ok (.iload 5, 2) := by decide +kernel
theorem d_M_step_302 : decode prog_9_method_28_code 302 = .ok (.bipush 15, 2) := by decide +kernel
theorem d_M_step_304 : decode prog_9_method_28_code 304 = .ok (.if_icmp .ne 7, 3) := by decide +kernel
theorem d_M_step_307 : decode prog_9_method_28_code 307 = .ok (.iconst 2, 1) := by decide +kernel
theorem d_M_step_308 : decode prog_9_method_28_code 308 = .ok (.goto 4, 3) := by decide +kernel
theorem d_M_step_311 : decode prog_9_method_28_code 311 = .ok (.iconst 3, 1) := by decide +kernel
theorem d_M_step_312 : decode prog_9_method_28_code 312 = .ok (.putfield 151, 3) := by decide +kernel
theorem d_M_step_315 : decode prog_9_method_28_code 315 = .ok (.iconst (-1), 1) := by decide +kernel
theorem d_M_step_316 : decode prog_9_method_28_code 316 = .ok (.ireturn, 1) := by decide +kernel
theorem d_M_step_317 : decode prog_9_method_28_code 317 = .ok (.aload_n 0, 1) := by decide +kernel
theorem d_M_step_318 : decode prog_9_method_28_code 318 = .ok (.getfield 151, 3) := by decide +kernel
theorem d_M_step_321 : decode prog_9_method_28_code 321 = .ok (.iconst 2, 1) := by decide +kernel
theorem d_M_step_322 : decode prog_9_method_28_code 322 = .ok (.if_icmp .ne 7, 3) := by decide +kernel
theorem d_M_step_325 : decode prog_9_method_28_code 325 = .ok (.iconst 1, 1) := by decide +kernel
theorem d_M_step_326 : decode prog_9_method_28_code 326 = .ok (.goto 4, 3) := by decide +kernel
theorem d_M_step_329 : decode prog_9_method_28_code 329 = .ok (.iconst 0, 1) := by decide +kernel
theorem d_M_step_330 : decode prog_9_method_28_code 330 = .ok (.istore 11, 2) := by decide +kernel
theorem d_M_step_332 : decode prog_9_method_28_code 332 = .ok (.iload 5, 2) := by decide +kernel
theorem d_M_step_334 : decode prog_9_method_28_code 334 = .ok (.bipush 11, 2) := by decide +kernel
theorem d_M_step_336 : decode prog_9_method_28_code 336 = .ok (.if_icmp .eq 27, 3) := by decide +kernel
theorem d_M_step_339 : decode prog_9_method_28_code 339 = .ok (.iload 5, 2) := by decide +kernel
theorem d_M_step_341 : decode prog_9_method_28_code 341 = .ok (.bipush 10, 2) := by decide +kernel
theorem d_M_step_343 : decode prog_9_method_28_code 343 = .ok (.if_icmp .ne 8, 3) := by decide +kernel
theorem d_M_step_346 : decode prog_9_method_28_code 346 = .ok (.iload 11, 2) := by decide +kernel
theorem d_M_step_348 : decode prog_9_method_28_code 348 = .ok (.ifCond .ne 15, 3) := by decide +kernel
theorem d_M_step_351 : decode prog_9_method_28_code 351 = .ok (.iload 5, 2) := by decide +kernel
theorem d_M_step_353 : decode prog_9_method_28_code 353 = .ok (.bipush 12, 2) := by decide +kernel
theorem d_M_step_355 : decode prog_9_method_28_code 355 = .ok (.if_icmp .ne 11, 3) := by decide +kernel
theorem d_M_step_358 : decode prog_9_method_28_code 358 = .ok (.iload 11, 2) := by decide +kernel
theorem d_M_step_360 : decode prog_9_method_28_code 360 = .ok (.ifCond .ne 6, 3) := by decide +kernel
theorem d_M_step_363 : decode prog_9_method_28_code 363 = .ok (.iload 8, 2) := by decide +kernel
theorem d_M_step_365 : decode prog_9_method_28_code 365 = .ok (.ireturn, 1) := by decide +kernel
theorem d_M_step_366 : decode prog_9_method_28_code 366 = .ok (.iload 5, 2) := by decide +kernel
theorem d_M_step_368 : decode prog_9_method_28_code 368 = .ok (.bipush 8, 2) := by decide +kernel
theorem d_M_step_370 : decode prog_9_method_28_code 370 = .ok (.if_icmp .ne 24, 3) := by decide +kernel
theorem d_M_step_373 : decode prog_9_method_28_code 373 = .ok (.iload 11, 2) := by decide +kernel
theorem d_M_step_375 : decode prog_9_method_28_code 375 = .ok (.ifCond .eq 19, 3) := by decide +kernel
theorem d_M_step_378 : decode prog_9_method_28_code 378 = .ok (.aload_n 0, 1) := by decide +kernel
theorem d_M_step_379 : decode prog_9_method_28_code 379 = .ok (.iload_n 1, 1) := by decide +kernel
theorem d_M_step_380 : decode prog_9_method_28_code 380 = .ok (.iload_n 3, 1) := by decide +kernel
theorem d_M_step_381 : decode prog_9_method_28_code 381 = .ok (.aload_n 0, 1) := by decide +kernel
theorem d_M_step_382 : decode prog_9_method_28_code 382 = .ok (.getfield 44, 3) := by decide +kernel
theorem d_M_step_385 : decode prog_9_method_28_code 385 = .ok (.iload 9, 2) := by decide +kernel
theorem d_M_step_387 : decode prog_9_method_28_code 387 = .ok (.iaload, 1) := by decide +kernel
theorem d_M_step_388 : decode prog_9_method_28_code 388 = .ok (.invokevirtual 177, 3) := by decide +kernel
theorem d_M_step_391 : decode prog_9_method_28_code 391 = .ok (.goto 105, 3) := by decide +kernel
theorem d_M_step_394 : decode prog_9_method_28_code 394 = .ok (.iload 11, 2) := by decide +kernel
end
section
theorem d_M_step_396 : decode prog_9_method_28_code 396 = .ok (.ifCond .eq 54, 3) := by decide +kernel
theorem d_M_step_399 : decode prog_9_method_28_code 399 = .ok (.aload_n 0, 1) := by decide +kernel
theorem d_M_step_400 : decode prog_9_method_28_code 400 = .ok (.getfield 44, 3) := by decide +kernel
theorem d_M_step_403 : decode prog_9_method_28_code 403 = .ok (.iload 9, 2) := by decide +kernel
theorem d_M_step_405 : decode prog_9_method_28_code 405 = .ok (.iaload, 1) := by decide +kernel
theorem d_M_step_406 : decode prog_9_method_28_code 406 = .ok (.istore 12, 2) := by decide +kernel
theorem d_M_step_408 : decode prog_9_method_28_code 408 = .ok (.aload_n 0, 1) := by decide +kernel
theorem d_M_step_409 : decode prog_9_method_28_code 409 = .ok (.iload_n 3, 1) := by decide +kernel
theorem d_M_step_410 : decode prog_9_method_28_code 410 = .ok (.iload 5, 2) := by decide +kernel
theorem d_M_step_412 : decode prog_9_method_28_code 412 = .ok (.bipush 14, 2) := by decide +kernel
theorem d_M_step_414 : decode prog_9_method_28_code 414 = .ok (.if_icmp .ne 11, 3) := by decide +kernel
theorem d_M_step_417 : decode prog_9_method_28_code 417 = .ok (.iload 12, 2) := by decide +kernel
theorem d_M_step_419 : decode prog_9_method_28_code 419 = .ok (.iload 6, 2) := by decide +kernel
theorem d_M_step_421 : decode prog_9_method_28_code 421 = .ok (.iadd, 1) := by decide +kernel
theorem d_M_step_422 : decode prog_9_method_28_code 422 = .ok (.goto 5, 3) := by decide +kernel
theorem d_M_step_425 : decode prog_9_method_28_code 425 = .ok (.iload 12, 2) := by decide +kernel
theorem d_M_step_427 : decode prog_9_method_28_code 427 = .ok (.invokevirtual 171, 3) := by decide +kernel
theorem d_M_step_430 : decode prog_9_method_28_code 430 = .ok (.iload 8, 2) := by decide +kernel
theorem d_M_step_432 : decode prog_9_method_28_code 432 = .ok (.ifCond .lt 10, 3) := by decide +kernel
theorem d_M_step_435 : decode prog_9_method_28_code 435 = .ok (.aload_n 0, 1) := by decide +kernel
theorem d_M_step_436 : decode prog_9_method_28_code 436 = .ok (.iload_n 1, 1) := by decide +kernel
theorem d_M_step_437 : decode prog_9_method_28_code 437 = .ok (.iload 8, 2) := by decide +kernel
theorem d_M_step_439 : decode prog_9_method_28_code 439 = .ok (.invokevirtual 168, 3) := by decide +kernel
theorem d_M_step_442 : decode prog_9_method_28_code 442 = .ok (.aload_n 0, 1) := by decide +kernel
theorem d_M_step_443 : decode prog_9_method_28_code 443 = .ok (.iconst 2, 1) := by decide +kernel
theorem d_M_step_444 : decode prog_9_method_28_code 444 = .ok (.putfield 151, 3) := by decide +kernel
theorem d_M_step_447 : decode prog_9_method_28_code 447 = .ok (.goto 49, 3) := by decide +kernel
theorem d_M_step_450 : decode prog_9_method_28_code 450 = .ok (.iload 5, 2) := by decide +kernel
theorem d_M_step_452 : decode prog_9_method_28_code 452 = .ok (.bipush 13, 2) := by decide +kernel
theorem d_M_step_454 : decode prog_9_method_28_code 454 = .ok (.if_icmp .ne 37, 3) := by decide +kernel
theorem d_M_step_457 : decode prog_9_method_28_code 457 = .ok (.aload_n 0, 1) := by decide +kernel
theorem d_M_step_458 : decode prog_9_method_28_code 458 = .ok (.getfield 162, 3) := by decide +kernel
theorem d_M_step_461 : decode prog_9_method_28_code 461 = .ok (.aload_n 0, 1) := by decide +kernel
theorem d_M_step_462 : decode prog_9_method_28_code 462 = .ok (.getfield 47, 3) := by decide +kernel
theorem d_M_step_465 : decode prog_9_method_28_code 465 = .ok (.iload_n 3, 1) := by decide +kernel
theorem d_M_step_466 : decode prog_9_method_28_code 466 = .ok (.iaload, 1) := by decide +kernel
theorem d_M_step_467 : decode prog_9_method_28_code 467 = .ok (.if_icmp .lt 24, 3) := by decide +kernel
theorem d_M_step_470 : decode prog_9_method_28_code 470 = .ok (.aload_n 0, 1) := by decide +kernel
theorem d_M_step_471 : decode prog_9_method_28_code 471 = .ok (.iload_n 3, 1) := by decide +kernel
theorem d_M_step_472 : decode prog_9_method_28_code 472 = .ok (.iconst (-1), 1) := by decide +kernel
theorem d_M_step_473 : decode prog_9_method_28_code 473 = .ok (.invokevirtual 171, 3) := by decide +kernel
theorem d_M_step_476 : decode prog_9_method_28_code 476 = .ok (.aload_n 0, 1) := by decide +kernel
theorem d_M_step_477 : decode prog_9_method_28_code 477 = .ok (.iload_n 1, 1) := by decide +kernel
theorem d_M_step_478 : decode prog_9_method_28_code 478 = .ok (.iload 7, 2) := by decide +kernel
theorem d_M_step_480 : decode prog_9_method_28_code 480 = .ok (.invokevirtual 168, 3) := by decide +kernel
theorem d_M_step_483 : decode prog_9_method_28_code 483 = .ok (.aload_n 0, 1) := by decide +kernel
theorem d_M_step_484 : decode prog_9_method_28_code 484 = .ok (.iconst 2, 1) := by decide +kernel
theorem d_M_step_485 : decode prog_9_method_28_code 485 = .ok (.putfield 151, 3) := by decide +kernel
theorem d_M_step_488 : decode prog_9_method_28_code 488 = .ok (.goto 8, 3) := by decide +kernel
theorem d_M_step_491 : decode prog_9_method_28_code 491 = .ok (.aload_n 0, 1) := by decide +kernel
theorem d_M_step_492 : decode prog_9_method_28_code 492 = .ok (.iload_n 3, 1) := by decide +kernel
theorem d_M_step_493 : decode prog_9_method_28_code 493 = .ok (.invokevirtual 174, 3) := by decide +kernel
theorem d_M_step_496 : decode prog_9_method_28_code 496 = .ok (.iconst (-1), 1) := by decide +kernel
theorem d_M_step_497 : decode prog_9_method_28_code 497 = .ok (.ireturn, 1) := by decide +kernel
theorem d_M_reap_0 : decode prog_9_method_29_code 0 = .ok (.iload_n 3, 1) := by decide +kernel
theorem d_M_reap_1 : decode prog_9_method_29_code 1 = .ok (.iconst 0, 1) := by decide +kernel
theorem d_M_reap_2 : decode prog_9_method_29_code 2 = .ok (.aload_n 0, 1) := by decide +kernel
theorem d_M_reap_3 : decode prog_9_method_29_code 3 = .ok (.getfield 112, 3) := by decide +kernel
theorem d_M_reap_6 : decode prog_9_method_29_code 6 = .ok (.iconst 1, 1) := by decide +kernel
theorem d_M_reap_7 : decode prog_9_method_29_code 7 = .ok (.isub, 1) := by decide +kernel
theorem d_M_reap_8 : decode prog_9_method_29_code 8 = .ok (.invokestatic 93, 3) := by decide +kernel
theorem d_M_reap_11 : decode prog_9_method_29_code 11 = .ok (.ifCond .eq 8, 3) := by decide +kernel
theorem d_M_reap_14 : decode prog_9_method_29_code 14 = .ok (.iload_n 3, 1) := by decide +kernel
theorem d_M_reap_15 : decode prog_9_method_29_code 15 = .ok (.iload_n 1, 1) := by decide +kernel
theorem d_M_reap_16 : decode prog_9_method_29_code 16 = .ok (.if_icmp .ne 13, 3) := by decide +kernel
theorem d_M_reap_19 : decode prog_9_method_29_code 19 = .ok (.aload_n 0, 1) := by decide +kernel
theorem d_M_reap_20 : decode prog_9_method_29_code 20 = .ok (.iload_n 2, 1) := by decide +kernel
theorem d_M_reap_21 : decode prog_9_method_29_code 21 = .ok (.bipush 98, 2) := by decide +kernel
theorem d_M_reap_23 : decode prog_9_method_29_code 23 = .ok (.invokevirtual 165, 3) := by decide +kernel
theorem d_M_reap_26 : decode prog_9_method_29_code 26 = .ok (.goto 84, 3) := by decide +kernel
theorem d_M_reap_29 : decode prog_9_method_29_code 29 = .ok (.aload_n 0, 1) := by decide +kernel
theorem d_M_reap_30 : decode prog_9_method_29_code 30 = .ok (.getfield 19, 3) := by decide +kernel
theorem d_M_reap_33 : decode prog_9_method_29_code 33 = .ok (.iload_n 3, 1) := by decide +kernel
theorem d_M_reap_34 : decode prog_9_method_29_code 34 = .ok (.iaload, 1) := by decide +kernel
theorem d_M_reap_35 : decode prog_9_method_29_code 35 = .ok (.iconst 3, 1) := by decide +kernel
theorem d_M_reap_36 : decode prog_9_method_29_code 36 = .ok (.if_icmp .ne 17, 3) := by decide +kernel
theorem d_M_reap_39 : decode prog_9_method_29_code 39 = .ok (.aload_n 0, 1) := by decide +kernel
theorem d_M_reap_40 : decode prog_9_method_29_code 40 = .ok (.iload_n 2, 1) := by decide +kernel
theorem d_M_reap_41 : decode prog_9_method_29_code 41 = .ok (.aload_n 0, 1) := by decide +kernel
theorem d_M_reap_42 : decode prog_9_method_29_code 42 = .ok (.getfield 22, 3) := by decide +kernel
theorem d_M_reap_45 : decode prog_9_method_29_code 45 = .ok (.iload_n 3, 1) := by decide +kernel
theorem d_M_reap_46 : decode prog_9_method_29_code 46 = .ok (.iaload, 1) := by decide +kernel
theorem d_M_reap_47 : decode prog_9_method_29_code 47 = .ok (.invokevirtual 165, 3) := by decide +kernel
theorem d_M_reap_50 : decode prog_9_method_29_code 50 = .ok (.goto 60, 3) := by decide +kernel
theorem d_M_reap_53 : decode prog_9_method_29_code 53 = .ok (.aload_n 0, 1) := by decide +kernel
theorem d_M_reap_54 : decode prog_9_method_29_code 54 = .ok (.getfield 19, 3) := by decide +kernel
theorem d_M_reap_57 : decode prog_9_method_29_code 57 = .ok (.iload_n 3, 1) := by decide +kernel
theorem d_M_reap_58 : decode prog_9_method_29_code 58 = .ok (.iaload, 1) := by decide +kernel
theorem d_M_reap_59 : decode prog_9_method_29_code 59 = .ok (.iconst 4, 1) := by decide +kernel
theorem d_M_reap_60 : decode prog_9_method_29_code 60 = .ok (.if_icmp .ne 13, 3) := by decide +kernel
theorem d_M_reap_63 : decode prog_9_method_29_code 63 = .ok (.aload_n 0, 1) := by decide +kernel
theorem d_M_reap_64 : decode prog_9_method_29_code 64 = .ok (.iload_n 2, 1) := by decide +kernel
theorem d_M_reap_65 : decode prog_9_method_29_code 65 = .ok (.bipush 99, 2) := by decide +kernel
theorem d_M_reap_67 : decode prog_9_method_29_code 67 = .ok (.invokevirtual 165, 3) := by decide +kernel
theorem d_M_reap_70 : decode prog_9_method_29_code 70 = .ok (.goto 40, 3) := by decide +kernel
theorem d_M_reap_73 : decode prog_9_method_29_code 73 = .ok (.aload_n 0, 1) := by decide +kernel
theorem d_M_reap_74 : decode prog_9_method_29_code 74 = .ok (.getfield 19, 3) := by decide +kernel
theorem d_M_reap_77 : decode prog_9_method_29_code 77 = .ok (.iload_n 3, 1) := by decide +kernel
theorem d_M_reap_78 : decode prog_9_method_29_code 78 = .ok (.iaload, 1) := by decide +kernel
theorem d_M_reap_79 : decode prog_9_method_29_code 79 = .ok (.iconst 2, 1) := by decide +kernel
theorem d_M_reap_80 : decode prog_9_method_29_code 80 = .ok (.if_icmp .ne 25, 3) := by decide +kernel
theorem d_M_reap_83 : decode prog_9_method_29_code 83 = .ok (.aload_n 0, 1) := by decide +kernel
theorem d_M_reap_84 : decode prog_9_method_29_code 84 = .ok (.iload_n 1, 1) := by decide +kernel
theorem d_M_reap_85 : decode prog_9_method_29_code 85 = .ok (.invokevirtual 180, 3) := by decide +kernel
theorem d_M_reap_88 : decode prog_9_method_29_code 88 = .ok (.ifCond .eq 17, 3) := by decide +kernel
theorem d_M_reap_91 : decode prog_9_method_29_code 91 = .ok (.aload_n 0, 1) := by decide +kernel
theorem d_M_reap_92 : decode prog_9_method_29_code 92 = .ok (.iload_n 2, 1) := by decide +kernel
theorem d_M_reap_93 : decode prog_9_method_29_code 93 = .ok (.aload_n 0, 1) := by decide +kernel
theorem d_M_reap_94 : decode prog_9_method_29_code 94 = .ok (.getfield 22, 3) := by decide +kernel
theorem d_M_reap_97 : decode prog_9_method_29_code 97 = .ok (.iload_n 3, 1) := by decide +kernel
theorem d_M_reap_98 : decode prog_9_method_29_code 98 = .ok (.iaload, 1) := by decide +kernel
theorem d_M_reap_99 : decode prog_9_method_29_code 99 = .ok (.invokevirtual 171, 3) := by decide +kernel
theorem d_M_reap_102 : decode prog_9_method_29_code 102 = .ok (.goto 8, 3) := by decide +kernel
theorem d_M_reap_105 : decode prog_9_method_29_code 105 = .ok (.aload_n 0, 1) := by decide +kernel
theorem d_M_reap_106 : decode prog_9_method_29_code 106 = .ok (.iload_n 2, 1) := by decide +kernel
theorem d_M_reap_107 : decode prog_9_method_29_code 107 = .ok (.invokevirtual 174, 3) := by decide +kernel
theorem d_M_reap_110 : decode prog_9_method_29_code 110 = .ok (.return_, 1) := by decide +kernel
theorem d_M_leaf_0 : decode prog_9_method_30_code 0 = .ok (.aload_n 0, 1) := by decide +kernel
theorem d_M_leaf_1 : decode prog_9_method_30_code 1 = .ok (.iload_n 1, 1) := by decide +kernel
theorem d_M_leaf_2 : decode prog_9_method_30_code 2 = .ok (.iload_n 2, 1) := by decide +kernel
theorem d_M_leaf_3 : decode prog_9_method_30_code 3 = .ok (.invokevirtual 108, 3) := by decide +kernel
theorem d_M_leaf_6 : decode prog_9_method_30_code 6 = .ok (.istore 4, 2) := by decide +kernel
theorem d_M_leaf_8 : decode prog_9_method_30_code 8 = .ok (.aload_n 0, 1) := by decide +kernel
theorem d_M_leaf_9 : decode prog_9_method_30_code 9 = .ok (.iload_n 1, 1) := by decide +kernel
theorem d_M_leaf_10 : decode prog_9_method_30_code 10 = .ok (.iload_n 2, 1) := by decide +kernel
theorem d_M_leaf_11 : decode prog_9_method_30_code 11 = .ok (.invokevirtual 132, 3) := by decide +kernel
theorem d_M_leaf_14 : decode prog_9_method_30_code 14 = .ok (.istore 5, 2) := by decide +kernel
theorem d_M_leaf_16 : decode prog_9_method_30_code 16 = .ok (.iload 4, 2) := by decide +kernel
theorem d_M_leaf_18 : decode prog_9_method_30_code 18 = .ok (.tableswitch 267 1 9 #[50, 93, 145, 156, 178, 189, 205, 267, 257], 50) := by decide +kernel
theorem d_M_leaf_68 : decode prog_9_method_30_code 68 = .ok (.aload_n 0, 1) := by decide +kernel
theorem d_M_leaf_69 : decode prog_9_method_30_code 69 = .ok (.getfield 47, 3) := by decide +kernel
theorem d_M_leaf_72 : decode prog_9_method_30_code 72 = .ok (.iload_n 3, 1) := by decide +kernel
theorem d_M_leaf_73 : decode prog_9_method_30_code 73 = .ok (.iaload, 1) := by decide +kernel
theorem d_M_leaf_74 : decode prog_9_method_30_code 74 = .ok (.iload 5, 2) := by decide +kernel
theorem d_M_leaf_76 : decode prog_9_method_30_code 76 = .ok (.if_icmp .ne 12, 3) := by decide +kernel
theorem d_M_leaf_79 : decode prog_9_method_30_code 79 = .ok (.aload_n 0, 1) := by decide +kernel
theorem d_M_leaf_80 : decode prog_9_method_30_code 80 = .ok (.iload_n 3, 1) := by decide +kernel
theorem d_M_leaf_81 : decode prog_9_method_30_code 81 = .ok (.iconst 0, 1) := by decide +kernel
theorem d_M_leaf_82 : decode prog_9_method_30_code 82 = .ok (.invokevirtual 171, 3) := by decide +kernel
theorem d_M_leaf_85 : decode prog_9_method_30_code 85 = .ok (.goto 207, 3) := by decide +kernel
theorem d_M_leaf_88 : decode prog_9_method_30_code 88 = .ok (.aload_n 0, 1) := by decide +kernel
theorem d_M_leaf_89 : decode prog_9_method_30_code 89 = .ok (.getfield 47, 3) := by decide +kernel
theorem d_M_leaf_92 : decode prog_9_method_30_code 92 = .ok (.iload_n 3, 1) := by decide +kernel
theorem d_M_leaf_93 : decode prog_9_method_30_code 93 = .ok (.dup2, 1) := by decide +kernel
theorem d_M_leaf_94 : decode prog_9_method_30_code 94 = .ok (.iaload, 1) := by decide +kernel
theorem d_M_leaf_95 : decode prog_9_method_30_code 95 = .ok (.iconst 1, 1) := by decide +kernel
theorem d_M_leaf_96 : decode prog_9_method_30_code 96 = .ok (.iadd, 1) := by decide +kernel
theorem d_M_leaf_97 : decode prog_9_method_30_code 97 = .ok (.iastore, 1) := by decide +kernel
theorem d_M_leaf_98 : decode prog_9_method_30_code 98 = .ok (.aload_n 0, 1) := by decide +kernel
theorem d_M_leaf_99 : decode prog_9_method_30_code 99 = .ok (.iload_n 1, 1) := by decide +kernel
theorem d_M_leaf_100 : decode prog_9_method_30_code 100 = .ok (.invokevirtual 115, 3) := by decide +kernel
theorem d_M_leaf_103 : decode prog_9_method_30_code 103 = .ok (.aload_n 0, 1) := by decide +kernel
theorem d_M_leaf_104 : decode prog_9_method_30_code 104 = .ok (.iload_n 3, 1) := by decide +kernel
theorem d_M_leaf_105 : decode prog_9_method_30_code 105 = .ok (.invokevirtual 174, 3) := by decide +kernel
theorem d_M_leaf_108 : decode prog_9_method_30_code 108 = .ok (.goto 184, 3) := by decide +kernel
theorem d_M_leaf_111 : decode prog_9_method_30_code 111 = .ok (.aload_n 0, 1) := by decide +kernel
theorem d_M_leaf_112 : decode prog_9_method_30_code 112 = .ok (.getfield 41, 3) := by decide +kernel
theorem d_M_leaf_115 : decode prog_9_method_30_code 115 = .ok (.iload_n 3, 1) := by decide +kernel
theorem d_M_leaf_116 : decode prog_9_method_30_code 116 = .ok (.iaload, 1) := by decide +kernel
theorem d_M_leaf_117 : decode prog_9_method_30_code 117 = .ok (.ifCond .ne 16, 3) := by decide +kernel
theorem d_M_leaf_120 : decode prog_9_method_30_code 120 = .ok (.aload_n 0, 1) := by decide +kernel
theorem d_M_leaf_121 : decode prog_9_method_30_code 121 = .ok (.getfield 47, 3) := by decide +kernel
theorem d_M_leaf_124 : decode prog_9_method_30_code 124 = .ok (.iload_n 3, 1) := by decide +kernel
theorem d_M_leaf_125 : decode prog_9_method_30_code 125 = .ok (.aload_n 0, 1) := by decide +kernel
theorem d_M_leaf_126 : decode prog_9_method_30_code 126 = .ok (.getfield 162, 3) := by decide +kernel
theorem d_M_leaf_129 : decode prog_9_method_30_code 129 = .ok (.iload 5, 2) := by decide +kernel
theorem d_M_leaf_131 : decode prog_9_method_30_code 131 = .ok (.iadd, 1) := by decide +kernel
theorem d_M_leaf_132 : decode prog_9_method_30_code 132 = .ok (.iastore, 1) := by decide +kernel
theorem d_M_leaf_133 : decode prog_9_method_30_code 133 = .ok (.aload_n 0, 1) := by decide +kernel
theorem d_M_leaf_134 : decode prog_9_method_30_code 134 = .ok (.getfield 162, 3) := by decide +kernel
theorem d_M_leaf_137 : decode prog_9_method_30_code 137 = .ok (.aload_n 0, 1) := by decide +kernel
theorem d_M_leaf_138 : decode prog_9_method_30_code 138 = .ok (.getfield 47, 3) := by decide +kernel
theorem d_M_leaf_141 : decode prog_9_method_30_code 141 = .ok (.iload_n 3, 1) := by decide +kernel
theorem d_M_leaf_142 : decode prog_9_method_30_code 142 = .ok (.iaload, 1) := by decide +kernel
theorem d_M_leaf_143 : decode prog_9_method_30_code 143 = .ok (.if_icmp .lt 12, 3) := by decide +kernel
theorem d_M_leaf_146 : decode prog_9_method_30_code 146 = .ok (.aload_n 0, 1) := by decide +kernel
theorem d_M_leaf_147 : decode prog_9_method_30_code 147 = .ok (.iload_n 3, 1) := by decide +kernel
theorem d_M_leaf_148 : decode prog_9_method_30_code 148 = .ok (.iconst 0, 1) := by decide +kernel
theorem d_M_leaf_149 : decode prog_9_method_30_code 149 = .ok (.invokevirtual 171, 3) := by decide +kernel
theorem d_M_leaf_152 : decode prog_9_method_30_code 152 = .ok (.goto 140, 3) := by decide +kernel
theorem d_M_leaf_155 : decode prog_9_method_30_code 155 = .ok (.aload_n 0, 1) := by decide +kernel
theorem d_M_leaf_156 : decode prog_9_method_30_code 156 = .ok (.iload_n 3, 1) := by decide +kernel
theorem d_M_leaf_157 : decode prog_9_method_30_code 157 = .ok (.invokevirtual 174, 3) := by decide +kernel
theorem d_M_leaf_160 : decode prog_9_method_30_code 160 = .ok (.goto 132, 3) := by decide +kernel
theorem d_M_leaf_163 : decode prog_9_method_30_code 163 = .ok (.aload_n 0, 1) := by decide +kernel
theorem d_M_leaf_164 : decode prog_9_method_30_code 164 = .ok (.iload_n 1, 1) := by decide +kernel
theorem d_M_leaf_165 : decode prog_9_method_30_code 165 = .ok (.iload_n 3, 1) := by decide +kernel
theorem d_M_leaf_166 : decode prog_9_method_30_code 166 = .ok (.iload 5, 2) := by decide +kernel
theorem d_M_leaf_168 : decode prog_9_method_30_code 168 = .ok (.invokevirtual 183, 3) := by decide +kernel
theorem d_M_leaf_171 : decode prog_9_method_30_code 171 = .ok (.goto 121, 3) := by decide +kernel
theorem d_M_leaf_174 : decode prog_9_method_30_code 174 = .ok (.aload_n 0, 1) := by decide +kernel
theorem d_M_leaf_175 : decode prog_9_method_30_code 175 = .ok (.iload 5, 2) := by decide +kernel
theorem d_M_leaf_177 : decode prog_9_method_30_code 177 = .ok (.iconst 2, 1) := by decide +kernel
theorem d_M_leaf_178 : decode prog_9_method_30_code 178 = .ok (.irem, 1) := by decide +kernel
theorem d_M_leaf_179 : decode prog_9_method_30_code 179 = .ok (.iload 5, 2) := by decide +kernel
theorem d_M_leaf_181 : decode prog_9_method_30_code 181 = .ok (.invokestatic 138, 3) := by decide +kernel
theorem d_M_leaf_184 : decode prog_9_method_30_code 184 = .ok (.invokevirtual 144, 3) := by decide +kernel
theorem d_M_leaf_187 : decode prog_9_method_30_code 187 = .ok (.aload_n 0, 1) := by decide +kernel
theorem d_M_leaf_188 : decode prog_9_method_30_code 188 = .ok (.iload_n 3, 1) := by decide +kernel
theorem d_M_leaf_189 : decode prog_9_method_30_code 189 = .ok (.iconst 0, 1) := by decide +kernel
theorem d_M_leaf_190 : decode prog_9_method_30_code 190 = .ok (.invokevirtual 171, 3) := by decide +kernel
theorem d_M_leaf_193 : decode prog_9_method_30_code 193 = .ok (.goto 99, 3) := by decide +kernel
theorem d_M_leaf_196 : decode prog_9_method_30_code 196 = .ok (.aload_n 0, 1) := by decide +kernel
theorem d_M_leaf_197 : decode prog_9_method_30_code 197 = .ok (.iload_n 1, 1) := by decide +kernel
theorem d_M_leaf_198 : decode prog_9_method_30_code 198 = .ok (.iload_n 3, 1) := by decide +kernel
theorem d_M_leaf_199 : decode prog_9_method_30_code 199 = .ok (.iload 5, 2) := by decide +kernel
theorem d_M_leaf_201 : decode prog_9_method_30_code 201 = .ok (.invokevirtual 186, 3) := by decide +kernel
theorem d_M_leaf_204 : decode prog_9_method_30_code 204 = .ok (.goto 88, 3) := by decide +kernel
theorem d_M_leaf_207 : decode prog_9_method_30_code 207 = .ok (.aload_n 0, 1) := by decide +kernel
theorem d_M_leaf_208 : decode prog_9_method_30_code 208 = .ok (.iload 5, 2) := by decide +kernel
theorem d_M_leaf_210 : decode prog_9_method_30_code 210 = .ok (.invokevirtual 147, 3) := by decide +kernel
theorem d_M_leaf_213 : decode prog_9_method_30_code 213 = .ok (.pop, 1) := by decide +kernel
theorem d_M_leaf_214 : decode prog_9_method_30_code 214 = .ok (.aload_n 0, 1) := by decide +kernel
theorem d_M_leaf_215 : decode prog_9_method_30_code 215 = .ok (.iload_n 3, 1) := by decide +kernel
theorem d_M_leaf_216 : decode prog_9_method_30_code 216 = .ok (.iconst 0, 1) := by decide +kernel
theorem d_M_leaf_217 : decode prog_9_method_30_code 217 = .ok (.invokevirtual 171, 3) := by decide +kernel
theorem d_M_leaf_220 : decode prog_9_method_30_code 220 = .ok (.goto 72, 3) := by decide +kernel
theorem d_M_leaf_223 : decode prog_9_method_30_code 223 = .ok (.iload 5, 2) := by decide +kernel
theorem d_M_leaf_225 : decode prog_9_method_30_code 225 = .ok (.aload_n 0, 1) := by decide +kernel
theorem d_M_leaf_226 : decode prog_9_method_30_code 226 = .ok (.getfield 105, 3) := by decide +kernel
theorem d_M_leaf_229 : decode prog_9_method_30_code 229 = .ok (.if_icmp .ge 16, 3) := by decide +kernel
theorem d_M_leaf_232 : decode prog_9_method_30_code 232 = .ok (.aload_n 0, 1) := by decide +kernel
theorem d_M_leaf_233 : decode prog_9_method_30_code 233 = .ok (.getfield 112, 3) := by decide +kernel
theorem d_M_leaf_236 : decode prog_9_method_30_code 236 = .ok (.bipush 12, 2) := by decide +kernel
theorem d_M_leaf_238 : decode prog_9_method_30_code 238 = .ok (.if_icmp .ge 7, 3) := by decide +kernel
theorem d_M_leaf_241 : decode prog_9_method_30_code 241 = .ok (.iconst 1, 1) := by decide +kernel
theorem d_M_leaf_242 : decode prog_9_method_30_code 242 = .ok (.goto 4, 3) := by decide +kernel
theorem d_M_leaf_245 : decode prog_9_method_30_code 245 = .ok (.iconst 0, 1) := by decide +kernel
theorem d_M_leaf_246 : decode prog_9_method_30_code 246 = .ok (.istore 6, 2) := by decide +kernel
theorem d_M_leaf_248 : decode prog_9_method_30_code 248 = .ok (.iload 6, 2) := by decide +kernel
theorem d_M_leaf_250 : decode prog_9_method_30_code 250 = .ok (.ifCond .eq 12, 3) := by decide +kernel
theorem d_M_leaf_253 : decode prog_9_method_30_code 253 = .ok (.aload_n 0, 1) := by decide +kernel
theorem d_M_leaf_254 : decode prog_9_method_30_code 254 = .ok (.iload 5, 2) := by decide +kernel
theorem d_M_leaf_256 : decode prog_9_method_30_code 256 = .ok (.invokevirtual 189, 3) := by decide +kernel
theorem d_M_leaf_259 : decode prog_9_method_30_code 259 = .ok (.goto 4, 3) := by decide +kernel
theorem d_M_leaf_262 : decode prog_9_method_30_code 262 = .ok (.iconst (-1), 1) := by decide +kernel
theorem d_M_leaf_263 : decode prog_9_method_30_code 263 = .ok (.istore 7, 2) := by decide +kernel
theorem d_M_leaf_265 : decode prog_9_method_30_code 265 = .ok (.aload_n 0, 1) := by decide +kernel
theorem d_M_leaf_266 : decode prog_9_method_30_code 266 = .ok (.iload_n 3, 1) := by decide +kernel
theorem d_M_leaf_267 : decode prog_9_method_30_code 267 = .ok (.iload 7, 2) := by decide +kernel
theorem d_M_leaf_269 : decode prog_9_method_30_code 269 = .ok (.invokevirtual 171, 3) := by decide +kernel
theorem d_M_leaf_272 : decode prog_9_method_30_code 272 = .ok (.goto 20, 3) := by decide +kernel
theorem d_M_leaf_275 : decode prog_9_method_30_code 275 = .ok (.aload_n 0, 1) := by decide +kernel
theorem d_M_leaf_276 : decode prog_9_method_30_code 276 = .ok (.iload_n 3, 1) := by decide +kernel
theorem d_M_leaf_277 : decode prog_9_method_30_code 277 = .ok (.iload 5, 2) := by decide +kernel
theorem d_M_leaf_279 : decode prog_9_method_30_code 279 = .ok (.invokevirtual 165, 3) := by decide +kernel
theorem d_M_leaf_282 : decode prog_9_method_30_code 282 = .ok (.goto 10, 3) := by decide +kernel
theorem d_M_leaf_285 : decode prog_9_method_30_code 285 = .ok (.aload_n 0, 1) := by decide +kernel
theorem d_M_leaf_286 : decode prog_9_method_30_code 286 = .ok (.iload_n 3, 1) := by decide +kernel
theorem d_M_leaf_287 : decode prog_9_method_30_code 287 = .ok (.iload 5, 2) := by decide +kernel
theorem d_M_leaf_289 : decode prog_9_method_30_code 289 = .ok (.invokevirtual 171, 3) := by decide +kernel
theorem d_M_leaf_292 : decode prog_9_method_30_code 292 = .ok (.return_, 1) := by decide +kernel
theorem d_M_take_0 : decode prog_9_method_31_code 0 = .ok (.iload_n 3, 1) := by decide +kernel
theorem d_M_take_1 : decode prog_9_method_31_code 1 = .ok (.iconst 2, 1) := by decide +kernel
theorem d_M_take_2 : decode prog_9_method_31_code 2 = .ok (.irem, 1) := by decide +kernel
theorem d_M_take_3 : decode prog_9_method_31_code 3 = .ok (.istore 4, 2) := by decide +kernel
theorem d_M_take_5 : decode prog_9_method_31_code 5 = .ok (.iload_n 3, 1) := by decide +kernel
theorem d_M_take_6 : decode prog_9_method_31_code 6 = .ok (.invokestatic 138, 3) := by decide +kernel
theorem d_M_take_9 : decode prog_9_method_31_code 9 = .ok (.istore 5, 2) := by decide +kernel
theorem d_M_take_11 : decode prog_9_method_31_code 11 = .ok (.aload_n 0, 1) := by decide +kernel
theorem d_M_take_12 : decode prog_9_method_31_code 12 = .ok (.getfield 41, 3) := by decide +kernel
theorem d_M_take_15 : decode prog_9_method_31_code 15 = .ok (.iload_n 2, 1) := by decide +kernel
theorem d_M_take_16 : decode prog_9_method_31_code 16 = .ok (.iaload, 1) := by decide +kernel
theorem d_M_take_17 : decode prog_9_method_31_code 17 = .ok (.ifCond .ne 29, 3) := by decide +kernel
theorem d_M_take_20 : decode prog_9_method_31_code 20 = .ok (.aload_n 0, 1) := by decide +kernel
theorem d_M_take_21 : decode prog_9_method_31_code 21 = .ok (.getfield 83, 3) := by decide +kernel
theorem d_M_take_24 : decode prog_9_method_31_code 24 = .ok (.iload 4, 2) := by decide +kernel
theorem d_M_take_26 : decode prog_9_method_31_code 26 = .ok (.iaload, 1) := by decide +kernel
theorem d_M_take_27 : decode prog_9_method_31_code 27 = .ok (.iload 5, 2) := by decide +kernel
theorem d_M_take_29 : decode prog_9_method_31_code 29 = .ok (.if_icmp .lt 17, 3) := by decide +kernel
theorem d_M_take_32 : decode prog_9_method_31_code 32 = .ok (.aload_n 0, 1) := by decide +kernel
theorem d_M_take_33 : decode prog_9_method_31_code 33 = .ok (.iconst 3, 1) := by decide +kernel
theorem d_M_take_34 : decode prog_9_method_31_code 34 = .ok (.iload 4, 2) := by decide +kernel
theorem d_M_take_36 : decode prog_9_method_31_code 36 = .ok (.invokevirtual 135, 3) := by decide +kernel
theorem d_M_take_39 : decode prog_9_method_31_code 39 = .ok (.ifCond .ge 7, 3) := by decide +kernel
theorem d_M_take_42 : decode prog_9_method_31_code 42 = .ok (.iconst 1, 1) := by decide +kernel
theorem d_M_take_43 : decode prog_9_method_31_code 43 = .ok (.goto 4, 3) := by decide +kernel
theorem d_M_take_46 : decode prog_9_method_31_code 46 = .ok (.iconst 0, 1) := by decide +kernel
theorem d_M_take_47 : decode prog_9_method_31_code 47 = .ok (.istore 6, 2) := by decide +kernel
theorem d_M_take_49 : decode prog_9_method_31_code 49 = .ok (.iload 6, 2) := by decide +kernel
theorem d_M_take_51 : decode prog_9_method_31_code 51 = .ok (.ifCond .ne 12, 3) := by decide +kernel
theorem d_M_take_54 : decode prog_9_method_31_code 54 = .ok (.aload_n 0, 1) := by decide +kernel
theorem d_M_take_55 : decode prog_9_method_31_code 55 = .ok (.getfield 56, 3) := by decide +kernel
theorem d_M_take_58 : decode prog_9_method_31_code 58 = .ok (.iload_n 2, 1) := by decide +kernel
theorem d_M_take_59 : decode prog_9_method_31_code 59 = .ok (.baload, 1) := by decide +kernel
theorem d_M_take_60 : decode prog_9_method_31_code 60 = .ok (.ifCond .eq 55, 3) := by decide +kernel
theorem d_M_take_63 : decode prog_9_method_31_code 63 = .ok (.aload_n 0, 1) := by decide +kernel
theorem d_M_take_64 : decode prog_9_method_31_code 64 = .ok (.iload_n 1, 1) := by decide +kernel
theorem d_M_take_65 : decode prog_9_method_31_code 65 = .ok (.invokevirtual 180, 3) := by decide +kernel
theorem d_M_take_68 : decode prog_9_method_31_code 68 = .ok (.istore 7, 2) := by decide +kernel
theorem d_M_take_70 : decode prog_9_method_31_code 70 = .ok (.iload 7, 2) := by decide +kernel
theorem d_M_take_72 : decode prog_9_method_31_code 72 = .ok (.ifCond .ne 9, 3) := by decide +kernel
theorem d_M_take_75 : decode prog_9_method_31_code 75 = .ok (.aload_n 0, 1) := by decide +kernel
theorem d_M_take_76 : decode prog_9_method_31_code 76 = .ok (.iconst 1, 1) := by decide +kernel
theorem d_M_take_77 : decode prog_9_method_31_code 77 = .ok (.putfield 151, 3) := by decide +kernel
theorem d_M_take_80 : decode prog_9_method_31_code 80 = .ok (.return_, 1) := by decide +kernel
theorem d_M_take_81 : decode prog_9_method_31_code 81 = .ok (.iload 6, 2) := by decide +kernel
theorem d_M_take_83 : decode prog_9_method_31_code 83 = .ok (.ifCond .eq 15, 3) := by decide +kernel
theorem d_M_take_86 : decode prog_9_method_31_code 86 = .ok (.aload_n 0, 1) := by decide +kernel
theorem d_M_take_87 : decode prog_9_method_31_code 87 = .ok (.getfield 83, 3) := by decide +kernel
theorem d_M_take_90 : decode prog_9_method_31_code 90 = .ok (.iload 4, 2) := by decide +kernel
theorem d_M_take_92 : decode prog_9_method_31_code 92 = .ok (.dup2, 1) := by decide +kernel
theorem d_M_take_93 : decode prog_9_method_31_code 93 = .ok (.iaload, 1) := by decide +kernel
theorem d_M_take_94 : decode prog_9_method_31_code 94 = .ok (.iload 5, 2) := by decide +kernel
theorem d_M_take_96 : decode prog_9_method_31_code 96 = .ok (.isub, 1) := by decide +kernel
theorem d_M_take_97 : decode prog_9_method_31_code 97 = .ok (.iastore, 1) := by decide +kernel
theorem d_M_take_98 : decode prog_9_method_31_code 98 = .ok (.aload_n 0, 1) := by decide +kernel
theorem d_M_take_99 : decode prog_9_method_31_code 99 = .ok (.getfield 56, 3) := by decide +kernel
theorem d_M_take_102 : decode prog_9_method_31_code 102 = .ok (.iload_n 2, 1) := by decide +kernel
theorem d_M_take_103 : decode prog_9_method_31_code 103 = .ok (.iconst 0, 1) := by decide +kernel
theorem d_M_take_104 : decode prog_9_method_31_code 104 = .ok (.bastore, 1) := by decide +kernel
theorem d_M_take_105 : decode prog_9_method_31_code 105 = .ok (.aload_n 0, 1) := by decide +kernel
theorem d_M_take_106 : decode prog_9_method_31_code 106 = .ok (.iload_n 2, 1) := by decide +kernel
theorem d_M_take_107 : decode prog_9_method_31_code 107 = .ok (.iload 5, 2) := by decide +kernel
theorem d_M_take_109 : decode prog_9_method_31_code 109 = .ok (.invokevirtual 171, 3) := by decide +kernel
theorem d_M_take_112 : decode prog_9_method_31_code 112 = .ok (.goto 62, 3) := by decide +kernel
theorem d_M_take_115 : decode prog_9_method_31_code 115 = .ok (.aload_n 0, 1) := by decide +kernel
theorem d_M_take_116 : decode prog_9_method_31_code 116 = .ok (.getfield 41, 3) := by decide +kernel
theorem d_M_take_119 : decode prog_9_method_31_code 119 = .ok (.iload_n 2, 1) := by decide +kernel
theorem d_M_take_120 : decode prog_9_method_31_code 120 = .ok (.iaload, 1) := by decide +kernel
theorem d_M_take_121 : decode prog_9_method_31_code 121 = .ok (.ifCond .ne 48, 3) := by decide +kernel
theorem d_M_take_124 : decode prog_9_method_31_code 124 = .ok (.aload_n 0, 1) := by decide +kernel
theorem d_M_take_125 : decode prog_9_method_31_code 125 = .ok (.getfield 47, 3) := by decide +kernel
theorem d_M_take_128 : decode prog_9_method_31_code 128 = .ok (.iload_n 2, 1) := by decide +kernel
theorem d_M_take_129 : decode prog_9_method_31_code 129 = .ok (.aload_n 0, 1) := by decide +kernel
theorem d_M_take_130 : decode prog_9_method_31_code 130 = .ok (.getfield 83, 3) := by decide +kernel
theorem d_M_take_133 : decode prog_9_method_31_code 133 = .ok (.iload 4, 2) := by decide +kernel
theorem d_M_take_135 : decode prog_9_method_31_code 135 = .ok (.iaload, 1) := by decide +kernel
theorem d_M_take_136 : decode prog_9_method_31_code 136 = .ok (.iastore, 1) := by decide +kernel
theorem d_M_take_137 : decode prog_9_method_31_code 137 = .ok (.aload_n 0, 1) := by decide +kernel
theorem d_M_take_138 : decode prog_9_method_31_code 138 = .ok (.getfield 83, 3) := by decide +kernel
theorem d_M_take_141 : decode prog_9_method_31_code 141 = .ok (.iload 4, 2) := by decide +kernel
theorem d_M_take_143 : decode prog_9_method_31_code 143 = .ok (.iconst 0, 1) := by decide +kernel
theorem d_M_take_144 : decode prog_9_method_31_code 144 = .ok (.iastore, 1) := by decide +kernel
theorem d_M_take_145 : decode prog_9_method_31_code 145 = .ok (.aload_n 0, 1) := by decide +kernel
theorem d_M_take_146 : decode prog_9_method_31_code 146 = .ok (.getfield 53, 3) := by decide +kernel
theorem d_M_take_149 : decode prog_9_method_31_code 149 = .ok (.iload_n 2, 1) := by decide +kernel
theorem d_M_take_150 : decode prog_9_method_31_code 150 = .ok (.iconst 1, 1) := by decide +kernel
theorem d_M_take_151 : decode prog_9_method_31_code 151 = .ok (.bastore, 1) := by decide +kernel
theorem d_M_take_152 : decode prog_9_method_31_code 152 = .ok (.aload_n 0, 1) := by decide +kernel
theorem d_M_take_153 : decode prog_9_method_31_code 153 = .ok (.getfield 50, 3) := by decide +kernel
theorem d_M_take_156 : decode prog_9_method_31_code 156 = .ok (.iload_n 2, 1) := by decide +kernel
theorem d_M_take_157 : decode prog_9_method_31_code 157 = .ok (.aload_n 0, 1) := by decide +kernel
theorem d_M_take_158 : decode prog_9_method_31_code 158 = .ok (.dup, 1) := by decide +kernel
theorem d_M_take_159 : decode prog_9_method_31_code 159 = .ok (.getfield 192, 3) := by decide +kernel
theorem d_M_take_162 : decode prog_9_method_31_code 162 = .ok (.dup_x1, 1) := by decide +kernel
theorem d_M_take_163 : decode prog_9_method_31_code 163 = .ok (.iconst 1, 1) := by decide +kernel
theorem d_M_take_164 : decode prog_9_method_31_code 164 = .ok (.iadd, 1) := by decide +kernel
theorem d_M_take_165 : decode prog_9_method_31_code 165 = .ok (.putfield 192, 3) := by decide +kernel
theorem d_M_take_168 : decode prog_9_method_31_code 168 = .ok (.iastore, 1) := by decide +kernel
theorem d_M_take_169 : decode prog_9_method_31_code 169 = .ok (.aload_n 0, 1) := by decide +kernel
theorem d_M_take_170 : decode prog_9_method_31_code 170 = .ok (.iload_n 2, 1) := by decide +kernel
theorem d_M_take_171 : decode prog_9_method_31_code 171 = .ok (.invokevirtual 174, 3) := by decide +kernel
theorem d_M_take_174 : decode prog_9_method_31_code 174 = .ok (.return_, 1) := by decide +kernel
theorem d_M_await_0 : decode prog_9_method_32_code 0 = .ok (.aload_n 0, 1) := by decide +kernel
theorem d_M_await_1 : decode prog_9_method_32_code 1 = .ok (.getfield 41, 3) := by decide +kernel
theorem d_M_await_4 : decode prog_9_method_32_code 4 = .ok (.iload_n 2, 1) := by decide +kernel
theorem d_M_await_5 : decode prog_9_method_32_code 5 = .ok (.iaload, 1) := by decide +kernel
theorem d_M_await_6 : decode prog_9_method_32_code 6 = .ok (.ifCond .ne 16, 3) := by decide +kernel
theorem d_M_await_9 : decode prog_9_method_32_code 9 = .ok (.aload_n 0, 1) := by decide +kernel
theorem d_M_await_10 : decode prog_9_method_32_code 10 = .ok (.getfield 86, 3) := by decide +kernel
theorem d_M_await_13 : decode prog_9_method_32_code 13 = .ok (.iload_n 3, 1) := by decide +kernel
theorem d_M_await_14 : decode prog_9_method_32_code 14 = .ok (.baload, 1) := by decide +kernel
theorem d_M_await_15 : decode prog_9_method_32_code 15 = .ok (.ifCond .eq 7, 3) := by decide +kernel
theorem d_M_await_18 : decode prog_9_method_32_code 18 = .ok (.iconst 1, 1) := by decide +kernel
theorem d_M_await_19 : decode prog_9_method_32_code 19 = .ok (.goto 4, 3) := by decide +kernel
theorem d_M_await_22 : decode prog_9_method_32_code 22 = .ok (.iconst 0, 1) := by decide +kernel
theorem d_M_await_23 : decode prog_9_method_32_code 23 = .ok (.istore 4, 2) := by decide +kernel
theorem d_M_await_25 : decode prog_9_method_32_code 25 = .ok (.iload 4, 2) := by decide +kernel
theorem d_M_await_27 : decode prog_9_method_32_code 27 = .ok (.ifCond .ne 12, 3) := by decide +kernel
theorem d_M_await_30 : decode prog_9_method_32_code 30 = .ok (.aload_n 0, 1) := by decide +kernel
theorem d_M_await_31 : decode prog_9_method_32_code 31 = .ok (.getfield 56, 3) := by decide +kernel
theorem d_M_await_34 : decode prog_9_method_32_code 34 = .ok (.iload_n 2, 1) := by decide +kernel
theorem d_M_await_35 : decode prog_9_method_32_code 35 = .ok (.baload, 1) := by decide +kernel
theorem d_M_await_36 : decode prog_9_method_32_code 36 = .ok (.ifCond .eq 49, 3) := by decide +kernel
theorem d_M_await_39 : decode prog_9_method_32_code 39 = .ok (.aload_n 0, 1) := by decide +kernel
theorem d_M_await_40 : decode prog_9_method_32_code 40 = .ok (.iload_n 1, 1) := by decide +kernel
theorem d_M_await_41 : decode prog_9_method_32_code 41 = .ok (.invokevirtual 180, 3) := by decide +kernel
theorem d_M_await_44 : decode prog_9_method_32_code 44 = .ok (.istore 5, 2) := by decide +kernel
theorem d_M_await_46 : decode prog_9_method_32_code 46 = .ok (.iload 5, 2) := by decide +kernel
theorem d_M_await_48 : decode prog_9_method_32_code 48 = .ok (.ifCond .ne 9, 3) := by decide +kernel
theorem d_M_await_51 : decode prog_9_method_32_code 51 = .ok (.aload_n 0, 1) := by decide +kernel
theorem d_M_await_52 : decode prog_9_method_32_code 52 = .ok (.iconst 1, 1) := by decide +kernel
theorem d_M_await_53 : decode prog_9_method_32_code 53 = .ok (.putfield 151, 3) := by decide +kernel
theorem d_M_await_56 : decode prog_9_method_32_code 56 = .ok (.return_, 1) := by decide +kernel
theorem d_M_await_57 : decode prog_9_method_32_code 57 = .ok (.iload 4, 2) := by decide +kernel
theorem d_M_await_59 : decode prog_9_method_32_code 59 = .ok (.ifCond .eq 10, 3) := by decide +kernel
theorem d_M_await_62 : decode prog_9_method_32_code 62 = .ok (.aload_n 0, 1) := by decide +kernel
theorem d_M_await_63 : decode prog_9_method_32_code 63 = .ok (.getfield 86, 3) := by decide +kernel
theorem d_M_await_66 : decode prog_9_method_32_code 66 = .ok (.iload_n 3, 1) := by decide +kernel
theorem d_M_await_67 : decode prog_9_method_32_code 67 = .ok (.iconst 0, 1) := by decide +kernel
theorem d_M_await_68 : decode prog_9_method_32_code 68 = .ok (.bastore, 1) := by decide +kernel
theorem d_M_await_69 : decode prog_9_method_32_code 69 = .ok (.aload_n 0, 1) := by decide +kernel
theorem d_M_await_70 : decode prog_9_method_32_code 70 = .ok (.getfield 56, 3) := by decide +kernel
theorem d_M_await_73 : decode prog_9_method_32_code 73 = .ok (.iload_n 2, 1) := by decide +kernel
theorem d_M_await_74 : decode prog_9_method_32_code 74 = .ok (.iconst 0, 1) := by decide +kernel
theorem d_M_await_75 : decode prog_9_method_32_code 75 = .ok (.bastore, 1) := by decide +kernel
theorem d_M_await_76 : decode prog_9_method_32_code 76 = .ok (.aload_n 0, 1) := by decide +kernel
theorem d_M_await_77 : decode prog_9_method_32_code 77 = .ok (.iload_n 2, 1) := by decide +kernel
theorem d_M_await_78 : decode prog_9_method_32_code 78 = .ok (.iconst 1, 1) := by decide +kernel
theorem d_M_await_79 : decode prog_9_method_32_code 79 = .ok (.invokevirtual 171, 3) := by decide +kernel
theorem d_M_await_82 : decode prog_9_method_32_code 82 = .ok (.goto 41, 3) := by decide +kernel
theorem d_M_await_85 : decode prog_9_method_32_code 85 = .ok (.aload_n 0, 1) := by decide +kernel
theorem d_M_await_86 : decode prog_9_method_32_code 86 = .ok (.getfield 41, 3) := by decide +kernel
theorem d_M_await_89 : decode prog_9_method_32_code 89 = .ok (.iload_n 2, 1) := by decide +kernel
theorem d_M_await_90 : decode prog_9_method_32_code 90 = .ok (.iaload, 1) := by decide +kernel
theorem d_M_await_91 : decode prog_9_method_32_code 91 = .ok (.ifCond .ne 27, 3) := by decide +kernel
theorem d_M_await_94 : decode prog_9_method_32_code 94 = .ok (.aload_n 0, 1) := by decide +kernel
theorem d_M_await_95 : decode prog_9_method_32_code 95 = .ok (.getfield 53, 3) := by decide +kernel
theorem d_M_await_98 : decode prog_9_method_32_code 98 = .ok (.iload_n 2, 1) := by decide +kernel
theorem d_M_await_99 : decode prog_9_method_32_code 99 = .ok (.iconst 1, 1) := by decide +kernel
theorem d_M_await_100 : decode prog_9_method_32_code 100 = .ok (.bastore, 1) := by decide +kernel
theorem d_M_await_101 : decode prog_9_method_32_code 101 = .ok (.aload_n 0, 1) := by decide +kernel
theorem d_M_await_102 : decode prog_9_method_32_code 102 = .ok (.getfield 50, 3) := by decide +kernel
theorem d_M_await_105 : decode prog_9_method_32_code 105 = .ok (.iload_n 2, 1) := by decide +kernel
theorem d_M_await_106 : decode prog_9_method_32_code 106 = .ok (.aload_n 0, 1) := by decide +kernel
theorem d_M_await_107 : decode prog_9_method_32_code 107 = .ok (.dup, 1) := by decide +kernel
theorem d_M_await_108 : decode prog_9_method_32_code 108 = .ok (.getfield 192, 3) := by decide +kernel
theorem d_M_await_111 : decode prog_9_method_32_code 111 = .ok (.dup_x1, 1) := by decide +kernel
theorem d_M_await_112 : decode prog_9_method_32_code 112 = .ok (.iconst 1, 1) := by decide +kernel
theorem d_M_await_113 : decode prog_9_method_32_code 113 = .ok (.iadd, 1) := by decide +kernel
theorem d_M_await_114 : decode prog_9_method_32_code 114 = .ok (.putfield 192, 3) := by decide +kernel
theorem d_M_await_117 : decode prog_9_method_32_code 117 = .ok (.iastore, 1) := by decide +kernel
theorem d_M_await_118 : decode prog_9_method_32_code 118 = .ok (.aload_n 0, 1) := by decide +kernel
theorem d_M_await_119 : decode prog_9_method_32_code 119 = .ok (.iload_n 2, 1) := by decide +kernel
theorem d_M_await_120 : decode prog_9_method_32_code 120 = .ok (.invokevirtual 174, 3) := by decide +kernel
theorem d_M_await_123 : decode prog_9_method_32_code 123 = .ok (.return_, 1) := by decide +kernel
theorem d_M_ends_0 : decode prog_9_method_33_code 0 = .ok (.aload_n 0, 1) := by decide +kernel
theorem d_M_ends_1 : decode prog_9_method_33_code 1 = .ok (.getfield 19, 3) := by decide +kernel
theorem d_M_ends_4 : decode prog_9_method_33_code 4 = .ok (.iload_n 1, 1) := by decide +kernel
theorem d_M_ends_5 : decode prog_9_method_33_code 5 = .ok (.iload_n 2, 1) := by decide +kernel
theorem d_M_ends_6 : decode prog_9_method_33_code 6 = .ok (.iastore, 1) := by decide +kernel
theorem d_M_ends_7 : decode prog_9_method_33_code 7 = .ok (.aload_n 0, 1) := by decide +kernel
theorem d_M_ends_8 : decode prog_9_method_33_code 8 = .ok (.getfield 22, 3) := by decide +kernel
theorem d_M_ends_11 : decode prog_9_method_33_code 11 = .ok (.iload_n 1, 1) := by decide +kernel
theorem d_M_ends_12 : decode prog_9_method_33_code 12 = .ok (.iload_n 3, 1) := by decide +kernel
theorem d_M_ends_13 : decode prog_9_method_33_code 13 = .ok (.iastore, 1) := by decide +kernel
theorem d_M_ends_14 : decode prog_9_method_33_code 14 = .ok (.return_, 1) := by decide +kernel
theorem d_M_tellReapers_0 : decode prog_9_method_34_code 0 = .ok (.iconst 0, 1) := by decide +kernel
theorem d_M_tellReapers_1 : decode prog_9_method_34_code 1 = .ok (.istore_n 2, 1) := by decide +kernel
theorem d_M_tellReapers_2 : decode prog_9_method_34_code 2 = .ok (.iload_n 2, 1) := by decide +kernel
theorem d_M_tellReapers_3 : decode prog_9_method_34_code 3 = .ok (.aload_n 0, 1) := by decide +kernel
theorem d_M_tellReapers_4 : decode prog_9_method_34_code 4 = .ok (.getfield 112, 3) := by decide +kernel
theorem d_M_tellReapers_7 : decode prog_9_method_34_code 7 = .ok (.if_icmp .ge 111, 3) := by decide +kernel
theorem d_M_tellReapers_10 : decode prog_9_method_34_code 10 = .ok (.iconst 0, 1) := by decide +kernel
theorem d_M_tellReapers_11 : decode prog_9_method_34_code 11 = .ok (.istore_n 3, 1) := by decide +kernel
theorem d_M_tellReapers_12 : decode prog_9_method_34_code 12 = .ok (.iconst 0, 1) := by decide +kernel
theorem d_M_tellReapers_13 : decode prog_9_method_34_code 13 = .ok (.istore 4, 2) := by decide +kernel
theorem d_M_tellReapers_15 : decode prog_9_method_34_code 15 = .ok (.iload 4, 2) := by decide +kernel
theorem d_M_tellReapers_17 : decode prog_9_method_34_code 17 = .ok (.aload_n 0, 1) := by decide +kernel
theorem d_M_tellReapers_18 : decode prog_9_method_34_code 18 = .ok (.getfield 16, 3) := by decide +kernel
theorem d_M_tellReapers_21 : decode prog_9_method_34_code 21 = .ok (.aload_n 0, 1) := by decide +kernel
theorem d_M_tellReapers_22 : decode prog_9_method_34_code 22 = .ok (.getfield 28, 3) := by decide +kernel
theorem d_M_tellReapers_25 : decode prog_9_method_34_code 25 = .ok (.iload_n 2, 1) := by decide +kernel
theorem d_M_tellReapers_26 : decode prog_9_method_34_code 26 = .ok (.iaload, 1) := by decide +kernel
theorem d_M_tellReapers_27 : decode prog_9_method_34_code 27 = .ok (.iaload, 1) := by decide +kernel
theorem d_M_tellReapers_28 : decode prog_9_method_34_code 28 = .ok (.if_icmp .ge 75, 3) := by decide +kernel
theorem d_M_tellReapers_31 : decode prog_9_method_34_code 31 = .ok (.bipush 12, 2) := by decide +kernel
theorem d_M_tellReapers_33 : decode prog_9_method_34_code 33 = .ok (.iload_n 2, 1) := by decide +kernel
theorem d_M_tellReapers_34 : decode prog_9_method_34_code 34 = .ok (.imul, 1) := by decide +kernel
theorem d_M_tellReapers_35 : decode prog_9_method_34_code 35 = .ok (.iload 4, 2) := by decide +kernel
theorem d_M_tellReapers_37 : decode prog_9_method_34_code 37 = .ok (.iadd, 1) := by decide +kernel
theorem d_M_tellReapers_38 : decode prog_9_method_34_code 38 = .ok (.istore 5, 2) := by decide +kernel
theorem d_M_tellReapers_40 : decode prog_9_method_34_code 40 = .ok (.iload_n 3, 1) := by decide +kernel
theorem d_M_tellReapers_41 : decode prog_9_method_34_code 41 = .ok (.aload_n 0, 1) := by decide +kernel
theorem d_M_tellReapers_42 : decode prog_9_method_34_code 42 = .ok (.iload_n 2, 1) := by decide +kernel
theorem d_M_tellReapers_43 : decode prog_9_method_34_code 43 = .ok (.iload 4, 2) := by decide +kernel
theorem d_M_tellReapers_45 : decode prog_9_method_34_code 45 = .ok (.invokevirtual 108, 3) := by decide +kernel
theorem d_M_tellReapers_48 : decode prog_9_method_34_code 48 = .ok (.bipush 8, 2) := by decide +kernel
theorem d_M_tellReapers_50 : decode prog_9_method_34_code 50 = .ok (.if_icmp .ne 44, 3) := by decide +kernel
theorem d_M_tellReapers_53 : decode prog_9_method_34_code 53 = .ok (.aload_n 0, 1) := by decide +kernel
theorem d_M_tellReapers_54 : decode prog_9_method_34_code 54 = .ok (.getfield 41, 3) := by decide +kernel
theorem d_M_tellReapers_57 : decode prog_9_method_34_code 57 = .ok (.iload 5, 2) := by decide +kernel
theorem d_M_tellReapers_59 : decode prog_9_method_34_code 59 = .ok (.iaload, 1) := by decide +kernel
theorem d_M_tellReapers_60 : decode prog_9_method_34_code 60 = .ok (.iconst 1, 1) := by decide +kernel
theorem d_M_tellReapers_61 : decode prog_9_method_34_code 61 = .ok (.if_icmp .ne 33, 3) := by decide +kernel
theorem d_M_tellReapers_64 : decode prog_9_method_34_code 64 = .ok (.aload_n 0, 1) := by decide +kernel
theorem d_M_tellReapers_65 : decode prog_9_method_34_code 65 = .ok (.getfield 41, 3) := by decide +kernel
theorem d_M_tellReapers_68 : decode prog_9_method_34_code 68 = .ok (.iload 5, 2) := by decide +kernel
theorem d_M_tellReapers_70 : decode prog_9_method_34_code 70 = .ok (.iconst 1, 1) := by decide +kernel
theorem d_M_tellReapers_71 : decode prog_9_method_34_code 71 = .ok (.iadd, 1) := by decide +kernel
theorem d_M_tellReapers_72 : decode prog_9_method_34_code 72 = .ok (.iaload, 1) := by decide +kernel
theorem d_M_tellReapers_73 : decode prog_9_method_34_code 73 = .ok (.iconst 2, 1) := by decide +kernel
theorem d_M_tellReapers_74 : decode prog_9_method_34_code 74 = .ok (.if_icmp .ne 20, 3) := by decide +kernel
theorem d_M_tellReapers_77 : decode prog_9_method_34_code 77 = .ok (.aload_n 0, 1) := by decide +kernel
theorem d_M_tellReapers_78 : decode prog_9_method_34_code 78 = .ok (.getfield 44, 3) := by decide +kernel
theorem d_M_tellReapers_81 : decode prog_9_method_34_code 81 = .ok (.iload 5, 2) := by decide +kernel
theorem d_M_tellReapers_83 : decode prog_9_method_34_code 83 = .ok (.iconst 1, 1) := by decide +kernel
theorem d_M_tellReapers_84 : decode prog_9_method_34_code 84 = .ok (.iadd, 1) := by decide +kernel
theorem d_M_tellReapers_85 : decode prog_9_method_34_code 85 = .ok (.iaload, 1) := by decide +kernel
theorem d_M_tellReapers_86 : decode prog_9_method_34_code 86 = .ok (.iload_n 1, 1) := by decide +kernel
theorem d_M_tellReapers_87 : decode prog_9_method_34_code 87 = .ok (.if_icmp .ne 7, 3) := by decide +kernel
theorem d_M_tellReapers_90 : decode prog_9_method_34_code 90 = .ok (.iconst 1, 1) := by decide +kernel
theorem d_M_tellReapers_91 : decode prog_9_method_34_code 91 = .ok (.goto 4, 3) := by decide +kernel
theorem d_M_tellReapers_94 : decode prog_9_method_34_code 94 = .ok (.iconst 0, 1) := by decide +kernel
theorem d_M_tellReapers_95 : decode prog_9_method_34_code 95 = .ok (.ior, 1) := by decide +kernel
theorem d_M_tellReapers_96 : decode prog_9_method_34_code 96 = .ok (.istore_n 3, 1) := by decide +kernel
theorem d_M_tellReapers_97 : decode prog_9_method_34_code 97 = .ok (.iinc 4 1, 3) := by decide +kernel
theorem d_M_tellReapers_100 : decode prog_9_method_34_code 100 = .ok (.goto (-85), 3) := by decide +kernel
theorem d_M_tellReapers_103 : decode prog_9_method_34_code 103 = .ok (.iload_n 3, 1) := by decide +kernel
theorem d_M_tellReapers_104 : decode prog_9_method_34_code 104 = .ok (.ifCond .eq 8, 3) := by decide +kernel
theorem d_M_tellReapers_107 : decode prog_9_method_34_code 107 = .ok (.aload_n 0, 1) := by decide +kernel
theorem d_M_tellReapers_108 : decode prog_9_method_34_code 108 = .ok (.iload_n 2, 1) := by decide +kernel
theorem d_M_tellReapers_109 : decode prog_9_method_34_code 109 = .ok (.invokevirtual 115, 3) := by decide +kernel
theorem d_M_tellReapers_112 : decode prog_9_method_34_code 112 = .ok (.iinc 2 1, 3) := by decide +kernel
theorem d_M_tellReapers_115 : decode prog_9_method_34_code 115 = .ok (.goto (-113), 3) := by decide +kernel
theorem d_M_tellReapers_118 : decode prog_9_method_34_code 118 = .ok (.return_, 1) := by decide +kernel
theorem d_M_work_0 : decode prog_9_method_35_code 0 = .ok (.aload_n 0, 1) := by decide +kernel
theorem d_M_work_1 : decode prog_9_method_35_code 1 = .ok (.getfield 19, 3) := by decide +kernel
theorem d_M_work_4 : decode prog_9_method_35_code 4 = .ok (.iload_n 1, 1) := by decide +kernel
theorem d_M_work_5 : decode prog_9_method_35_code 5 = .ok (.iconst 5, 1) := by decide +kernel
theorem d_M_work_6 : decode prog_9_method_35_code 6 = .ok (.iastore, 1) := by decide +kernel
theorem d_M_work_7 : decode prog_9_method_35_code 7 = .ok (.aload_n 0, 1) := by decide +kernel
theorem d_M_work_8 : decode prog_9_method_35_code 8 = .ok (.getfield 34, 3) := by decide +kernel
theorem d_M_work_11 : decode prog_9_method_35_code 11 = .ok (.iload_n 1, 1) := by decide +kernel
theorem d_M_work_12 : decode prog_9_method_35_code 12 = .ok (.iconst 0, 1) := by decide +kernel
theorem d_M_work_13 : decode prog_9_method_35_code 13 = .ok (.iastore, 1) := by decide +kernel
theorem d_M_work_14 : decode prog_9_method_35_code 14 = .ok (.aload_n 0, 1) := by decide +kernel
theorem d_M_work_15 : decode prog_9_method_35_code 15 = .ok (.getfield 37, 3) := by decide +kernel
theorem d_M_work_18 : decode prog_9_method_35_code 18 = .ok (.iload_n 1, 1) := by decide +kernel
theorem d_M_work_19 : decode prog_9_method_35_code 19 = .ok (.iconst 0, 1) := by decide +kernel
theorem d_M_work_20 : decode prog_9_method_35_code 20 = .ok (.bastore, 1) := by decide +kernel
theorem d_M_work_21 : decode prog_9_method_35_code 21 = .ok (.aload_n 0, 1) := by decide +kernel
theorem d_M_work_22 : decode prog_9_method_35_code 22 = .ok (.getfield 31, 3) := by decide +kernel
theorem d_M_work_25 : decode prog_9_method_35_code 25 = .ok (.iload_n 1, 1) := by decide +kernel
theorem d_M_work_26 : decode prog_9_method_35_code 26 = .ok (.iconst 4, 1) := by decide +kernel
theorem d_M_work_27 : decode prog_9_method_35_code 27 = .ok (.iastore, 1) := by decide +kernel
theorem d_M_work_28 : decode prog_9_method_35_code 28 = .ok (.aload_n 0, 1) := by decide +kernel
theorem d_M_work_29 : decode prog_9_method_35_code 29 = .ok (.getfield 25, 3) := by decide +kernel
theorem d_M_work_32 : decode prog_9_method_35_code 32 = .ok (.iload_n 1, 1) := by decide +kernel
theorem d_M_work_33 : decode prog_9_method_35_code 33 = .ok (.dup2, 1) := by decide +kernel
theorem d_M_work_34 : decode prog_9_method_35_code 34 = .ok (.iaload, 1) := by decide +kernel
theorem d_M_work_35 : decode prog_9_method_35_code 35 = .ok (.iconst 1, 1) := by decide +kernel
theorem d_M_work_36 : decode prog_9_method_35_code 36 = .ok (.iadd, 1) := by decide +kernel
theorem d_M_work_37 : decode prog_9_method_35_code 37 = .ok (.iastore, 1) := by decide +kernel
theorem d_M_work_38 : decode prog_9_method_35_code 38 = .ok (.aload_n 0, 1) := by decide +kernel
theorem d_M_work_39 : decode prog_9_method_35_code 39 = .ok (.dup, 1) := by decide +kernel
theorem d_M_work_40 : decode prog_9_method_35_code 40 = .ok (.getfield 195, 3) := by decide +kernel
theorem d_M_work_43 : decode prog_9_method_35_code 43 = .ok (.iconst 1, 1) := by decide +kernel
theorem d_M_work_44 : decode prog_9_method_35_code 44 = .ok (.iadd, 1) := by decide +kernel
theorem d_M_work_45 : decode prog_9_method_35_code 45 = .ok (.putfield 195, 3) := by decide +kernel
theorem d_M_work_48 : decode prog_9_method_35_code 48 = .ok (.aload_n 0, 1) := by decide +kernel
theorem d_M_work_49 : decode prog_9_method_35_code 49 = .ok (.iload_n 1, 1) := by decide +kernel
theorem d_M_work_50 : decode prog_9_method_35_code 50 = .ok (.invokevirtual 198, 3) := by decide +kernel
theorem d_M_work_53 : decode prog_9_method_35_code 53 = .ok (.bipush 12, 2) := by decide +kernel
theorem d_M_work_55 : decode prog_9_method_35_code 55 = .ok (.iload_n 1, 1) := by decide +kernel
theorem d_M_work_56 : decode prog_9_method_35_code 56 = .ok (.imul, 1) := by decide +kernel
theorem d_M_work_57 : decode prog_9_method_35_code 57 = .ok (.istore_n 3, 1) := by decide +kernel
theorem d_M_work_58 : decode prog_9_method_35_code 58 = .ok (.aload_n 0, 1) := by decide +kernel
theorem d_M_work_59 : decode prog_9_method_35_code 59 = .ok (.getfield 151, 3) := by decide +kernel
theorem d_M_work_62 : decode prog_9_method_35_code 62 = .ok (.iconst 1, 1) := by decide +kernel
theorem d_M_work_63 : decode prog_9_method_35_code 63 = .ok (.if_icmp .ne 41, 3) := by decide +kernel
theorem d_M_work_66 : decode prog_9_method_35_code 66 = .ok (.aload_n 0, 1) := by decide +kernel
theorem d_M_work_67 : decode prog_9_method_35_code 67 = .ok (.getfield 19, 3) := by decide +kernel
theorem d_M_work_70 : decode prog_9_method_35_code 70 = .ok (.iload_n 1, 1) := by decide +kernel
theorem d_M_work_71 : decode prog_9_method_35_code 71 = .ok (.aload_n 0, 1) := by decide +kernel
theorem d_M_work_72 : decode prog_9_method_35_code 72 = .ok (.getfield 37, 3) := by decide +kernel
theorem d_M_work_75 : decode prog_9_method_35_code 75 = .ok (.iload_n 1, 1) := by decide +kernel
theorem d_M_work_76 : decode prog_9_method_35_code 76 = .ok (.baload, 1) := by decide +kernel
theorem d_M_work_77 : decode prog_9_method_35_code 77 = .ok (.ifCond .eq 7, 3) := by decide +kernel
theorem d_M_work_80 : decode prog_9_method_35_code 80 = .ok (.iconst 1, 1) := by decide +kernel
theorem d_M_work_81 : decode prog_9_method_35_code 81 = .ok (.goto 4, 3) := by decide +kernel
theorem d_M_work_84 : decode prog_9_method_35_code 84 = .ok (.iconst 0, 1) := by decide +kernel
theorem d_M_work_85 : decode prog_9_method_35_code 85 = .ok (.iastore, 1) := by decide +kernel
theorem d_M_work_86 : decode prog_9_method_35_code 86 = .ok (.aload_n 0, 1) := by decide +kernel
theorem d_M_work_87 : decode prog_9_method_35_code 87 = .ok (.getfield 37, 3) := by decide +kernel
theorem d_M_work_90 : decode prog_9_method_35_code 90 = .ok (.iload_n 1, 1) := by decide +kernel
theorem d_M_work_91 : decode prog_9_method_35_code 91 = .ok (.baload, 1) := by decide +kernel
theorem d_M_work_92 : decode prog_9_method_35_code 92 = .ok (.ifCond .eq 41, 3) := by decide +kernel
theorem d_M_work_95 : decode prog_9_method_35_code 95 = .ok (.aload_n 0, 1) := by decide +kernel
theorem d_M_work_96 : decode prog_9_method_35_code 96 = .ok (.iload_n 1, 1) := by decide +kernel
theorem d_M_work_97 : decode prog_9_method_35_code 97 = .ok (.iload_n 2, 1) := by decide +kernel
theorem d_M_work_98 : decode prog_9_method_35_code 98 = .ok (.invokevirtual 128, 3) := by decide +kernel
theorem d_M_work_101 : decode prog_9_method_35_code 101 = .ok (.goto 32, 3) := by decide +kernel
theorem d_M_work_104 : decode prog_9_method_35_code 104 = .ok (.aload_n 0, 1) := by decide +kernel
theorem d_M_work_105 : decode prog_9_method_35_code 105 = .ok (.iload_n 1, 1) := by decide +kernel
theorem d_M_work_106 : decode prog_9_method_35_code 106 = .ok (.aload_n 0, 1) := by decide +kernel
theorem d_M_work_107 : decode prog_9_method_35_code 107 = .ok (.getfield 151, 3) := by decide +kernel
theorem d_M_work_110 : decode prog_9_method_35_code 110 = .ok (.iconst 2, 1) := by decide +kernel
theorem d_M_work_111 : decode prog_9_method_35_code 111 = .ok (.if_icmp .ne 7, 3) := by decide +kernel
theorem d_M_work_114 : decode prog_9_method_35_code 114 = .ok (.iconst 2, 1) := by decide +kernel
theorem d_M_work_115 : decode prog_9_method_35_code 115 = .ok (.goto 4, 3) := by decide +kernel
theorem d_M_work_118 : decode prog_9_method_35_code 118 = .ok (.iconst 3, 1) := by decide +kernel
theorem d_M_work_119 : decode prog_9_method_35_code 119 = .ok (.aload_n 0, 1) := by decide +kernel
theorem d_M_work_120 : decode prog_9_method_35_code 120 = .ok (.getfield 44, 3) := by decide +kernel
theorem d_M_work_123 : decode prog_9_method_35_code 123 = .ok (.iload_n 3, 1) := by decide +kernel
theorem d_M_work_124 : decode prog_9_method_35_code 124 = .ok (.iaload, 1) := by decide +kernel
theorem d_M_work_125 : decode prog_9_method_35_code 125 = .ok (.invokevirtual 201, 3) := by decide +kernel
theorem d_M_work_128 : decode prog_9_method_35_code 128 = .ok (.aload_n 0, 1) := by decide +kernel
theorem d_M_work_129 : decode prog_9_method_35_code 129 = .ok (.iload_n 1, 1) := by decide +kernel
theorem d_M_work_130 : decode prog_9_method_35_code 130 = .ok (.invokevirtual 204, 3) := by decide +kernel
theorem d_M_work_133 : decode prog_9_method_35_code 133 = .ok (.return_, 1) := by decide +kernel
theorem d_M_choose_0 : decode prog_9_method_36_code 0 = .ok (.aload_n 0, 1) := by decide +kernel
theorem d_M_choose_1 : decode prog_9_method_36_code 1 = .ok (.getfield 71, 3) := by decide +kernel
theorem d_M_choose_4 : decode prog_9_method_36_code 4 = .ok (.iload_n 1, 1) := by decide +kernel
theorem d_M_choose_5 : decode prog_9_method_36_code 5 = .ok (.iaload, 1) := by decide +kernel
theorem d_M_choose_6 : decode prog_9_method_36_code 6 = .ok (.istore_n 2, 1) := by decide +kernel
theorem d_M_choose_7 : decode prog_9_method_36_code 7 = .ok (.aload_n 0, 1) := by decide +kernel
theorem d_M_choose_8 : decode prog_9_method_36_code 8 = .ok (.getfield 71, 3) := by decide +kernel
theorem d_M_choose_11 : decode prog_9_method_36_code 11 = .ok (.iload_n 1, 1) := by decide +kernel
theorem d_M_choose_12 : decode prog_9_method_36_code 12 = .ok (.iconst 0, 1) := by decide +kernel
theorem d_M_choose_13 : decode prog_9_method_36_code 13 = .ok (.iastore, 1) := by decide +kernel
theorem d_M_choose_14 : decode prog_9_method_36_code 14 = .ok (.aload_n 0, 1) := by decide +kernel
theorem d_M_choose_15 : decode prog_9_method_36_code 15 = .ok (.getfield 68, 3) := by decide +kernel
theorem d_M_choose_18 : decode prog_9_method_36_code 18 = .ok (.iload_n 1, 1) := by decide +kernel
theorem d_M_choose_19 : decode prog_9_method_36_code 19 = .ok (.iaload, 1) := by decide +kernel
theorem d_M_choose_20 : decode prog_9_method_36_code 20 = .ok (.iconst 5, 1) := by decide +kernel
theorem d_M_choose_21 : decode prog_9_method_36_code 21 = .ok (.irem, 1) := by decide +kernel
theorem d_M_choose_22 : decode prog_9_method_36_code 22 = .ok (.ifCond .ne 15, 3) := by decide +kernel
theorem d_M_choose_25 : decode prog_9_method_36_code 25 = .ok (.aload_n 0, 1) := by decide +kernel
theorem d_M_choose_26 : decode prog_9_method_36_code 26 = .ok (.getfield 119, 3) := by decide +kernel
theorem d_M_choose_29 : decode prog_9_method_36_code 29 = .ok (.ifCond .le 8, 3) := by decide +kernel
theorem d_M_choose_32 : decode prog_9_method_36_code 32 = .ok (.aload_n 0, 1) := by decide +kernel
theorem d_M_choose_33 : decode prog_9_method_36_code 33 = .ok (.invokevirtual 207, 3) := by decide +kernel
theorem d_M_choose_36 : decode prog_9_method_36_code 36 = .ok (.ireturn, 1) := by decide +kernel
theorem d_M_choose_37 : decode prog_9_method_36_code 37 = .ok (.aload_n 0, 1) := by decide +kernel
theorem d_M_choose_38 : decode prog_9_method_36_code 38 = .ok (.getfield 77, 3) := by decide +kernel
theorem d_M_choose_41 : decode prog_9_method_36_code 41 = .ok (.iload_n 1, 1) := by decide +kernel
theorem d_M_choose_42 : decode prog_9_method_36_code 42 = .ok (.iaload, 1) := by decide +kernel
theorem d_M_choose_43 : decode prog_9_method_36_code 43 = .ok (.ifCond .gt 10, 3) := by decide +kernel
theorem d_M_choose_46 : decode prog_9_method_36_code 46 = .ok (.aload_n 0, 1) := by decide +kernel
theorem d_M_choose_47 : decode prog_9_method_36_code 47 = .ok (.getfield 119, 3) := by decide +kernel
theorem d_M_choose_50 : decode prog_9_method_36_code 50 = .ok (.ifCond .le 7, 3) := by decide +kernel
theorem d_M_choose_53 : decode prog_9_method_36_code 53 = .ok (.iconst 1, 1) := by decide +kernel
theorem d_M_choose_54 : decode prog_9_method_36_code 54 = .ok (.goto 4, 3) := by decide +kernel
theorem d_M_choose_57 : decode prog_9_method_36_code 57 = .ok (.iconst 0, 1) := by decide +kernel
theorem d_M_choose_58 : decode prog_9_method_36_code 58 = .ok (.istore_n 3, 1) := by decide +kernel
theorem d_M_choose_59 : decode prog_9_method_36_code 59 = .ok (.aload_n 0, 1) := by decide +kernel
theorem d_M_choose_60 : decode prog_9_method_36_code 60 = .ok (.getfield 65, 3) := by decide +kernel
theorem d_M_choose_63 : decode prog_9_method_36_code 63 = .ok (.iload_n 1, 1) := by decide +kernel
theorem d_M_choose_64 : decode prog_9_method_36_code 64 = .ok (.iaload, 1) := by decide +kernel
theorem d_M_choose_65 : decode prog_9_method_36_code 65 = .ok (.ifCond .lt 39, 3) := by decide +kernel
theorem d_M_choose_68 : decode prog_9_method_36_code 68 = .ok (.iload_n 2, 1) := by decide +kernel
theorem d_M_choose_69 : decode prog_9_method_36_code 69 = .ok (.iconst 2, 1) := by decide +kernel
theorem d_M_choose_70 : decode prog_9_method_36_code 70 = .ok (.if_icmp .lt 7, 3) := by decide +kernel
theorem d_M_choose_73 : decode prog_9_method_36_code 73 = .ok (.iload_n 3, 1) := by decide +kernel
theorem d_M_choose_74 : decode prog_9_method_36_code 74 = .ok (.ifCond .ne 30, 3) := by decide +kernel
theorem d_M_choose_77 : decode prog_9_method_36_code 77 = .ok (.aload_n 0, 1) := by decide +kernel
theorem d_M_choose_78 : decode prog_9_method_36_code 78 = .ok (.getfield 65, 3) := by decide +kernel
theorem d_M_choose_81 : decode prog_9_method_36_code 81 = .ok (.iload_n 1, 1) := by decide +kernel
theorem d_M_choose_82 : decode prog_9_method_36_code 82 = .ok (.iaload, 1) := by decide +kernel
theorem d_M_choose_83 : decode prog_9_method_36_code 83 = .ok (.istore 4, 2) := by decide +kernel
theorem d_M_choose_85 : decode prog_9_method_36_code 85 = .ok (.aload_n 0, 1) := by decide +kernel
theorem d_M_choose_86 : decode prog_9_method_36_code 86 = .ok (.getfield 65, 3) := by decide +kernel
theorem d_M_choose_89 : decode prog_9_method_36_code 89 = .ok (.iload_n 1, 1) := by decide +kernel
theorem d_M_choose_90 : decode prog_9_method_36_code 90 = .ok (.iconst (-1), 1) := by decide +kernel
theorem d_M_choose_91 : decode prog_9_method_36_code 91 = .ok (.iastore, 1) := by decide +kernel
theorem d_M_choose_92 : decode prog_9_method_36_code 92 = .ok (.aload_n 0, 1) := by decide +kernel
theorem d_M_choose_93 : decode prog_9_method_36_code 93 = .ok (.getfield 71, 3) := by decide +kernel
theorem d_M_choose_96 : decode prog_9_method_36_code 96 = .ok (.iload_n 1, 1) := by decide +kernel
theorem d_M_choose_97 : decode prog_9_method_36_code 97 = .ok (.iload_n 2, 1) := by decide +kernel
theorem d_M_choose_98 : decode prog_9_method_36_code 98 = .ok (.iconst 1, 1) := by decide +kernel
theorem d_M_choose_99 : decode prog_9_method_36_code 99 = .ok (.iadd, 1) := by decide +kernel
theorem d_M_choose_100 : decode prog_9_method_36_code 100 = .ok (.iastore, 1) := by decide +kernel
theorem d_M_choose_101 : decode prog_9_method_36_code 101 = .ok (.iload 4, 2) := by decide +kernel
theorem d_M_choose_103 : decode prog_9_method_36_code 103 = .ok (.ireturn, 1) := by decide +kernel
theorem d_M_choose_104 : decode prog_9_method_36_code 104 = .ok (.aload_n 0, 1) := by decide +kernel
theorem d_M_choose_105 : decode prog_9_method_36_code 105 = .ok (.getfield 77, 3) := by decide +kernel
theorem d_M_choose_108 : decode prog_9_method_36_code 108 = .ok (.iload_n 1, 1) := by decide +kernel
theorem d_M_choose_109 : decode prog_9_method_36_code 109 = .ok (.iaload, 1) := by decide +kernel
theorem d_M_choose_110 : decode prog_9_method_36_code 110 = .ok (.ifCond .le 9, 3) := by decide +kernel
theorem d_M_choose_113 : decode prog_9_method_36_code 113 = .ok (.aload_n 0, 1) := by decide +kernel
theorem d_M_choose_114 : decode prog_9_method_36_code 114 = .ok (.iload_n 1, 1) := by decide +kernel
theorem d_M_choose_115 : decode prog_9_method_36_code 115 = .ok (.invokevirtual 122, 3) := by decide +kernel
theorem d_M_choose_118 : decode prog_9_method_36_code 118 = .ok (.ireturn, 1) := by decide +kernel
theorem d_M_choose_119 : decode prog_9_method_36_code 119 = .ok (.aload_n 0, 1) := by decide +kernel
theorem d_M_choose_120 : decode prog_9_method_36_code 120 = .ok (.getfield 119, 3) := by decide +kernel
theorem d_M_choose_123 : decode prog_9_method_36_code 123 = .ok (.ifCond .le 8, 3) := by decide +kernel
theorem d_M_choose_126 : decode prog_9_method_36_code 126 = .ok (.aload_n 0, 1) := by decide +kernel
theorem d_M_choose_127 : decode prog_9_method_36_code 127 = .ok (.invokevirtual 207, 3) := by decide +kernel
theorem d_M_choose_130 : decode prog_9_method_36_code 130 = .ok (.ireturn, 1) := by decide +kernel
theorem d_M_choose_131 : decode prog_9_method_36_code 131 = .ok (.iconst 1, 1) := by decide +kernel
theorem d_M_choose_132 : decode prog_9_method_36_code 132 = .ok (.istore 4, 2) := by decide +kernel
theorem d_M_choose_134 : decode prog_9_method_36_code 134 = .ok (.iload 4, 2) := by decide +kernel
theorem d_M_choose_136 : decode prog_9_method_36_code 136 = .ok (.iconst 3, 1) := by decide +kernel
theorem d_M_choose_137 : decode prog_9_method_36_code 137 = .ok (.if_icmp .ge 90, 3) := by decide +kernel
theorem d_M_choose_140 : decode prog_9_method_36_code 140 = .ok (.iload_n 1, 1) := by decide +kernel
theorem d_M_choose_141 : decode prog_9_method_36_code 141 = .ok (.iload 4, 2) := by decide +kernel
theorem d_M_choose_143 : decode prog_9_method_36_code 143 = .ok (.iadd, 1) := by decide +kernel
theorem d_M_choose_144 : decode prog_9_method_36_code 144 = .ok (.iconst 3, 1) := by decide +kernel
theorem d_M_choose_145 : decode prog_9_method_36_code 145 = .ok (.irem, 1) := by decide +kernel
theorem d_M_choose_146 : decode prog_9_method_36_code 146 = .ok (.istore 5, 2) := by decide +kernel
theorem d_M_choose_148 : decode prog_9_method_36_code 148 = .ok (.aload_n 0, 1) := by decide +kernel
theorem d_M_choose_149 : decode prog_9_method_36_code 149 = .ok (.getfield 77, 3) := by decide +kernel
theorem d_M_choose_152 : decode prog_9_method_36_code 152 = .ok (.iload 5, 2) := by decide +kernel
theorem d_M_choose_154 : decode prog_9_method_36_code 154 = .ok (.iaload, 1) := by decide +kernel
theorem d_M_choose_155 : decode prog_9_method_36_code 155 = .ok (.iconst 1, 1) := by decide +kernel
theorem d_M_choose_156 : decode prog_9_method_36_code 156 = .ok (.iadd, 1) := by decide +kernel
theorem d_M_choose_157 : decode prog_9_method_36_code 157 = .ok (.iconst 2, 1) := by decide +kernel
theorem d_M_choose_158 : decode prog_9_method_36_code 158 = .ok (.idiv, 1) := by decide +kernel
theorem d_M_choose_159 : decode prog_9_method_36_code 159 = .ok (.istore 6, 2) := by decide +kernel
theorem d_M_choose_161 : decode prog_9_method_36_code 161 = .ok (.iload 6, 2) := by decide +kernel
theorem d_M_choose_163 : decode prog_9_method_36_code 163 = .ok (.ifCond .ne 6, 3) := by decide +kernel
theorem d_M_choose_166 : decode prog_9_method_36_code 166 = .ok (.goto 55, 3) := by decide +kernel
theorem d_M_choose_169 : decode prog_9_method_36_code 169 = .ok (.aload_n 0, 1) := by decide +kernel
theorem d_M_choose_170 : decode prog_9_method_36_code 170 = .ok (.dup, 1) := by decide +kernel
theorem d_M_choose_171 : decode prog_9_method_36_code 171 = .ok (.getfield 211, 3) := by decide +kernel
theorem d_M_choose_174 : decode prog_9_method_36_code 174 = .ok (.iconst 1, 1) := by decide +kernel
theorem d_M_choose_175 : decode prog_9_method_36_code 175 = .ok (.iadd, 1) := by decide +kernel
theorem d_M_choose_176 : decode prog_9_method_36_code 176 = .ok (.putfield 211, 3) := by decide +kernel
theorem d_M_choose_179 : decode prog_9_method_36_code 179 = .ok (.aload_n 0, 1) := by decide +kernel
theorem d_M_choose_180 : decode prog_9_method_36_code 180 = .ok (.iload 5, 2) := by decide +kernel
theorem d_M_choose_182 : decode prog_9_method_36_code 182 = .ok (.invokevirtual 122, 3) := by decide +kernel
theorem d_M_choose_185 : decode prog_9_method_36_code 185 = .ok (.istore 7, 2) := by decide +kernel
theorem d_M_choose_187 : decode prog_9_method_36_code 187 = .ok (.iconst 1, 1) := by decide +kernel
theorem d_M_choose_188 : decode prog_9_method_36_code 188 = .ok (.istore 8, 2) := by decide +kernel
theorem d_M_choose_190 : decode prog_9_method_36_code 190 = .ok (.iload 8, 2) := by decide +kernel
theorem d_M_choose_192 : decode prog_9_method_36_code 192 = .ok (.iload 6, 2) := by decide +kernel
theorem d_M_choose_194 : decode prog_9_method_36_code 194 = .ok (.if_icmp .ge 24, 3) := by decide +kernel
theorem d_M_choose_197 : decode prog_9_method_36_code 197 = .ok (.aload_n 0, 1) := by decide +kernel
theorem d_M_choose_198 : decode prog_9_method_36_code 198 = .ok (.iload 5, 2) := by decide +kernel
theorem d_M_choose_200 : decode prog_9_method_36_code 200 = .ok (.invokevirtual 122, 3) := by decide +kernel
theorem d_M_choose_203 : decode prog_9_method_36_code 203 = .ok (.istore 9, 2) := by decide +kernel
theorem d_M_choose_205 : decode prog_9_method_36_code 205 = .ok (.aload_n 0, 1) := by decide +kernel
theorem d_M_choose_206 : decode prog_9_method_36_code 206 = .ok (.iload 9, 2) := by decide +kernel
theorem d_M_choose_208 : decode prog_9_method_36_code 208 = .ok (.iload_n 1, 1) := by decide +kernel
theorem d_M_choose_209 : decode prog_9_method_36_code 209 = .ok (.invokevirtual 128, 3) := by decide +kernel
theorem d_M_choose_212 : decode prog_9_method_36_code 212 = .ok (.iinc 8 1, 3) := by decide +kernel
theorem d_M_choose_215 : decode prog_9_method_36_code 215 = .ok (.goto (-25), 3) := by decide +kernel
theorem d_M_choose_218 : decode prog_9_method_36_code 218 = .ok (.iload 7, 2) := by decide +kernel
theorem d_M_choose_220 : decode prog_9_method_36_code 220 = .ok (.ireturn, 1) := by decide +kernel
theorem d_M_choose_221 : decode prog_9_method_36_code 221 = .ok (.iinc 4 1, 3) := by decide +kernel
theorem d_M_choose_224 : decode prog_9_method_36_code 224 = .ok (.goto (-90), 3) := by decide +kernel
theorem d_M_choose_227 : decode prog_9_method_36_code 227 = .ok (.bipush (-2), 2) := by decide +kernel
theorem d_M_choose_229 : decode prog_9_method_36_code 229 = .ok (.ireturn, 1) := by decide +kernel
theorem d_M_turn_0 : decode prog_9_method_37_code 0 = .ok (.iload_n 1, 1) := by decide +kernel
theorem d_M_turn_1 : decode prog_9_method_37_code 1 = .ok (.iconst 0, 1) := by decide +kernel
theorem d_M_turn_2 : decode prog_9_method_37_code 2 = .ok (.iconst 2, 1) := by decide +kernel
theorem d_M_turn_3 : decode prog_9_method_37_code 3 = .ok (.invokestatic 93, 3) := by decide +kernel
theorem d_M_turn_6 : decode prog_9_method_37_code 6 = .ok (.ifCond .ne 5, 3) := by decide +kernel
theorem d_M_turn_9 : decode prog_9_method_37_code 9 = .ok (.iconst (-1), 1) := by decide +kernel
theorem d_M_turn_10 : decode prog_9_method_37_code 10 = .ok (.ireturn, 1) := by decide +kernel
theorem d_M_turn_11 : decode prog_9_method_37_code 11 = .ok (.aload_n 0, 1) := by decide +kernel
theorem d_M_turn_12 : decode prog_9_method_37_code 12 = .ok (.getfield 68, 3) := by decide +kernel
theorem d_M_turn_15 : decode prog_9_method_37_code 15 = .ok (.iload_n 1, 1) := by decide +kernel
theorem d_M_turn_16 : decode prog_9_method_37_code 16 = .ok (.dup2, 1) := by decide +kernel
theorem d_M_turn_17 : decode prog_9_method_37_code 17 = .ok (.iaload, 1) := by decide +kernel
theorem d_M_turn_18 : decode prog_9_method_37_code 18 = .ok (.iconst 1, 1) := by decide +kernel
theorem d_M_turn_19 : decode prog_9_method_37_code 19 = .ok (.iadd, 1) := by decide +kernel
theorem d_M_turn_20 : decode prog_9_method_37_code 20 = .ok (.iastore, 1) := by decide +kernel
theorem d_M_turn_21 : decode prog_9_method_37_code 21 = .ok (.aload_n 0, 1) := by decide +kernel
theorem d_M_turn_22 : decode prog_9_method_37_code 22 = .ok (.iload_n 1, 1) := by decide +kernel
theorem d_M_turn_23 : decode prog_9_method_37_code 23 = .ok (.invokevirtual 214, 3) := by decide +kernel
theorem d_M_turn_26 : decode prog_9_method_37_code 26 = .ok (.istore_n 2, 1) := by decide +kernel
theorem d_M_turn_27 : decode prog_9_method_37_code 27 = .ok (.iload_n 2, 1) := by decide +kernel
theorem d_M_turn_28 : decode prog_9_method_37_code 28 = .ok (.ifCond .ge 6, 3) := by decide +kernel
theorem d_M_turn_31 : decode prog_9_method_37_code 31 = .ok (.bipush (-2), 2) := by decide +kernel
theorem d_M_turn_33 : decode prog_9_method_37_code 33 = .ok (.ireturn, 1) := by decide +kernel
theorem d_M_turn_34 : decode prog_9_method_37_code 34 = .ok (.aload_n 0, 1) := by decide +kernel
theorem d_M_turn_35 : decode prog_9_method_37_code 35 = .ok (.iload_n 1, 1) := by decide +kernel
theorem d_M_turn_36 : decode prog_9_method_37_code 36 = .ok (.putfield 89, 3) := by decide +kernel
theorem d_M_turn_39 : decode prog_9_method_37_code 39 = .ok (.aload_n 0, 1) := by decide +kernel
theorem d_M_turn_40 : decode prog_9_method_37_code 40 = .ok (.iload_n 2, 1) := by decide +kernel
theorem d_M_turn_41 : decode prog_9_method_37_code 41 = .ok (.iload_n 1, 1) := by decide +kernel
theorem d_M_turn_42 : decode prog_9_method_37_code 42 = .ok (.invokevirtual 217, 3) := by decide +kernel
theorem d_M_turn_45 : decode prog_9_method_37_code 45 = .ok (.aload_n 0, 1) := by decide +kernel
theorem d_M_turn_46 : decode prog_9_method_37_code 46 = .ok (.iconst (-1), 1) := by decide +kernel
theorem d_M_turn_47 : decode prog_9_method_37_code 47 = .ok (.putfield 89, 3) := by decide +kernel
theorem d_M_turn_50 : decode prog_9_method_37_code 50 = .ok (.iload_n 2, 1) := by decide +kernel
theorem d_M_turn_51 : decode prog_9_method_37_code 51 = .ok (.ireturn, 1) := by decide +kernel
theorem d_M_run_0 : decode prog_9_method_38_code 0 = .ok (.iload_n 1, 1) := by decide +kernel
theorem d_M_run_1 : decode prog_9_method_38_code 1 = .ok (.iconst 1, 1) := by decide +kernel
theorem d_M_run_2 : decode prog_9_method_38_code 2 = .ok (.bipush 30, 2) := by decide +kernel
theorem d_M_run_4 : decode prog_9_method_38_code 4 = .ok (.invokestatic 93, 3) := by decide +kernel
theorem d_M_run_7 : decode prog_9_method_38_code 7 = .ok (.ifCond .ne 5, 3) := by decide +kernel
theorem d_M_run_10 : decode prog_9_method_38_code 10 = .ok (.iconst (-1), 1) := by decide +kernel
theorem d_M_run_11 : decode prog_9_method_38_code 11 = .ok (.ireturn, 1) := by decide +kernel
theorem d_M_run_12 : decode prog_9_method_38_code 12 = .ok (.iconst 0, 1) := by decide +kernel
theorem d_M_run_13 : decode prog_9_method_38_code 13 = .ok (.istore_n 2, 1) := by decide +kernel
theorem d_M_run_14 : decode prog_9_method_38_code 14 = .ok (.iconst 0, 1) := by decide +kernel
theorem d_M_run_15 : decode prog_9_method_38_code 15 = .ok (.istore_n 3, 1) := by decide +kernel
theorem d_M_run_16 : decode prog_9_method_38_code 16 = .ok (.iload_n 3, 1) := by decide +kernel
theorem d_M_run_17 : decode prog_9_method_38_code 17 = .ok (.iload_n 1, 1) := by decide +kernel
theorem d_M_run_18 : decode prog_9_method_38_code 18 = .ok (.if_icmp .ge 39, 3) := by decide +kernel
theorem d_M_run_21 : decode prog_9_method_38_code 21 = .ok (.aload_n 0, 1) := by decide +kernel
theorem d_M_run_22 : decode prog_9_method_38_code 22 = .ok (.aload_n 0, 1) := by decide +kernel
theorem d_M_run_23 : decode prog_9_method_38_code 23 = .ok (.getfield 220, 3) := by decide +kernel
theorem d_M_run_26 : decode prog_9_method_38_code 26 = .ok (.invokevirtual 223, 3) := by decide +kernel
theorem d_M_run_29 : decode prog_9_method_38_code 29 = .ok (.istore 4, 2) := by decide +kernel
theorem d_M_run_31 : decode prog_9_method_38_code 31 = .ok (.iload 4, 2) := by decide +kernel
theorem d_M_run_33 : decode prog_9_method_38_code 33 = .ok (.ifCond .lt 6, 3) := by decide +kernel
theorem d_M_run_36 : decode prog_9_method_38_code 36 = .ok (.iinc 2 1, 3) := by decide +kernel
theorem d_M_run_39 : decode prog_9_method_38_code 39 = .ok (.aload_n 0, 1) := by decide +kernel
theorem d_M_run_40 : decode prog_9_method_38_code 40 = .ok (.aload_n 0, 1) := by decide +kernel
theorem d_M_run_41 : decode prog_9_method_38_code 41 = .ok (.getfield 220, 3) := by decide +kernel
theorem d_M_run_44 : decode prog_9_method_38_code 44 = .ok (.iconst 1, 1) := by decide +kernel
theorem d_M_run_45 : decode prog_9_method_38_code 45 = .ok (.iadd, 1) := by decide +kernel
theorem d_M_run_46 : decode prog_9_method_38_code 46 = .ok (.iconst 3, 1) := by decide +kernel
theorem d_M_run_47 : decode prog_9_method_38_code 47 = .ok (.irem, 1) := by decide +kernel
theorem d_M_run_48 : decode prog_9_method_38_code 48 = .ok (.putfield 220, 3) := by decide +kernel
theorem d_M_run_51 : decode prog_9_method_38_code 51 = .ok (.iinc 3 1, 3) := by decide +kernel
theorem d_M_run_54 : decode prog_9_method_38_code 54 = .ok (.goto (-38), 3) := by decide +kernel
theorem d_M_run_57 : decode prog_9_method_38_code 57 = .ok (.iload_n 2, 1) := by decide +kernel
theorem d_M_run_58 : decode prog_9_method_38_code 58 = .ok (.ireturn, 1) := by decide +kernel
theorem d_M_spawn_0 : decode prog_9_method_39_code 0 = .ok (.iload_n 1, 1) := by decide +kernel
theorem d_M_spawn_1 : decode prog_9_method_39_code 1 = .ok (.iconst 0, 1) := by decide +kernel
theorem d_M_spawn_2 : decode prog_9_method_39_code 2 = .ok (.aload_n 0, 1) := by decide +kernel
theorem d_M_spawn_3 : decode prog_9_method_39_code 3 = .ok (.getfield 105, 3) := by decide +kernel
theorem d_M_spawn_6 : decode prog_9_method_39_code 6 = .ok (.iconst 1, 1) := by decide +kernel
theorem d_M_spawn_7 : decode prog_9_method_39_code 7 = .ok (.isub, 1) := by decide +kernel
theorem d_M_spawn_8 : decode prog_9_method_39_code 8 = .ok (.invokestatic 93, 3) := by decide +kernel
theorem d_M_spawn_11 : decode prog_9_method_39_code 11 = .ok (.ifCond .ne 5, 3) := by decide +kernel
theorem d_M_spawn_14 : decode prog_9_method_39_code 14 = .ok (.iconst (-1), 1) := by decide +kernel
theorem d_M_spawn_15 : decode prog_9_method_39_code 15 = .ok (.ireturn, 1) := by decide +kernel
theorem d_M_spawn_16 : decode prog_9_method_39_code 16 = .ok (.aload_n 0, 1) := by decide +kernel
theorem d_M_spawn_17 : decode prog_9_method_39_code 17 = .ok (.getfield 112, 3) := by decide +kernel
theorem d_M_spawn_20 : decode prog_9_method_39_code 20 = .ok (.bipush 12, 2) := by decide +kernel
theorem d_M_spawn_22 : decode prog_9_method_39_code 22 = .ok (.if_icmp .ne 8, 3) := by decide +kernel
theorem d_M_spawn_25 : decode prog_9_method_39_code 25 = .ok (.bipush (-2), 2) := by decide +kernel
theorem d_M_spawn_27 : decode prog_9_method_39_code 27 = .ok (.goto 8, 3) := by decide +kernel
theorem d_M_spawn_30 : decode prog_9_method_39_code 30 = .ok (.aload_n 0, 1) := by decide +kernel
theorem d_M_spawn_31 : decode prog_9_method_39_code 31 = .ok (.iload_n 1, 1) := by decide +kernel
theorem d_M_spawn_32 : decode prog_9_method_39_code 32 = .ok (.invokevirtual 189, 3) := by decide +kernel
theorem d_M_spawn_35 : decode prog_9_method_39_code 35 = .ok (.ireturn, 1) := by decide +kernel
theorem d_M_tick_0 : decode prog_9_method_40_code 0 = .ok (.iload_n 1, 1) := by decide +kernel
theorem d_M_tick_1 : decode prog_9_method_40_code 1 = .ok (.iconst 1, 1) := by decide +kernel
theorem d_M_tick_2 : decode prog_9_method_40_code 2 = .ok (.bipush 20, 2) := by decide +kernel
theorem d_M_tick_4 : decode prog_9_method_40_code 4 = .ok (.invokestatic 93, 3) := by decide +kernel
theorem d_M_tick_7 : decode prog_9_method_40_code 7 = .ok (.ifCond .ne 5, 3) := by decide +kernel
theorem d_M_tick_10 : decode prog_9_method_40_code 10 = .ok (.iconst (-1), 1) := by decide +kernel
theorem d_M_tick_11 : decode prog_9_method_40_code 11 = .ok (.ireturn, 1) := by decide +kernel
theorem d_M_tick_12 : decode prog_9_method_40_code 12 = .ok (.iconst 0, 1) := by decide +kernel
theorem d_M_tick_13 : decode prog_9_method_40_code 13 = .ok (.istore_n 2, 1) := by decide +kernel
theorem d_M_tick_14 : decode prog_9_method_40_code 14 = .ok (.iload_n 2, 1) := by decide +kernel
theorem d_M_tick_15 : decode prog_9_method_40_code 15 = .ok (.iload_n 1, 1) := by decide +kernel
theorem d_M_tick_16 : decode prog_9_method_40_code 16 = .ok (.if_icmp .ge 141, 3) := by decide +kernel
theorem d_M_tick_19 : decode prog_9_method_40_code 19 = .ok (.aload_n 0, 1) := by decide +kernel
theorem d_M_tick_20 : decode prog_9_method_40_code 20 = .ok (.dup, 1) := by decide +kernel
theorem d_M_tick_21 : decode prog_9_method_40_code 21 = .ok (.getfield 162, 3) := by decide +kernel
theorem d_M_tick_24 : decode prog_9_method_40_code 24 = .ok (.iconst 1, 1) := by decide +kernel
theorem d_M_tick_25 : decode prog_9_method_40_code 25 = .ok (.iadd, 1) := by decide +kernel
theorem d_M_tick_26 : decode prog_9_method_40_code 26 = .ok (.putfield 162, 3) := by decide +kernel
theorem d_M_tick_29 : decode prog_9_method_40_code 29 = .ok (.iconst 0, 1) := by decide +kernel
theorem d_M_tick_30 : decode prog_9_method_40_code 30 = .ok (.istore_n 3, 1) := by decide +kernel
theorem d_M_tick_31 : decode prog_9_method_40_code 31 = .ok (.iload_n 3, 1) := by decide +kernel
theorem d_M_tick_32 : decode prog_9_method_40_code 32 = .ok (.aload_n 0, 1) := by decide +kernel
theorem d_M_tick_33 : decode prog_9_method_40_code 33 = .ok (.getfield 112, 3) := by decide +kernel
theorem d_M_tick_36 : decode prog_9_method_40_code 36 = .ok (.if_icmp .ge 115, 3) := by decide +kernel
theorem d_M_tick_39 : decode prog_9_method_40_code 39 = .ok (.iconst 0, 1) := by decide +kernel
theorem d_M_tick_40 : decode prog_9_method_40_code 40 = .ok (.istore 4, 2) := by decide +kernel
theorem d_M_tick_42 : decode prog_9_method_40_code 42 = .ok (.iconst 0, 1) := by decide +kernel
theorem d_M_tick_43 : decode prog_9_method_40_code 43 = .ok (.istore 5, 2) := by decide +kernel
theorem d_M_tick_45 : decode prog_9_method_40_code 45 = .ok (.iload 5, 2) := by decide +kernel
theorem d_M_tick_47 : decode prog_9_method_40_code 47 = .ok (.aload_n 0, 1) := by decide +kernel
theorem d_M_tick_48 : decode prog_9_method_40_code 48 = .ok (.getfield 16, 3) := by decide +kernel
theorem d_M_tick_51 : decode prog_9_method_40_code 51 = .ok (.aload_n 0, 1) := by decide +kernel
theorem d_M_tick_52 : decode prog_9_method_40_code 52 = .ok (.getfield 28, 3) := by decide +kernel
theorem d_M_tick_55 : decode prog_9_method_40_code 55 = .ok (.iload_n 3, 1) := by decide +kernel
theorem d_M_tick_56 : decode prog_9_method_40_code 56 = .ok (.iaload, 1) := by decide +kernel
theorem d_M_tick_57 : decode prog_9_method_40_code 57 = .ok (.iaload, 1) := by decide +kernel
theorem d_M_tick_58 : decode prog_9_method_40_code 58 = .ok (.if_icmp .ge 77, 3) := by decide +kernel
theorem d_M_tick_61 : decode prog_9_method_40_code 61 = .ok (.iload 4, 2) := by decide +kernel
theorem d_M_tick_63 : decode prog_9_method_40_code 63 = .ok (.aload_n 0, 1) := by decide +kernel
theorem d_M_tick_64 : decode prog_9_method_40_code 64 = .ok (.iload_n 3, 1) := by decide +kernel
theorem d_M_tick_65 : decode prog_9_method_40_code 65 = .ok (.iload 5, 2) := by decide +kernel
theorem d_M_tick_67 : decode prog_9_method_40_code 67 = .ok (.invokevirtual 108, 3) := by decide +kernel
theorem d_M_tick_70 : decode prog_9_method_40_code 70 = .ok (.iconst 2, 1) := by decide +kernel
theorem d_M_tick_71 : decode prog_9_method_40_code 71 = .ok (.if_icmp .eq 15, 3) := by decide +kernel
theorem d_M_tick_74 : decode prog_9_method_40_code 74 = .ok (.aload_n 0, 1) := by decide +kernel
theorem d_M_tick_75 : decode prog_9_method_40_code 75 = .ok (.iload_n 3, 1) := by decide +kernel
theorem d_M_tick_76 : decode prog_9_method_40_code 76 = .ok (.iload 5, 2) := by decide +kernel
theorem d_M_tick_78 : decode prog_9_method_40_code 78 = .ok (.invokevirtual 108, 3) := by decide +kernel
theorem d_M_tick_81 : decode prog_9_method_40_code 81 = .ok (.bipush 13, 2) := by decide +kernel
theorem d_M_tick_83 : decode prog_9_method_40_code 83 = .ok (.if_icmp .ne 42, 3) := by decide +kernel
theorem d_M_tick_86 : decode prog_9_method_40_code 86 = .ok (.aload_n 0, 1) := by decide +kernel
theorem d_M_tick_87 : decode prog_9_method_40_code 87 = .ok (.getfield 41, 3) := by decide +kernel
theorem d_M_tick_90 : decode prog_9_method_40_code 90 = .ok (.bipush 12, 2) := by decide +kernel
theorem d_M_tick_92 : decode prog_9_method_40_code 92 = .ok (.iload_n 3, 1) := by decide +kernel
theorem d_M_tick_93 : decode prog_9_method_40_code 93 = .ok (.imul, 1) := by decide +kernel
theorem d_M_tick_94 : decode prog_9_method_40_code 94 = .ok (.iload 5, 2) := by decide +kernel
theorem d_M_tick_96 : decode prog_9_method_40_code 96 = .ok (.iadd, 1) := by decide +kernel
theorem d_M_tick_97 : decode prog_9_method_40_code 97 = .ok (.iaload, 1) := by decide +kernel
theorem d_M_tick_98 : decode prog_9_method_40_code 98 = .ok (.iconst 1, 1) := by decide +kernel
theorem d_M_tick_99 : decode prog_9_method_40_code 99 = .ok (.if_icmp .ne 26, 3) := by decide +kernel
theorem d_M_tick_102 : decode prog_9_method_40_code 102 = .ok (.aload_n 0, 1) := by decide +kernel
theorem d_M_tick_103 : decode prog_9_method_40_code 103 = .ok (.getfield 47, 3) := by decide +kernel
theorem d_M_tick_106 : decode prog_9_method_40_code 106 = .ok (.bipush 12, 2) := by decide +kernel
theorem d_M_tick_108 : decode prog_9_method_40_code 108 = .ok (.iload_n 3, 1) := by decide +kernel
theorem d_M_tick_109 : decode prog_9_method_40_code 109 = .ok (.imul, 1) := by decide +kernel
theorem d_M_tick_110 : decode prog_9_method_40_code 110 = .ok (.iload 5, 2) := by decide +kernel
theorem d_M_tick_112 : decode prog_9_method_40_code 112 = .ok (.iadd, 1) := by decide +kernel
theorem d_M_tick_113 : decode prog_9_method_40_code 113 = .ok (.iaload, 1) := by decide +kernel
theorem d_M_tick_114 : decode prog_9_method_40_code 114 = .ok (.aload_n 0, 1) := by decide +kernel
theorem d_M_tick_115 : decode prog_9_method_40_code 115 = .ok (.getfield 162, 3) := by decide +kernel
theorem d_M_tick_118 : decode prog_9_method_40_code 118 = .ok (.if_icmp .ne 7, 3) := by decide +kernel
theorem d_M_tick_121 : decode prog_9_method_40_code 121 = .ok (.iconst 1, 1) := by decide +kernel
theorem d_M_tick_122 : decode prog_9_method_40_code 122 = .ok (.goto 4, 3) := by decide +kernel
theorem d_M_tick_125 : decode prog_9_method_40_code 125 = .ok (.iconst 0, 1) := by decide +kernel
theorem d_M_tick_126 : decode prog_9_method_40_code 126 = .ok (.ior, 1) := by decide +kernel
theorem d_M_tick_127 : decode prog_9_method_40_code 127 = .ok (.istore 4, 2) := by decide +kernel
theorem d_M_tick_129 : decode prog_9_method_40_code 129 = .ok (.iinc 5 1, 3) := by decide +kernel
theorem d_M_tick_132 : decode prog_9_method_40_code 132 = .ok (.goto (-87), 3) := by decide +kernel
theorem d_M_tick_135 : decode prog_9_method_40_code 135 = .ok (.iload 4, 2) := by decide +kernel
theorem d_M_tick_137 : decode prog_9_method_40_code 137 = .ok (.ifCond .eq 8, 3) := by decide +kernel
theorem d_M_tick_140 : decode prog_9_method_40_code 140 = .ok (.aload_n 0, 1) := by decide +kernel
theorem d_M_tick_141 : decode prog_9_method_40_code 141 = .ok (.iload_n 3, 1) := by decide +kernel
theorem d_M_tick_142 : decode prog_9_method_40_code 142 = .ok (.invokevirtual 115, 3) := by decide +kernel
theorem d_M_tick_145 : decode prog_9_method_40_code 145 = .ok (.iinc 3 1, 3) := by decide +kernel
theorem d_M_tick_148 : decode prog_9_method_40_code 148 = .ok (.goto (-117), 3) := by decide +kernel
theorem d_M_tick_151 : decode prog_9_method_40_code 151 = .ok (.iinc 2 1, 3) := by decide +kernel
theorem d_M_tick_154 : decode prog_9_method_40_code 154 = .ok (.goto (-140), 3) := by decide +kernel
theorem d_M_tick_157 : decode prog_9_method_40_code 157 = .ok (.aload_n 0, 1) := by decide +kernel
theorem d_M_tick_158 : decode prog_9_method_40_code 158 = .ok (.getfield 162, 3) := by decide +kernel
theorem d_M_tick_161 : decode prog_9_method_40_code 161 = .ok (.ireturn, 1) := by decide +kernel
theorem d_M_unqueue_0 : decode prog_9_method_41_code 0 = .ok (.aload_n 0, 1) := by decide +kernel
theorem d_M_unqueue_1 : decode prog_9_method_41_code 1 = .ok (.getfield 34, 3) := by decide +kernel
theorem d_M_unqueue_4 : decode prog_9_method_41_code 4 = .ok (.iload_n 1, 1) := by decide +kernel
theorem d_M_unqueue_5 : decode prog_9_method_41_code 5 = .ok (.iaload, 1) := by decide +kernel
theorem d_M_unqueue_6 : decode prog_9_method_41_code 6 = .ok (.istore_n 2, 1) := by decide +kernel
theorem d_M_unqueue_7 : decode prog_9_method_41_code 7 = .ok (.aload_n 0, 1) := by decide +kernel
theorem d_M_unqueue_8 : decode prog_9_method_41_code 8 = .ok (.getfield 34, 3) := by decide +kernel
theorem d_M_unqueue_11 : decode prog_9_method_41_code 11 = .ok (.iload_n 1, 1) := by decide +kernel
theorem d_M_unqueue_12 : decode prog_9_method_41_code 12 = .ok (.iconst 0, 1) := by decide +kernel
theorem d_M_unqueue_13 : decode prog_9_method_41_code 13 = .ok (.iastore, 1) := by decide +kernel
theorem d_M_unqueue_14 : decode prog_9_method_41_code 14 = .ok (.iload_n 2, 1) := by decide +kernel
theorem d_M_unqueue_15 : decode prog_9_method_41_code 15 = .ok (.iconst 1, 1) := by decide +kernel
theorem d_M_unqueue_16 : decode prog_9_method_41_code 16 = .ok (.if_icmp .ne 62, 3) := by decide +kernel
theorem d_M_unqueue_19 : decode prog_9_method_41_code 19 = .ok (.iconst 0, 1) := by decide +kernel
theorem d_M_unqueue_20 : decode prog_9_method_41_code 20 = .ok (.istore_n 3, 1) := by decide +kernel
theorem d_M_unqueue_21 : decode prog_9_method_41_code 21 = .ok (.aload_n 0, 1) := by decide +kernel
theorem d_M_unqueue_22 : decode prog_9_method_41_code 22 = .ok (.getfield 80, 3) := by decide +kernel
theorem d_M_unqueue_25 : decode prog_9_method_41_code 25 = .ok (.iload_n 3, 1) := by decide +kernel
theorem d_M_unqueue_26 : decode prog_9_method_41_code 26 = .ok (.iaload, 1) := by decide +kernel
theorem d_M_unqueue_27 : decode prog_9_method_41_code 27 = .ok (.iload_n 1, 1) := by decide +kernel
theorem d_M_unqueue_28 : decode prog_9_method_41_code 28 = .ok (.if_icmp .eq 9, 3) := by decide +kernel
theorem d_M_unqueue_31 : decode prog_9_method_41_code 31 = .ok (.iinc 3 1, 3) := by decide +kernel
theorem d_M_unqueue_34 : decode prog_9_method_41_code 34 = .ok (.goto (-13), 3) := by decide +kernel
theorem d_M_unqueue_37 : decode prog_9_method_41_code 37 = .ok (.aload_n 0, 1) := by decide +kernel
theorem d_M_unqueue_38 : decode prog_9_method_41_code 38 = .ok (.dup, 1) := by decide +kernel
theorem d_M_unqueue_39 : decode prog_9_method_41_code 39 = .ok (.getfield 119, 3) := by decide +kernel
theorem d_M_unqueue_42 : decode prog_9_method_41_code 42 = .ok (.iconst 1, 1) := by decide +kernel
theorem d_M_unqueue_43 : decode prog_9_method_41_code 43 = .ok (.isub, 1) := by decide +kernel
theorem d_M_unqueue_44 : decode prog_9_method_41_code 44 = .ok (.putfield 119, 3) := by decide +kernel
theorem d_M_unqueue_47 : decode prog_9_method_41_code 47 = .ok (.iload_n 3, 1) := by decide +kernel
theorem d_M_unqueue_48 : decode prog_9_method_41_code 48 = .ok (.aload_n 0, 1) := by decide +kernel
theorem d_M_unqueue_49 : decode prog_9_method_41_code 49 = .ok (.getfield 119, 3) := by decide +kernel
theorem d_M_unqueue_52 : decode prog_9_method_41_code 52 = .ok (.if_icmp .ge 23, 3) := by decide +kernel
theorem d_M_unqueue_55 : decode prog_9_method_41_code 55 = .ok (.aload_n 0, 1) := by decide +kernel
theorem d_M_unqueue_56 : decode prog_9_method_41_code 56 = .ok (.getfield 80, 3) := by decide +kernel
theorem d_M_unqueue_59 : decode prog_9_method_41_code 59 = .ok (.iload_n 3, 1) := by decide +kernel
theorem d_M_unqueue_60 : decode prog_9_method_41_code 60 = .ok (.aload_n 0, 1) := by decide +kernel
theorem d_M_unqueue_61 : decode prog_9_method_41_code 61 = .ok (.getfield 80, 3) := by decide +kernel
theorem d_M_unqueue_64 : decode prog_9_method_41_code 64 = .ok (.iload_n 3, 1) := by decide +kernel
theorem d_M_unqueue_65 : decode prog_9_method_41_code 65 = .ok (.iconst 1, 1) := by decide +kernel
theorem d_M_unqueue_66 : decode prog_9_method_41_code 66 = .ok (.iadd, 1) := by decide +kernel
theorem d_M_unqueue_67 : decode prog_9_method_41_code 67 = .ok (.iaload, 1) := by decide +kernel
theorem d_M_unqueue_68 : decode prog_9_method_41_code 68 = .ok (.iastore, 1) := by decide +kernel
theorem d_M_unqueue_69 : decode prog_9_method_41_code 69 = .ok (.iinc 3 1, 3) := by decide +kernel
theorem d_M_unqueue_72 : decode prog_9_method_41_code 72 = .ok (.goto (-25), 3) := by decide +kernel
theorem d_M_unqueue_75 : decode prog_9_method_41_code 75 = .ok (.goto 108, 3) := by decide +kernel
theorem d_M_unqueue_78 : decode prog_9_method_41_code 78 = .ok (.iload_n 2, 1) := by decide +kernel
theorem d_M_unqueue_79 : decode prog_9_method_41_code 79 = .ok (.iconst 2, 1) := by decide +kernel
theorem d_M_unqueue_80 : decode prog_9_method_41_code 80 = .ok (.iconst 4, 1) := by decide +kernel
theorem d_M_unqueue_81 : decode prog_9_method_41_code 81 = .ok (.invokestatic 93, 3) := by decide +kernel
theorem d_M_unqueue_84 : decode prog_9_method_41_code 84 = .ok (.ifCond .eq 15, 3) := by decide +kernel
theorem d_M_unqueue_87 : decode prog_9_method_41_code 87 = .ok (.aload_n 0, 1) := by decide +kernel
theorem d_M_unqueue_88 : decode prog_9_method_41_code 88 = .ok (.getfield 65, 3) := by decide +kernel
theorem d_M_unqueue_91 : decode prog_9_method_41_code 91 = .ok (.iload_n 2, 1) := by decide +kernel
theorem d_M_unqueue_92 : decode prog_9_method_41_code 92 = .ok (.iconst 2, 1) := by decide +kernel
theorem d_M_unqueue_93 : decode prog_9_method_41_code 93 = .ok (.isub, 1) := by decide +kernel
theorem d_M_unqueue_94 : decode prog_9_method_41_code 94 = .ok (.iconst (-1), 1) := by decide +kernel
theorem d_M_unqueue_95 : decode prog_9_method_41_code 95 = .ok (.iastore, 1) := by decide +kernel
theorem d_M_unqueue_96 : decode prog_9_method_41_code 96 = .ok (.goto 87, 3) := by decide +kernel
theorem d_M_unqueue_99 : decode prog_9_method_41_code 99 = .ok (.iload_n 2, 1) := by decide +kernel
theorem d_M_unqueue_100 : decode prog_9_method_41_code 100 = .ok (.iconst 4, 1) := by decide +kernel
theorem d_M_unqueue_101 : decode prog_9_method_41_code 101 = .ok (.if_icmp .le 82, 3) := by decide +kernel
theorem d_M_unqueue_104 : decode prog_9_method_41_code 104 = .ok (.iload_n 2, 1) := by decide +kernel
theorem d_M_unqueue_105 : decode prog_9_method_41_code 105 = .ok (.iconst 5, 1) := by decide +kernel
theorem d_M_unqueue_106 : decode prog_9_method_41_code 106 = .ok (.isub, 1) := by decide +kernel
theorem d_M_unqueue_107 : decode prog_9_method_41_code 107 = .ok (.istore_n 3, 1) := by decide +kernel
theorem d_M_unqueue_108 : decode prog_9_method_41_code 108 = .ok (.iconst 0, 1) := by decide +kernel
theorem d_M_unqueue_109 : decode prog_9_method_41_code 109 = .ok (.istore 4, 2) := by decide +kernel
theorem d_M_unqueue_111 : decode prog_9_method_41_code 111 = .ok (.aload_n 0, 1) := by decide +kernel
theorem d_M_unqueue_112 : decode prog_9_method_41_code 112 = .ok (.getfield 74, 3) := by decide +kernel
theorem d_M_unqueue_115 : decode prog_9_method_41_code 115 = .ok (.iconst 4, 1) := by decide +kernel
theorem d_M_unqueue_116 : decode prog_9_method_41_code 116 = .ok (.iload_n 3, 1) := by decide +kernel
theorem d_M_unqueue_117 : decode prog_9_method_41_code 117 = .ok (.imul, 1) := by decide +kernel
theorem d_M_unqueue_118 : decode prog_9_method_41_code 118 = .ok (.iload 4, 2) := by decide +kernel
theorem d_M_unqueue_120 : decode prog_9_method_41_code 120 = .ok (.iadd, 1) := by decide +kernel
theorem d_M_unqueue_121 : decode prog_9_method_41_code 121 = .ok (.iaload, 1) := by decide +kernel
theorem d_M_unqueue_122 : decode prog_9_method_41_code 122 = .ok (.iload_n 1, 1) := by decide +kernel
theorem d_M_unqueue_123 : decode prog_9_method_41_code 123 = .ok (.if_icmp .eq 9, 3) := by decide +kernel
theorem d_M_unqueue_126 : decode prog_9_method_41_code 126 = .ok (.iinc 4 1, 3) := by decide +kernel
theorem d_M_unqueue_129 : decode prog_9_method_41_code 129 = .ok (.goto (-18), 3) := by decide +kernel
theorem d_M_unqueue_132 : decode prog_9_method_41_code 132 = .ok (.aload_n 0, 1) := by decide +kernel
theorem d_M_unqueue_133 : decode prog_9_method_41_code 133 = .ok (.getfield 77, 3) := by decide +kernel
theorem d_M_unqueue_136 : decode prog_9_method_41_code 136 = .ok (.iload_n 3, 1) := by decide +kernel
theorem d_M_unqueue_137 : decode prog_9_method_41_code 137 = .ok (.dup2, 1) := by decide +kernel
theorem d_M_unqueue_138 : decode prog_9_method_41_code 138 = .ok (.iaload, 1) := by decide +kernel
theorem d_M_unqueue_139 : decode prog_9_method_41_code 139 = .ok (.iconst 1, 1) := by decide +kernel
theorem d_M_unqueue_140 : decode prog_9_method_41_code 140 = .ok (.isub, 1) := by decide +kernel
theorem d_M_unqueue_141 : decode prog_9_method_41_code 141 = .ok (.iastore, 1) := by decide +kernel
theorem d_M_unqueue_142 : decode prog_9_method_41_code 142 = .ok (.iload 4, 2) := by decide +kernel
theorem d_M_unqueue_144 : decode prog_9_method_41_code 144 = .ok (.aload_n 0, 1) := by decide +kernel
theorem d_M_unqueue_145 : decode prog_9_method_41_code 145 = .ok (.getfield 77, 3) := by decide +kernel
theorem d_M_unqueue_148 : decode prog_9_method_41_code 148 = .ok (.iload_n 3, 1) := by decide +kernel
theorem d_M_unqueue_149 : decode prog_9_method_41_code 149 = .ok (.iaload, 1) := by decide +kernel
theorem d_M_unqueue_150 : decode prog_9_method_41_code 150 = .ok (.if_icmp .ge 33, 3) := by decide +kernel
theorem d_M_unqueue_153 : decode prog_9_method_41_code 153 = .ok (.aload_n 0, 1) := by decide +kernel
theorem d_M_unqueue_154 : decode prog_9_method_41_code 154 = .ok (.getfield 74, 3) := by decide +kernel
theorem d_M_unqueue_157 : decode prog_9_method_41_code 157 = .ok (.iconst 4, 1) := by decide +kernel
theorem d_M_unqueue_158 : decode prog_9_method_41_code 158 = .ok (.iload_n 3, 1) := by decide +kernel
theorem d_M_unqueue_159 : decode prog_9_method_41_code 159 = .ok (.imul, 1) := by decide +kernel
theorem d_M_unqueue_160 : decode prog_9_method_41_code 160 = .ok (.iload 4, 2) := by decide +kernel
theorem d_M_unqueue_162 : decode prog_9_method_41_code 162 = .ok (.iadd, 1) := by decide +kernel
theorem d_M_unqueue_163 : decode prog_9_method_41_code 163 = .ok (.aload_n 0, 1) := by decide +kernel
theorem d_M_unqueue_164 : decode prog_9_method_41_code 164 = .ok (.getfield 74, 3) := by decide +kernel
theorem d_M_unqueue_167 : decode prog_9_method_41_code 167 = .ok (.iconst 4, 1) := by decide +kernel
theorem d_M_unqueue_168 : decode prog_9_method_41_code 168 = .ok (.iload_n 3, 1) := by decide +kernel
theorem d_M_unqueue_169 : decode prog_9_method_41_code 169 = .ok (.imul, 1) := by decide +kernel
theorem d_M_unqueue_170 : decode prog_9_method_41_code 170 = .ok (.iload 4, 2) := by decide +kernel
theorem d_M_unqueue_172 : decode prog_9_method_41_code 172 = .ok (.iadd, 1) := by decide +kernel
theorem d_M_unqueue_173 : decode prog_9_method_41_code 173 = .ok (.iconst 1, 1) := by decide +kernel
theorem d_M_unqueue_174 : decode prog_9_method_41_code 174 = .ok (.iadd, 1) := by decide +kernel
theorem d_M_unqueue_175 : decode prog_9_method_41_code 175 = .ok (.iaload, 1) := by decide +kernel
theorem d_M_unqueue_176 : decode prog_9_method_41_code 176 = .ok (.iastore, 1) := by decide +kernel
theorem d_M_unqueue_177 : decode prog_9_method_41_code 177 = .ok (.iinc 4 1, 3) := by decide +kernel
theorem d_M_unqueue_180 : decode prog_9_method_41_code 180 = .ok (.goto (-38), 3) := by decide +kernel
theorem d_M_unqueue_183 : decode prog_9_method_41_code 183 = .ok (.return_, 1) := by decide +kernel
theorem d_M_abort_0 : decode prog_9_method_42_code 0 = .ok (.iload_n 1, 1) := by decide +kernel
theorem d_M_abort_1 : decode prog_9_method_42_code 1 = .ok (.iconst 0, 1) := by decide +kernel
theorem d_M_abort_2 : decode prog_9_method_42_code 2 = .ok (.aload_n 0, 1) := by decide +kernel
theorem d_M_abort_3 : decode prog_9_method_42_code 3 = .ok (.getfield 112, 3) := by decide +kernel
theorem d_M_abort_6 : decode prog_9_method_42_code 6 = .ok (.iconst 1, 1) := by decide +kernel
theorem d_M_abort_7 : decode prog_9_method_42_code 7 = .ok (.isub, 1) := by decide +kernel
theorem d_M_abort_8 : decode prog_9_method_42_code 8 = .ok (.invokestatic 93, 3) := by decide +kernel
theorem d_M_abort_11 : decode prog_9_method_42_code 11 = .ok (.ifCond .eq 17, 3) := by decide +kernel
theorem d_M_abort_14 : decode prog_9_method_42_code 14 = .ok (.aload_n 0, 1) := by decide +kernel
theorem d_M_abort_15 : decode prog_9_method_42_code 15 = .ok (.getfield 19, 3) := by decide +kernel
theorem d_M_abort_18 : decode prog_9_method_42_code 18 = .ok (.iload_n 1, 1) := by decide +kernel
theorem d_M_abort_19 : decode prog_9_method_42_code 19 = .ok (.iaload, 1) := by decide +kernel
theorem d_M_abort_20 : decode prog_9_method_42_code 20 = .ok (.iconst 2, 1) := by decide +kernel
theorem d_M_abort_21 : decode prog_9_method_42_code 21 = .ok (.iconst 4, 1) := by decide +kernel
theorem d_M_abort_22 : decode prog_9_method_42_code 22 = .ok (.invokestatic 93, 3) := by decide +kernel
theorem d_M_abort_25 : decode prog_9_method_42_code 25 = .ok (.ifCond .eq 5, 3) := by decide +kernel
theorem d_M_abort_28 : decode prog_9_method_42_code 28 = .ok (.iconst 0, 1) := by decide +kernel
theorem d_M_abort_29 : decode prog_9_method_42_code 29 = .ok (.ireturn, 1) := by decide +kernel
theorem d_M_abort_30 : decode prog_9_method_42_code 30 = .ok (.aload_n 0, 1) := by decide +kernel
theorem d_M_abort_31 : decode prog_9_method_42_code 31 = .ok (.iload_n 1, 1) := by decide +kernel
theorem d_M_abort_32 : decode prog_9_method_42_code 32 = .ok (.iconst 4, 1) := by decide +kernel
theorem d_M_abort_33 : decode prog_9_method_42_code 33 = .ok (.iconst 0, 1) := by decide +kernel
theorem d_M_abort_34 : decode prog_9_method_42_code 34 = .ok (.invokevirtual 201, 3) := by decide +kernel
theorem d_M_abort_37 : decode prog_9_method_42_code 37 = .ok (.aload_n 0, 1) := by decide +kernel
theorem d_M_abort_38 : decode prog_9_method_42_code 38 = .ok (.iload_n 1, 1) := by decide +kernel
theorem d_M_abort_39 : decode prog_9_method_42_code 39 = .ok (.invokevirtual 226, 3) := by decide +kernel
theorem d_M_abort_42 : decode prog_9_method_42_code 42 = .ok (.aload_n 0, 1) := by decide +kernel
theorem d_M_abort_43 : decode prog_9_method_42_code 43 = .ok (.iload_n 1, 1) := by decide +kernel
theorem d_M_abort_44 : decode prog_9_method_42_code 44 = .ok (.iconst 0, 1) := by decide +kernel
theorem d_M_abort_45 : decode prog_9_method_42_code 45 = .ok (.invokevirtual 168, 3) := by decide +kernel
theorem d_M_abort_48 : decode prog_9_method_42_code 48 = .ok (.aload_n 0, 1) := by decide +kernel
theorem d_M_abort_49 : decode prog_9_method_42_code 49 = .ok (.iload_n 1, 1) := by decide +kernel
theorem d_M_abort_50 : decode prog_9_method_42_code 50 = .ok (.invokevirtual 204, 3) := by decide +kernel
theorem d_M_abort_53 : decode prog_9_method_42_code 53 = .ok (.iconst 1, 1) := by decide +kernel
theorem d_M_abort_54 : decode prog_9_method_42_code 54 = .ok (.ireturn, 1) := by decide +kernel
theorem d_M_put_0 : decode prog_9_method_43_code 0 = .ok (.iload_n 1, 1) := by decide +kernel
theorem d_M_put_1 : decode prog_9_method_43_code 1 = .ok (.iconst 0, 1) := by decide +kernel
theorem d_M_put_2 : decode prog_9_method_43_code 2 = .ok (.iconst 1, 1) := by decide +kernel
theorem d_M_put_3 : decode prog_9_method_43_code 3 = .ok (.invokestatic 93, 3) := by decide +kernel
theorem d_M_put_6 : decode prog_9_method_43_code 6 = .ok (.ifCond .eq 13, 3) := by decide +kernel
theorem d_M_put_9 : decode prog_9_method_43_code 9 = .ok (.iload_n 2, 1) := by decide +kernel
theorem d_M_put_10 : decode prog_9_method_43_code 10 = .ok (.iconst 1, 1) := by decide +kernel
theorem d_M_put_11 : decode prog_9_method_43_code 11 = .ok (.bipush 9, 2) := by decide +kernel
theorem d_M_put_13 : decode prog_9_method_43_code 13 = .ok (.invokestatic 93, 3) := by decide +kernel
theorem d_M_put_16 : decode prog_9_method_43_code 16 = .ok (.ifCond .ne 5, 3) := by decide +kernel
theorem d_M_put_19 : decode prog_9_method_43_code 19 = .ok (.iconst (-1), 1) := by decide +kernel
theorem d_M_put_20 : decode prog_9_method_43_code 20 = .ok (.ireturn, 1) := by decide +kernel
theorem d_M_put_21 : decode prog_9_method_43_code 21 = .ok (.aload_n 0, 1) := by decide +kernel
theorem d_M_put_22 : decode prog_9_method_43_code 22 = .ok (.iload_n 1, 1) := by decide +kernel
theorem d_M_put_23 : decode prog_9_method_43_code 23 = .ok (.iload_n 2, 1) := by decide +kernel
theorem d_M_put_24 : decode prog_9_method_43_code 24 = .ok (.invokevirtual 144, 3) := by decide +kernel
theorem d_M_put_27 : decode prog_9_method_43_code 27 = .ok (.aload_n 0, 1) := by decide +kernel
theorem d_M_put_28 : decode prog_9_method_43_code 28 = .ok (.getfield 83, 3) := by decide +kernel
theorem d_M_put_31 : decode prog_9_method_43_code 31 = .ok (.iload_n 1, 1) := by decide +kernel
theorem d_M_put_32 : decode prog_9_method_43_code 32 = .ok (.iaload, 1) := by decide +kernel
theorem d_M_put_33 : decode prog_9_method_43_code 33 = .ok (.ireturn, 1) := by decide +kernel
theorem d_M_wake_0 : decode prog_9_method_44_code 0 = .ok (.iload_n 1, 1) := by decide +kernel
theorem d_M_wake_1 : decode prog_9_method_44_code 1 = .ok (.iconst 0, 1) := by decide +kernel
theorem d_M_wake_2 : decode prog_9_method_44_code 2 = .ok (.iconst 1, 1) := by decide +kernel
theorem d_M_wake_3 : decode prog_9_method_44_code 3 = .ok (.invokestatic 93, 3) := by decide +kernel
theorem d_M_wake_6 : decode prog_9_method_44_code 6 = .ok (.ifCond .ne 5, 3) := by decide +kernel
theorem d_M_wake_9 : decode prog_9_method_44_code 9 = .ok (.iconst (-1), 1) := by decide +kernel
theorem d_M_wake_10 : decode prog_9_method_44_code 10 = .ok (.ireturn, 1) := by decide +kernel
theorem d_M_wake_11 : decode prog_9_method_44_code 11 = .ok (.aload_n 0, 1) := by decide +kernel
theorem d_M_wake_12 : decode prog_9_method_44_code 12 = .ok (.iload_n 1, 1) := by decide +kernel
theorem d_M_wake_13 : decode prog_9_method_44_code 13 = .ok (.invokevirtual 147, 3) := by decide +kernel
theorem d_M_wake_16 : decode prog_9_method_44_code 16 = .ok (.istore_n 2, 1) := by decide +kernel
theorem d_M_wake_17 : decode prog_9_method_44_code 17 = .ok (.iload_n 2, 1) := by decide +kernel
theorem d_M_wake_18 : decode prog_9_method_44_code 18 = .ok (.ifCond .eq 7, 3) := by decide +kernel
theorem d_M_wake_21 : decode prog_9_method_44_code 21 = .ok (.iconst 1, 1) := by decide +kernel
theorem d_M_wake_22 : decode prog_9_method_44_code 22 = .ok (.goto 4, 3) := by decide +kernel
theorem d_M_wake_25 : decode prog_9_method_44_code 25 = .ok (.iconst 0, 1) := by decide +kernel
theorem d_M_wake_26 : decode prog_9_method_44_code 26 = .ok (.ireturn, 1) := by decide +kernel
theorem d_M_task_0 : decode prog_9_method_45_code 0 = .ok (.iload_n 1, 1) := by decide +kernel
theorem d_M_task_1 : decode prog_9_method_45_code 1 = .ok (.iconst 0, 1) := by decide +kernel
theorem d_M_task_2 : decode prog_9_method_45_code 2 = .ok (.aload_n 0, 1) := by decide +kernel
theorem d_M_task_3 : decode prog_9_method_45_code 3 = .ok (.getfield 112, 3) := by decide +kernel
theorem d_M_task_6 : decode prog_9_method_45_code 6 = .ok (.iconst 1, 1) := by decide +kernel
theorem d_M_task_7 : decode prog_9_method_45_code 7 = .ok (.isub, 1) := by decide +kernel
theorem d_M_task_8 : decode prog_9_method_45_code 8 = .ok (.invokestatic 93, 3) := by decide +kernel
theorem d_M_task_11 : decode prog_9_method_45_code 11 = .ok (.ifCond .ne 5, 3) := by decide +kernel
theorem d_M_task_14 : decode prog_9_method_45_code 14 = .ok (.iconst (-1), 1) := by decide +kernel
theorem d_M_task_15 : decode prog_9_method_45_code 15 = .ok (.ireturn, 1) := by decide +kernel
theorem d_M_task_16 : decode prog_9_method_45_code 16 = .ok (.iload_n 2, 1) := by decide +kernel
theorem d_M_task_17 : decode prog_9_method_45_code 17 = .ok (.tableswitch 105 0 5 #[39, 46, 77, 84, 91, 98], 39) := by decide +kernel
theorem d_M_task_56 : decode prog_9_method_45_code 56 = .ok (.aload_n 0, 1) := by decide +kernel
theorem d_M_task_57 : decode prog_9_method_45_code 57 = .ok (.getfield 19, 3) := by decide +kernel
theorem d_M_task_60 : decode prog_9_method_45_code 60 = .ok (.iload_n 1, 1) := by decide +kernel
theorem d_M_task_61 : decode prog_9_method_45_code 61 = .ok (.iaload, 1) := by decide +kernel
theorem d_M_task_62 : decode prog_9_method_45_code 62 = .ok (.ireturn, 1) := by decide +kernel
theorem d_M_task_63 : decode prog_9_method_45_code 63 = .ok (.aload_n 0, 1) := by decide +kernel
theorem d_M_task_64 : decode prog_9_method_45_code 64 = .ok (.getfield 19, 3) := by decide +kernel
theorem d_M_task_67 : decode prog_9_method_45_code 67 = .ok (.iload_n 1, 1) := by decide +kernel
theorem d_M_task_68 : decode prog_9_method_45_code 68 = .ok (.iaload, 1) := by decide +kernel
theorem d_M_task_69 : decode prog_9_method_45_code 69 = .ok (.iconst 2, 1) := by decide +kernel
theorem d_M_task_70 : decode prog_9_method_45_code 70 = .ok (.if_icmp .eq 13, 3) := by decide +kernel
theorem d_M_task_73 : decode prog_9_method_45_code 73 = .ok (.aload_n 0, 1) := by decide +kernel
theorem d_M_task_74 : decode prog_9_method_45_code 74 = .ok (.getfield 19, 3) := by decide +kernel
theorem d_M_task_77 : decode prog_9_method_45_code 77 = .ok (.iload_n 1, 1) := by decide +kernel
theorem d_M_task_78 : decode prog_9_method_45_code 78 = .ok (.iaload, 1) := by decide +kernel
theorem d_M_task_79 : decode prog_9_method_45_code 79 = .ok (.iconst 3, 1) := by decide +kernel
theorem d_M_task_80 : decode prog_9_method_45_code 80 = .ok (.if_icmp .ne 12, 3) := by decide +kernel
theorem d_M_task_83 : decode prog_9_method_45_code 83 = .ok (.aload_n 0, 1) := by decide +kernel
theorem d_M_task_84 : decode prog_9_method_45_code 84 = .ok (.getfield 22, 3) := by decide +kernel
theorem d_M_task_87 : decode prog_9_method_45_code 87 = .ok (.iload_n 1, 1) := by decide +kernel
theorem d_M_task_88 : decode prog_9_method_45_code 88 = .ok (.iaload, 1) := by decide +kernel
theorem d_M_task_89 : decode prog_9_method_45_code 89 = .ok (.goto 4, 3) := by decide +kernel
theorem d_M_task_92 : decode prog_9_method_45_code 92 = .ok (.iconst 0, 1) := by decide +kernel
theorem d_M_task_93 : decode prog_9_method_45_code 93 = .ok (.ireturn, 1) := by decide +kernel
theorem d_M_task_94 : decode prog_9_method_45_code 94 = .ok (.aload_n 0, 1) := by decide +kernel
theorem d_M_task_95 : decode prog_9_method_45_code 95 = .ok (.getfield 25, 3) := by decide +kernel
theorem d_M_task_98 : decode prog_9_method_45_code 98 = .ok (.iload_n 1, 1) := by decide +kernel
theorem d_M_task_99 : decode prog_9_method_45_code 99 = .ok (.iaload, 1) := by decide +kernel
theorem d_M_task_100 : decode prog_9_method_45_code 100 = .ok (.ireturn, 1) := by decide +kernel
theorem d_M_task_101 : decode prog_9_method_45_code 101 = .ok (.aload_n 0, 1) := by decide +kernel
theorem d_M_task_102 : decode prog_9_method_45_code 102 = .ok (.getfield 28, 3) := by decide +kernel
theorem d_M_task_105 : decode prog_9_method_45_code 105 = .ok (.iload_n 1, 1) := by decide +kernel
theorem d_M_task_106 : decode prog_9_method_45_code 106 = .ok (.iaload, 1) := by decide +kernel
theorem d_M_task_107 : decode prog_9_method_45_code 107 = .ok (.ireturn, 1) := by decide +kernel
theorem d_M_task_108 : decode prog_9_method_45_code 108 = .ok (.aload_n 0, 1) := by decide +kernel
theorem d_M_task_109 : decode prog_9_method_45_code 109 = .ok (.getfield 31, 3) := by decide +kernel
theorem d_M_task_112 : decode prog_9_method_45_code 112 = .ok (.iload_n 1, 1) := by decide +kernel
theorem d_M_task_113 : decode prog_9_method_45_code 113 = .ok (.iaload, 1) := by decide +kernel
theorem d_M_task_114 : decode prog_9_method_45_code 114 = .ok (.ireturn, 1) := by decide +kernel
theorem d_M_task_115 : decode prog_9_method_45_code 115 = .ok (.aload_n 0, 1) := by decide +kernel
theorem d_M_task_116 : decode prog_9_method_45_code 116 = .ok (.getfield 34, 3) := by decide +kernel
theorem d_M_task_119 : decode prog_9_method_45_code 119 = .ok (.iload_n 1, 1) := by decide +kernel
theorem d_M_task_120 : decode prog_9_method_45_code 120 = .ok (.iaload, 1) := by decide +kernel
theorem d_M_task_121 : decode prog_9_method_45_code 121 = .ok (.ireturn, 1) := by decide +kernel
theorem d_M_task_122 : decode prog_9_method_45_code 122 = .ok (.iconst (-1), 1) := by decide +kernel
theorem d_M_task_123 : decode prog_9_method_45_code 123 = .ok (.ireturn, 1) := by decide +kernel
theorem d_M_worker_0 : decode prog_9_method_46_code 0 = .ok (.iload_n 1, 1) := by decide +kernel
theorem d_M_worker_1 : decode prog_9_method_46_code 1 = .ok (.iconst 0, 1) := by decide +kernel
theorem d_M_worker_2 : decode prog_9_method_46_code 2 = .ok (.iconst 2, 1) := by decide +kernel
theorem d_M_worker_3 : decode prog_9_method_46_code 3 = .ok (.invokestatic 93, 3) := by decide +kernel
theorem d_M_worker_6 : decode prog_9_method_46_code 6 = .ok (.ifCond .eq 13, 3) := by decide +kernel
theorem d_M_worker_9 : decode prog_9_method_46_code 9 = .ok (.iload_n 2, 1) := by decide +kernel
theorem d_M_worker_10 : decode prog_9_method_46_code 10 = .ok (.iconst 0, 1) := by decide +kernel
theorem d_M_worker_11 : decode prog_9_method_46_code 11 = .ok (.bipush 7, 2) := by decide +kernel
theorem d_M_worker_13 : decode prog_9_method_46_code 13 = .ok (.invokestatic 93, 3) := by decide +kernel
theorem d_M_worker_16 : decode prog_9_method_46_code 16 = .ok (.ifCond .ne 5, 3) := by decide +kernel
theorem d_M_worker_19 : decode prog_9_method_46_code 19 = .ok (.iconst (-1), 1) := by decide +kernel
theorem d_M_worker_20 : decode prog_9_method_46_code 20 = .ok (.ireturn, 1) := by decide +kernel
theorem d_M_worker_21 : decode prog_9_method_46_code 21 = .ok (.iload_n 2, 1) := by decide +kernel
theorem d_M_worker_22 : decode prog_9_method_46_code 22 = .ok (.tableswitch 74 0 7 #[46, 53, 60, 74, 74, 74, 74, 67], 46) := by decide +kernel
theorem d_M_worker_68 : decode prog_9_method_46_code 68 = .ok (.aload_n 0, 1) := by decide +kernel
theorem d_M_worker_69 : decode prog_9_method_46_code 69 = .ok (.getfield 65, 3) := by decide +kernel
theorem d_M_worker_72 : decode prog_9_method_46_code 72 = .ok (.iload_n 1, 1) := by decide +kernel
theorem d_M_worker_73 : decode prog_9_method_46_code 73 = .ok (.iaload, 1) := by decide +kernel
theorem d_M_worker_74 : decode prog_9_method_46_code 74 = .ok (.ireturn, 1) := by decide +kernel
theorem d_M_worker_75 : decode prog_9_method_46_code 75 = .ok (.aload_n 0, 1) := by decide +kernel
theorem d_M_worker_76 : decode prog_9_method_46_code 76 = .ok (.getfield 68, 3) := by decide +kernel
theorem d_M_worker_79 : decode prog_9_method_46_code 79 = .ok (.iload_n 1, 1) := by decide +kernel
theorem d_M_worker_80 : decode prog_9_method_46_code 80 = .ok (.iaload, 1) := by decide +kernel
theorem d_M_worker_81 : decode prog_9_method_46_code 81 = .ok (.ireturn, 1) := by decide +kernel
theorem d_M_worker_82 : decode prog_9_method_46_code 82 = .ok (.aload_n 0, 1) := by decide +kernel
theorem d_M_worker_83 : decode prog_9_method_46_code 83 = .ok (.getfield 77, 3) := by decide +kernel
theorem d_M_worker_86 : decode prog_9_method_46_code 86 = .ok (.iload_n 1, 1) := by decide +kernel
theorem d_M_worker_87 : decode prog_9_method_46_code 87 = .ok (.iaload, 1) := by decide +kernel
theorem d_M_worker_88 : decode prog_9_method_46_code 88 = .ok (.ireturn, 1) := by decide +kernel
theorem d_M_worker_89 : decode prog_9_method_46_code 89 = .ok (.aload_n 0, 1) := by decide +kernel
theorem d_M_worker_90 : decode prog_9_method_46_code 90 = .ok (.getfield 71, 3) := by decide +kernel
theorem d_M_worker_93 : decode prog_9_method_46_code 93 = .ok (.iload_n 1, 1) := by decide +kernel
theorem d_M_worker_94 : decode prog_9_method_46_code 94 = .ok (.iaload, 1) := by decide +kernel
theorem d_M_worker_95 : decode prog_9_method_46_code 95 = .ok (.ireturn, 1) := by decide +kernel
theorem d_M_worker_96 : decode prog_9_method_46_code 96 = .ok (.iload_n 2, 1) := by decide +kernel
theorem d_M_worker_97 : decode prog_9_method_46_code 97 = .ok (.iconst 3, 1) := by decide +kernel
theorem d_M_worker_98 : decode prog_9_method_46_code 98 = .ok (.isub, 1) := by decide +kernel
theorem d_M_worker_99 : decode prog_9_method_46_code 99 = .ok (.aload_n 0, 1) := by decide +kernel
theorem d_M_worker_100 : decode prog_9_method_46_code 100 = .ok (.getfield 77, 3) := by decide +kernel
theorem d_M_worker_103 : decode prog_9_method_46_code 103 = .ok (.iload_n 1, 1) := by decide +kernel
theorem d_M_worker_104 : decode prog_9_method_46_code 104 = .ok (.iaload, 1) := by decide +kernel
theorem d_M_worker_105 : decode prog_9_method_46_code 105 = .ok (.if_icmp .ge 18, 3) := by decide +kernel
theorem d_M_worker_108 : decode prog_9_method_46_code 108 = .ok (.aload_n 0, 1) := by decide +kernel
theorem d_M_worker_109 : decode prog_9_method_46_code 109 = .ok (.getfield 74, 3) := by decide +kernel
theorem d_M_worker_112 : decode prog_9_method_46_code 112 = .ok (.iconst 4, 1) := by decide +kernel
theorem d_M_worker_113 : decode prog_9_method_46_code 113 = .ok (.iload_n 1, 1) := by decide +kernel
theorem d_M_worker_114 : decode prog_9_method_46_code 114 = .ok (.imul, 1) := by decide +kernel
theorem d_M_worker_115 : decode prog_9_method_46_code 115 = .ok (.iload_n 2, 1) := by decide +kernel
theorem d_M_worker_116 : decode prog_9_method_46_code 116 = .ok (.iadd, 1) := by decide +kernel
theorem d_M_worker_117 : decode prog_9_method_46_code 117 = .ok (.iconst 3, 1) := by decide +kernel
theorem d_M_worker_118 : decode prog_9_method_46_code 118 = .ok (.isub, 1) := by decide +kernel
theorem d_M_worker_119 : decode prog_9_method_46_code 119 = .ok (.iaload, 1) := by decide +kernel
theorem d_M_worker_120 : decode prog_9_method_46_code 120 = .ok (.goto 4, 3) := by decide +kernel
theorem d_M_worker_123 : decode prog_9_method_46_code 123 = .ok (.iconst (-1), 1) := by decide +kernel
theorem d_M_worker_124 : decode prog_9_method_46_code 124 = .ok (.ireturn, 1) := by decide +kernel
theorem d_M_injected_0 : decode prog_9_method_47_code 0 = .ok (.iload_n 1, 1) := by decide +kernel
theorem d_M_injected_1 : decode prog_9_method_47_code 1 = .ok (.iconst 0, 1) := by decide +kernel
theorem d_M_injected_2 : decode prog_9_method_47_code 2 = .ok (.aload_n 0, 1) := by decide +kernel
theorem d_M_injected_3 : decode prog_9_method_47_code 3 = .ok (.getfield 119, 3) := by decide +kernel
theorem d_M_injected_6 : decode prog_9_method_47_code 6 = .ok (.iconst 1, 1) := by decide +kernel
theorem d_M_injected_7 : decode prog_9_method_47_code 7 = .ok (.isub, 1) := by decide +kernel
theorem d_M_injected_8 : decode prog_9_method_47_code 8 = .ok (.invokestatic 93, 3) := by decide +kernel
theorem d_M_injected_11 : decode prog_9_method_47_code 11 = .ok (.ifCond .eq 12, 3) := by decide +kernel
theorem d_M_injected_14 : decode prog_9_method_47_code 14 = .ok (.aload_n 0, 1) := by decide +kernel
theorem d_M_injected_15 : decode prog_9_method_47_code 15 = .ok (.getfield 80, 3) := by decide +kernel
theorem d_M_injected_18 : decode prog_9_method_47_code 18 = .ok (.iload_n 1, 1) := by decide +kernel
theorem d_M_injected_19 : decode prog_9_method_47_code 19 = .ok (.iaload, 1) := by decide +kernel
theorem d_M_injected_20 : decode prog_9_method_47_code 20 = .ok (.goto 4, 3) := by decide +kernel
theorem d_M_injected_23 : decode prog_9_method_47_code 23 = .ok (.iconst (-1), 1) := by decide +kernel
theorem d_M_injected_24 : decode prog_9_method_47_code 24 = .ok (.ireturn, 1) := by decide +kernel
theorem d_M_gate_0 : decode prog_9_method_48_code 0 = .ok (.iload_n 1, 1) := by decide +kernel
theorem d_M_gate_1 : decode prog_9_method_48_code 1 = .ok (.iconst 0, 1) := by decide +kernel
theorem d_M_gate_2 : decode prog_9_method_48_code 2 = .ok (.iconst 1, 1) := by decide +kernel
theorem d_M_gate_3 : decode prog_9_method_48_code 3 = .ok (.invokestatic 93, 3) := by decide +kernel
theorem d_M_gate_6 : decode prog_9_method_48_code 6 = .ok (.ifCond .eq 12, 3) := by decide +kernel
theorem d_M_gate_9 : decode prog_9_method_48_code 9 = .ok (.iload_n 2, 1) := by decide +kernel
theorem d_M_gate_10 : decode prog_9_method_48_code 10 = .ok (.iconst 0, 1) := by decide +kernel
theorem d_M_gate_11 : decode prog_9_method_48_code 11 = .ok (.iconst 4, 1) := by decide +kernel
theorem d_M_gate_12 : decode prog_9_method_48_code 12 = .ok (.invokestatic 93, 3) := by decide +kernel
theorem d_M_gate_15 : decode prog_9_method_48_code 15 = .ok (.ifCond .ne 5, 3) := by decide +kernel
theorem d_M_gate_18 : decode prog_9_method_48_code 18 = .ok (.iconst (-1), 1) := by decide +kernel
theorem d_M_gate_19 : decode prog_9_method_48_code 19 = .ok (.ireturn, 1) := by decide +kernel
theorem d_M_gate_20 : decode prog_9_method_48_code 20 = .ok (.aload_n 0, 1) := by decide +kernel
theorem d_M_gate_21 : decode prog_9_method_48_code 21 = .ok (.iconst 3, 1) := by decide +kernel
theorem d_M_gate_22 : decode prog_9_method_48_code 22 = .ok (.iload_n 1, 1) := by decide +kernel
theorem d_M_gate_23 : decode prog_9_method_48_code 23 = .ok (.invokevirtual 135, 3) := by decide +kernel
theorem d_M_gate_26 : decode prog_9_method_48_code 26 = .ok (.istore_n 3, 1) := by decide +kernel
theorem d_M_gate_27 : decode prog_9_method_48_code 27 = .ok (.iload_n 2, 1) := by decide +kernel
theorem d_M_gate_28 : decode prog_9_method_48_code 28 = .ok (.tableswitch 76 0 3 #[32, 39, 46, 61], 32) := by decide +kernel
theorem d_M_gate_60 : decode prog_9_method_48_code 60 = .ok (.aload_n 0, 1) := by decide +kernel
theorem d_M_gate_61 : decode prog_9_method_48_code 61 = .ok (.getfield 83, 3) := by decide +kernel
theorem d_M_gate_64 : decode prog_9_method_48_code 64 = .ok (.iload_n 1, 1) := by decide +kernel
theorem d_M_gate_65 : decode prog_9_method_48_code 65 = .ok (.iaload, 1) := by decide +kernel
theorem d_M_gate_66 : decode prog_9_method_48_code 66 = .ok (.ireturn, 1) := by decide +kernel
theorem d_M_gate_67 : decode prog_9_method_48_code 67 = .ok (.aload_n 0, 1) := by decide +kernel
theorem d_M_gate_68 : decode prog_9_method_48_code 68 = .ok (.iconst 3, 1) := by decide +kernel
theorem d_M_gate_69 : decode prog_9_method_48_code 69 = .ok (.iload_n 1, 1) := by decide +kernel
theorem d_M_gate_70 : decode prog_9_method_48_code 70 = .ok (.invokevirtual 229, 3) := by decide +kernel
theorem d_M_gate_73 : decode prog_9_method_48_code 73 = .ok (.ireturn, 1) := by decide +kernel
theorem d_M_gate_74 : decode prog_9_method_48_code 74 = .ok (.iload_n 3, 1) := by decide +kernel
theorem d_M_gate_75 : decode prog_9_method_48_code 75 = .ok (.ifCond .ge 7, 3) := by decide +kernel
theorem d_M_gate_78 : decode prog_9_method_48_code 78 = .ok (.iconst 0, 1) := by decide +kernel
theorem d_M_gate_79 : decode prog_9_method_48_code 79 = .ok (.goto 9, 3) := by decide +kernel
theorem d_M_gate_82 : decode prog_9_method_48_code 82 = .ok (.aload_n 0, 1) := by decide +kernel
theorem d_M_gate_83 : decode prog_9_method_48_code 83 = .ok (.getfield 47, 3) := by decide +kernel
theorem d_M_gate_86 : decode prog_9_method_48_code 86 = .ok (.iload_n 3, 1) := by decide +kernel
theorem d_M_gate_87 : decode prog_9_method_48_code 87 = .ok (.iaload, 1) := by decide +kernel
theorem d_M_gate_88 : decode prog_9_method_48_code 88 = .ok (.ireturn, 1) := by decide +kernel
theorem d_M_gate_89 : decode prog_9_method_48_code 89 = .ok (.aload_n 0, 1) := by decide +kernel
theorem d_M_gate_90 : decode prog_9_method_48_code 90 = .ok (.getfield 86, 3) := by decide +kernel
theorem d_M_gate_93 : decode prog_9_method_48_code 93 = .ok (.iload_n 1, 1) := by decide +kernel
theorem d_M_gate_94 : decode prog_9_method_48_code 94 = .ok (.baload, 1) := by decide +kernel
theorem d_M_gate_95 : decode prog_9_method_48_code 95 = .ok (.ifCond .eq 7, 3) := by decide +kernel
theorem d_M_gate_98 : decode prog_9_method_48_code 98 = .ok (.iconst 1, 1) := by decide +kernel
theorem d_M_gate_99 : decode prog_9_method_48_code 99 = .ok (.goto 4, 3) := by decide +kernel
theorem d_M_gate_102 : decode prog_9_method_48_code 102 = .ok (.iconst 0, 1) := by decide +kernel
theorem d_M_gate_103 : decode prog_9_method_48_code 103 = .ok (.ireturn, 1) := by decide +kernel
theorem d_M_gate_104 : decode prog_9_method_48_code 104 = .ok (.aload_n 0, 1) := by decide +kernel
theorem d_M_gate_105 : decode prog_9_method_48_code 105 = .ok (.iconst 5, 1) := by decide +kernel
theorem d_M_gate_106 : decode prog_9_method_48_code 106 = .ok (.iload_n 1, 1) := by decide +kernel
theorem d_M_gate_107 : decode prog_9_method_48_code 107 = .ok (.invokevirtual 229, 3) := by decide +kernel
theorem d_M_gate_110 : decode prog_9_method_48_code 110 = .ok (.ireturn, 1) := by decide +kernel
theorem d_M_count_0 : decode prog_9_method_49_code 0 = .ok (.iconst 0, 1) := by decide +kernel
theorem d_M_count_1 : decode prog_9_method_49_code 1 = .ok (.istore_n 2, 1) := by decide +kernel
theorem d_M_count_2 : decode prog_9_method_49_code 2 = .ok (.iload_n 1, 1) := by decide +kernel
theorem d_M_count_3 : decode prog_9_method_49_code 3 = .ok (.tableswitch 118 0 7 #[45, 50, 55, 90, 95, 100, 105, 110], 45) := by decide +kernel
theorem d_M_count_48 : decode prog_9_method_49_code 48 = .ok (.aload_n 0, 1) := by decide +kernel
theorem d_M_count_49 : decode prog_9_method_49_code 49 = .ok (.getfield 105, 3) := by decide +kernel
theorem d_M_count_52 : decode prog_9_method_49_code 52 = .ok (.ireturn, 1) := by decide +kernel
theorem d_M_count_53 : decode prog_9_method_49_code 53 = .ok (.aload_n 0, 1) := by decide +kernel
theorem d_M_count_54 : decode prog_9_method_49_code 54 = .ok (.getfield 112, 3) := by decide +kernel
theorem d_M_count_57 : decode prog_9_method_49_code 57 = .ok (.ireturn, 1) := by decide +kernel
theorem d_M_count_58 : decode prog_9_method_49_code 58 = .ok (.iconst 0, 1) := by decide +kernel
theorem d_M_count_59 : decode prog_9_method_49_code 59 = .ok (.istore_n 3, 1) := by decide +kernel
theorem d_M_count_60 : decode prog_9_method_49_code 60 = .ok (.iload_n 3, 1) := by decide +kernel
theorem d_M_count_61 : decode prog_9_method_49_code 61 = .ok (.aload_n 0, 1) := by decide +kernel
theorem d_M_count_62 : decode prog_9_method_49_code 62 = .ok (.getfield 112, 3) := by decide +kernel
theorem d_M_count_65 : decode prog_9_method_49_code 65 = .ok (.if_icmp .ge 26, 3) := by decide +kernel
theorem d_M_count_68 : decode prog_9_method_49_code 68 = .ok (.aload_n 0, 1) := by decide +kernel
theorem d_M_count_69 : decode prog_9_method_49_code 69 = .ok (.getfield 19, 3) := by decide +kernel
theorem d_M_count_72 : decode prog_9_method_49_code 72 = .ok (.iload_n 3, 1) := by decide +kernel
theorem d_M_count_73 : decode prog_9_method_49_code 73 = .ok (.iaload, 1) := by decide +kernel
theorem d_M_count_74 : decode prog_9_method_49_code 74 = .ok (.iconst 2, 1) := by decide +kernel
theorem d_M_count_75 : decode prog_9_method_49_code 75 = .ok (.iconst 4, 1) := by decide +kernel
theorem d_M_count_76 : decode prog_9_method_49_code 76 = .ok (.invokestatic 93, 3) := by decide +kernel
theorem d_M_count_79 : decode prog_9_method_49_code 79 = .ok (.ifCond .ne 6, 3) := by decide +kernel
theorem d_M_count_82 : decode prog_9_method_49_code 82 = .ok (.iinc 2 1, 3) := by decide +kernel
theorem d_M_count_85 : decode prog_9_method_49_code 85 = .ok (.iinc 3 1, 3) := by decide +kernel
theorem d_M_count_88 : decode prog_9_method_49_code 88 = .ok (.goto (-28), 3) := by decide +kernel
theorem d_M_count_91 : decode prog_9_method_49_code 91 = .ok (.iload_n 2, 1) := by decide +kernel
theorem d_M_count_92 : decode prog_9_method_49_code 92 = .ok (.ireturn, 1) := by decide +kernel
theorem d_M_count_93 : decode prog_9_method_49_code 93 = .ok (.aload_n 0, 1) := by decide +kernel
theorem d_M_count_94 : decode prog_9_method_49_code 94 = .ok (.getfield 162, 3) := by decide +kernel
theorem d_M_count_97 : decode prog_9_method_49_code 97 = .ok (.ireturn, 1) := by decide +kernel
theorem d_M_count_98 : decode prog_9_method_49_code 98 = .ok (.aload_n 0, 1) := by decide +kernel
theorem d_M_count_99 : decode prog_9_method_49_code 99 = .ok (.getfield 195, 3) := by decide +kernel
theorem d_M_count_102 : decode prog_9_method_49_code 102 = .ok (.ireturn, 1) := by decide +kernel
theorem d_M_count_103 : decode prog_9_method_49_code 103 = .ok (.aload_n 0, 1) := by decide +kernel
theorem d_M_count_104 : decode prog_9_method_49_code 104 = .ok (.getfield 119, 3) := by decide +kernel
theorem d_M_count_107 : decode prog_9_method_49_code 107 = .ok (.ireturn, 1) := by decide +kernel
theorem d_M_count_108 : decode prog_9_method_49_code 108 = .ok (.aload_n 0, 1) := by decide +kernel
theorem d_M_count_109 : decode prog_9_method_49_code 109 = .ok (.getfield 211, 3) := by decide +kernel
theorem d_M_count_112 : decode prog_9_method_49_code 112 = .ok (.ireturn, 1) := by decide +kernel
theorem d_M_count_113 : decode prog_9_method_49_code 113 = .ok (.aload_n 0, 1) := by decide +kernel
theorem d_M_count_114 : decode prog_9_method_49_code 114 = .ok (.getfield 16, 3) := by decide +kernel
theorem d_M_count_117 : decode prog_9_method_49_code 117 = .ok (.bipush 6, 2) := by decide +kernel
theorem d_M_count_119 : decode prog_9_method_49_code 119 = .ok (.iaload, 1) := by decide +kernel
theorem d_M_count_120 : decode prog_9_method_49_code 120 = .ok (.ireturn, 1) := by decide +kernel
theorem d_M_count_121 : decode prog_9_method_49_code 121 = .ok (.iconst (-1), 1) := by decide +kernel
theorem d_M_count_122 : decode prog_9_method_49_code 122 = .ok (.ireturn, 1) := by decide +kernel
end
section
theorem d_L_law_0 : decode code 0 = .ok (.new 7, 3) := by decide +kernel
theorem d_L_law_3 : decode code 3 = .ok (.dup, 1) := by decide +kernel
theorem d_L_law_4 : decode code 4 = .ok (.invokespecial 9, 3) := by decide +kernel
theorem d_L_law_7 : decode code 7 = .ok (.astore_n 1, 1) := by decide +kernel
theorem d_L_law_8 : decode code 8 = .ok (.new 10, 3) := by decide +kernel
theorem d_L_law_11 : decode code 11 = .ok (.dup, 1) := by decide +kernel
theorem d_L_law_12 : decode code 12 = .ok (.invokespecial 12, 3) := by decide +kernel
theorem d_L_law_15 : decode code 15 = .ok (.astore_n 2, 1) := by decide +kernel
theorem d_L_law_16 : decode code 16 = .ok (.iconst 0, 1) := by decide +kernel
theorem d_L_law_17 : decode code 17 = .ok (.istore_n 3, 1) := by decide +kernel
theorem d_L_law_18 : decode code 18 = .ok (.iload_n 3, 1) := by decide +kernel
theorem d_L_law_19 : decode code 19 = .ok (.aload_n 0, 1) := by decide +kernel
theorem d_L_law_20 : decode code 20 = .ok (.arraylength, 1) := by decide +kernel
theorem d_L_law_21 : decode code 21 = .ok (.iconst 3, 1) := by decide +kernel
theorem d_L_law_22 : decode code 22 = .ok (.isub, 1) := by decide +kernel
theorem d_L_law_23 : decode code 23 = .ok (.if_icmp .gt 466, 3) := by decide +kernel
theorem d_L_law_26 : decode code 26 = .ok (.aload_n 0, 1) := by decide +kernel
theorem d_L_law_27 : decode code 27 = .ok (.iload_n 3, 1) := by decide +kernel
theorem d_L_law_28 : decode code 28 = .ok (.iaload, 1) := by decide +kernel
theorem d_L_law_29 : decode code 29 = .ok (.bipush 15, 2) := by decide +kernel
theorem d_L_law_31 : decode code 31 = .ok (.iand, 1) := by decide +kernel
theorem d_L_law_32 : decode code 32 = .ok (.tableswitch 451 0 14 #[76, 109, 122, 135, 158, 181, 204, 227, 250, 283, 306, 339, 372, 395, 428], 76) := by decide +kernel
theorem d_L_law_108 : decode code 108 = .ok (.aload_n 1, 1) := by decide +kernel
theorem d_L_law_109 : decode code 109 = .ok (.aload_n 0, 1) := by decide +kernel
theorem d_L_law_110 : decode code 110 = .ok (.iload_n 3, 1) := by decide +kernel
theorem d_L_law_111 : decode code 111 = .ok (.iconst 1, 1) := by decide +kernel
theorem d_L_law_112 : decode code 112 = .ok (.iadd, 1) := by decide +kernel
theorem d_L_law_113 : decode code 113 = .ok (.iaload, 1) := by decide +kernel
theorem d_L_law_114 : decode code 114 = .ok (.aload_n 0, 1) := by decide +kernel
theorem d_L_law_115 : decode code 115 = .ok (.iload_n 3, 1) := by decide +kernel
theorem d_L_law_116 : decode code 116 = .ok (.iconst 2, 1) := by decide +kernel
theorem d_L_law_117 : decode code 117 = .ok (.iadd, 1) := by decide +kernel
theorem d_L_law_118 : decode code 118 = .ok (.iaload, 1) := by decide +kernel
theorem d_L_law_119 : decode code 119 = .ok (.invokevirtual 13, 3) := by decide +kernel
theorem d_L_law_122 : decode code 122 = .ok (.aload_n 2, 1) := by decide +kernel
theorem d_L_law_123 : decode code 123 = .ok (.aload_n 0, 1) := by decide +kernel
theorem d_L_law_124 : decode code 124 = .ok (.iload_n 3, 1) := by decide +kernel
theorem d_L_law_125 : decode code 125 = .ok (.iconst 1, 1) := by decide +kernel
theorem d_L_law_126 : decode code 126 = .ok (.iadd, 1) := by decide +kernel
theorem d_L_law_127 : decode code 127 = .ok (.iaload, 1) := by decide +kernel
theorem d_L_law_128 : decode code 128 = .ok (.aload_n 0, 1) := by decide +kernel
theorem d_L_law_129 : decode code 129 = .ok (.iload_n 3, 1) := by decide +kernel
theorem d_L_law_130 : decode code 130 = .ok (.iconst 2, 1) := by decide +kernel
theorem d_L_law_131 : decode code 131 = .ok (.iadd, 1) := by decide +kernel
theorem d_L_law_132 : decode code 132 = .ok (.iaload, 1) := by decide +kernel
theorem d_L_law_133 : decode code 133 = .ok (.invokevirtual 17, 3) := by decide +kernel
theorem d_L_law_136 : decode code 136 = .ok (.if_icmp .eq 347, 3) := by decide +kernel
theorem d_L_law_139 : decode code 139 = .ok (.iconst 0, 1) := by decide +kernel
theorem d_L_law_140 : decode code 140 = .ok (.ireturn, 1) := by decide +kernel
theorem d_L_law_141 : decode code 141 = .ok (.aload_n 1, 1) := by decide +kernel
theorem d_L_law_142 : decode code 142 = .ok (.invokevirtual 18, 3) := by decide +kernel
theorem d_L_law_145 : decode code 145 = .ok (.aload_n 2, 1) := by decide +kernel
theorem d_L_law_146 : decode code 146 = .ok (.invokevirtual 22, 3) := by decide +kernel
theorem d_L_law_149 : decode code 149 = .ok (.if_icmp .eq 334, 3) := by decide +kernel
theorem d_L_law_152 : decode code 152 = .ok (.iconst 0, 1) := by decide +kernel
theorem d_L_law_153 : decode code 153 = .ok (.ireturn, 1) := by decide +kernel
theorem d_L_law_154 : decode code 154 = .ok (.aload_n 1, 1) := by decide +kernel
theorem d_L_law_155 : decode code 155 = .ok (.invokevirtual 23, 3) := by decide +kernel
theorem d_L_law_158 : decode code 158 = .ok (.aload_n 2, 1) := by decide +kernel
theorem d_L_law_159 : decode code 159 = .ok (.invokevirtual 26, 3) := by decide +kernel
theorem d_L_law_162 : decode code 162 = .ok (.if_icmp .eq 321, 3) := by decide +kernel
theorem d_L_law_165 : decode code 165 = .ok (.iconst 0, 1) := by decide +kernel
theorem d_L_law_166 : decode code 166 = .ok (.ireturn, 1) := by decide +kernel
theorem d_L_law_167 : decode code 167 = .ok (.aload_n 1, 1) := by decide +kernel
theorem d_L_law_168 : decode code 168 = .ok (.aload_n 0, 1) := by decide +kernel
theorem d_L_law_169 : decode code 169 = .ok (.iload_n 3, 1) := by decide +kernel
theorem d_L_law_170 : decode code 170 = .ok (.iconst 1, 1) := by decide +kernel
theorem d_L_law_171 : decode code 171 = .ok (.iadd, 1) := by decide +kernel
theorem d_L_law_172 : decode code 172 = .ok (.iaload, 1) := by decide +kernel
theorem d_L_law_173 : decode code 173 = .ok (.invokevirtual 27, 3) := by decide +kernel
theorem d_L_law_176 : decode code 176 = .ok (.aload_n 2, 1) := by decide +kernel
theorem d_L_law_177 : decode code 177 = .ok (.aload_n 0, 1) := by decide +kernel
theorem d_L_law_178 : decode code 178 = .ok (.iload_n 3, 1) := by decide +kernel
theorem d_L_law_179 : decode code 179 = .ok (.iconst 1, 1) := by decide +kernel
theorem d_L_law_180 : decode code 180 = .ok (.iadd, 1) := by decide +kernel
theorem d_L_law_181 : decode code 181 = .ok (.iaload, 1) := by decide +kernel
theorem d_L_law_182 : decode code 182 = .ok (.invokevirtual 31, 3) := by decide +kernel
theorem d_L_law_185 : decode code 185 = .ok (.if_icmp .eq 298, 3) := by decide +kernel
theorem d_L_law_188 : decode code 188 = .ok (.iconst 0, 1) := by decide +kernel
theorem d_L_law_189 : decode code 189 = .ok (.ireturn, 1) := by decide +kernel
theorem d_L_law_190 : decode code 190 = .ok (.aload_n 1, 1) := by decide +kernel
theorem d_L_law_191 : decode code 191 = .ok (.aload_n 0, 1) := by decide +kernel
theorem d_L_law_192 : decode code 192 = .ok (.iload_n 3, 1) := by decide +kernel
theorem d_L_law_193 : decode code 193 = .ok (.iconst 1, 1) := by decide +kernel
theorem d_L_law_194 : decode code 194 = .ok (.iadd, 1) := by decide +kernel
theorem d_L_law_195 : decode code 195 = .ok (.iaload, 1) := by decide +kernel
theorem d_L_law_196 : decode code 196 = .ok (.invokevirtual 32, 3) := by decide +kernel
theorem d_L_law_199 : decode code 199 = .ok (.aload_n 2, 1) := by decide +kernel
theorem d_L_law_200 : decode code 200 = .ok (.aload_n 0, 1) := by decide +kernel
theorem d_L_law_201 : decode code 201 = .ok (.iload_n 3, 1) := by decide +kernel
theorem d_L_law_202 : decode code 202 = .ok (.iconst 1, 1) := by decide +kernel
theorem d_L_law_203 : decode code 203 = .ok (.iadd, 1) := by decide +kernel
theorem d_L_law_204 : decode code 204 = .ok (.iaload, 1) := by decide +kernel
theorem d_L_law_205 : decode code 205 = .ok (.invokevirtual 35, 3) := by decide +kernel
theorem d_L_law_208 : decode code 208 = .ok (.if_icmp .eq 275, 3) := by decide +kernel
theorem d_L_law_211 : decode code 211 = .ok (.iconst 0, 1) := by decide +kernel
theorem d_L_law_212 : decode code 212 = .ok (.ireturn, 1) := by decide +kernel
theorem d_L_law_213 : decode code 213 = .ok (.aload_n 1, 1) := by decide +kernel
theorem d_L_law_214 : decode code 214 = .ok (.aload_n 0, 1) := by decide +kernel
theorem d_L_law_215 : decode code 215 = .ok (.iload_n 3, 1) := by decide +kernel
theorem d_L_law_216 : decode code 216 = .ok (.iconst 1, 1) := by decide +kernel
theorem d_L_law_217 : decode code 217 = .ok (.iadd, 1) := by decide +kernel
theorem d_L_law_218 : decode code 218 = .ok (.iaload, 1) := by decide +kernel
theorem d_L_law_219 : decode code 219 = .ok (.invokevirtual 36, 3) := by decide +kernel
theorem d_L_law_222 : decode code 222 = .ok (.aload_n 2, 1) := by decide +kernel
theorem d_L_law_223 : decode code 223 = .ok (.aload_n 0, 1) := by decide +kernel
theorem d_L_law_224 : decode code 224 = .ok (.iload_n 3, 1) := by decide +kernel
theorem d_L_law_225 : decode code 225 = .ok (.iconst 1, 1) := by decide +kernel
theorem d_L_law_226 : decode code 226 = .ok (.iadd, 1) := by decide +kernel
theorem d_L_law_227 : decode code 227 = .ok (.iaload, 1) := by decide +kernel
theorem d_L_law_228 : decode code 228 = .ok (.invokevirtual 39, 3) := by decide +kernel
theorem d_L_law_231 : decode code 231 = .ok (.if_icmp .eq 252, 3) := by decide +kernel
theorem d_L_law_234 : decode code 234 = .ok (.iconst 0, 1) := by decide +kernel
theorem d_L_law_235 : decode code 235 = .ok (.ireturn, 1) := by decide +kernel
theorem d_L_law_236 : decode code 236 = .ok (.aload_n 1, 1) := by decide +kernel
theorem d_L_law_237 : decode code 237 = .ok (.aload_n 0, 1) := by decide +kernel
theorem d_L_law_238 : decode code 238 = .ok (.iload_n 3, 1) := by decide +kernel
theorem d_L_law_239 : decode code 239 = .ok (.iconst 1, 1) := by decide +kernel
theorem d_L_law_240 : decode code 240 = .ok (.iadd, 1) := by decide +kernel
theorem d_L_law_241 : decode code 241 = .ok (.iaload, 1) := by decide +kernel
theorem d_L_law_242 : decode code 242 = .ok (.invokevirtual 40, 3) := by decide +kernel
theorem d_L_law_245 : decode code 245 = .ok (.aload_n 2, 1) := by decide +kernel
theorem d_L_law_246 : decode code 246 = .ok (.aload_n 0, 1) := by decide +kernel
theorem d_L_law_247 : decode code 247 = .ok (.iload_n 3, 1) := by decide +kernel
theorem d_L_law_248 : decode code 248 = .ok (.iconst 1, 1) := by decide +kernel
theorem d_L_law_249 : decode code 249 = .ok (.iadd, 1) := by decide +kernel
theorem d_L_law_250 : decode code 250 = .ok (.iaload, 1) := by decide +kernel
theorem d_L_law_251 : decode code 251 = .ok (.invokevirtual 43, 3) := by decide +kernel
theorem d_L_law_254 : decode code 254 = .ok (.if_icmp .eq 229, 3) := by decide +kernel
theorem d_L_law_257 : decode code 257 = .ok (.iconst 0, 1) := by decide +kernel
theorem d_L_law_258 : decode code 258 = .ok (.ireturn, 1) := by decide +kernel
theorem d_L_law_259 : decode code 259 = .ok (.aload_n 1, 1) := by decide +kernel
theorem d_L_law_260 : decode code 260 = .ok (.aload_n 0, 1) := by decide +kernel
theorem d_L_law_261 : decode code 261 = .ok (.iload_n 3, 1) := by decide +kernel
theorem d_L_law_262 : decode code 262 = .ok (.iconst 1, 1) := by decide +kernel
theorem d_L_law_263 : decode code 263 = .ok (.iadd, 1) := by decide +kernel
theorem d_L_law_264 : decode code 264 = .ok (.iaload, 1) := by decide +kernel
theorem d_L_law_265 : decode code 265 = .ok (.invokevirtual 44, 3) := by decide +kernel
theorem d_L_law_268 : decode code 268 = .ok (.aload_n 2, 1) := by decide +kernel
theorem d_L_law_269 : decode code 269 = .ok (.aload_n 0, 1) := by decide +kernel
theorem d_L_law_270 : decode code 270 = .ok (.iload_n 3, 1) := by decide +kernel
theorem d_L_law_271 : decode code 271 = .ok (.iconst 1, 1) := by decide +kernel
theorem d_L_law_272 : decode code 272 = .ok (.iadd, 1) := by decide +kernel
theorem d_L_law_273 : decode code 273 = .ok (.iaload, 1) := by decide +kernel
theorem d_L_law_274 : decode code 274 = .ok (.invokevirtual 48, 3) := by decide +kernel
theorem d_L_law_277 : decode code 277 = .ok (.if_icmp .eq 206, 3) := by decide +kernel
theorem d_L_law_280 : decode code 280 = .ok (.iconst 0, 1) := by decide +kernel
theorem d_L_law_281 : decode code 281 = .ok (.ireturn, 1) := by decide +kernel
theorem d_L_law_282 : decode code 282 = .ok (.aload_n 1, 1) := by decide +kernel
theorem d_L_law_283 : decode code 283 = .ok (.aload_n 0, 1) := by decide +kernel
theorem d_L_law_284 : decode code 284 = .ok (.iload_n 3, 1) := by decide +kernel
theorem d_L_law_285 : decode code 285 = .ok (.iconst 1, 1) := by decide +kernel
theorem d_L_law_286 : decode code 286 = .ok (.iadd, 1) := by decide +kernel
theorem d_L_law_287 : decode code 287 = .ok (.iaload, 1) := by decide +kernel
theorem d_L_law_288 : decode code 288 = .ok (.aload_n 0, 1) := by decide +kernel
theorem d_L_law_289 : decode code 289 = .ok (.iload_n 3, 1) := by decide +kernel
theorem d_L_law_290 : decode code 290 = .ok (.iconst 2, 1) := by decide +kernel
theorem d_L_law_291 : decode code 291 = .ok (.iadd, 1) := by decide +kernel
theorem d_L_law_292 : decode code 292 = .ok (.iaload, 1) := by decide +kernel
theorem d_L_law_293 : decode code 293 = .ok (.invokevirtual 49, 3) := by decide +kernel
theorem d_L_law_296 : decode code 296 = .ok (.aload_n 2, 1) := by decide +kernel
theorem d_L_law_297 : decode code 297 = .ok (.aload_n 0, 1) := by decide +kernel
theorem d_L_law_298 : decode code 298 = .ok (.iload_n 3, 1) := by decide +kernel
theorem d_L_law_299 : decode code 299 = .ok (.iconst 1, 1) := by decide +kernel
theorem d_L_law_300 : decode code 300 = .ok (.iadd, 1) := by decide +kernel
theorem d_L_law_301 : decode code 301 = .ok (.iaload, 1) := by decide +kernel
theorem d_L_law_302 : decode code 302 = .ok (.aload_n 0, 1) := by decide +kernel
theorem d_L_law_303 : decode code 303 = .ok (.iload_n 3, 1) := by decide +kernel
theorem d_L_law_304 : decode code 304 = .ok (.iconst 2, 1) := by decide +kernel
theorem d_L_law_305 : decode code 305 = .ok (.iadd, 1) := by decide +kernel
theorem d_L_law_306 : decode code 306 = .ok (.iaload, 1) := by decide +kernel
theorem d_L_law_307 : decode code 307 = .ok (.invokevirtual 52, 3) := by decide +kernel
theorem d_L_law_310 : decode code 310 = .ok (.if_icmp .eq 173, 3) := by decide +kernel
theorem d_L_law_313 : decode code 313 = .ok (.iconst 0, 1) := by decide +kernel
theorem d_L_law_314 : decode code 314 = .ok (.ireturn, 1) := by decide +kernel
theorem d_L_law_315 : decode code 315 = .ok (.aload_n 1, 1) := by decide +kernel
theorem d_L_law_316 : decode code 316 = .ok (.aload_n 0, 1) := by decide +kernel
theorem d_L_law_317 : decode code 317 = .ok (.iload_n 3, 1) := by decide +kernel
theorem d_L_law_318 : decode code 318 = .ok (.iconst 1, 1) := by decide +kernel
theorem d_L_law_319 : decode code 319 = .ok (.iadd, 1) := by decide +kernel
theorem d_L_law_320 : decode code 320 = .ok (.iaload, 1) := by decide +kernel
theorem d_L_law_321 : decode code 321 = .ok (.invokevirtual 53, 3) := by decide +kernel
theorem d_L_law_324 : decode code 324 = .ok (.aload_n 2, 1) := by decide +kernel
theorem d_L_law_325 : decode code 325 = .ok (.aload_n 0, 1) := by decide +kernel
theorem d_L_law_326 : decode code 326 = .ok (.iload_n 3, 1) := by decide +kernel
theorem d_L_law_327 : decode code 327 = .ok (.iconst 1, 1) := by decide +kernel
theorem d_L_law_328 : decode code 328 = .ok (.iadd, 1) := by decide +kernel
theorem d_L_law_329 : decode code 329 = .ok (.iaload, 1) := by decide +kernel
theorem d_L_law_330 : decode code 330 = .ok (.invokevirtual 56, 3) := by decide +kernel
theorem d_L_law_333 : decode code 333 = .ok (.if_icmp .eq 150, 3) := by decide +kernel
theorem d_L_law_336 : decode code 336 = .ok (.iconst 0, 1) := by decide +kernel
theorem d_L_law_337 : decode code 337 = .ok (.ireturn, 1) := by decide +kernel
theorem d_L_law_338 : decode code 338 = .ok (.aload_n 1, 1) := by decide +kernel
theorem d_L_law_339 : decode code 339 = .ok (.aload_n 0, 1) := by decide +kernel
theorem d_L_law_340 : decode code 340 = .ok (.iload_n 3, 1) := by decide +kernel
theorem d_L_law_341 : decode code 341 = .ok (.iconst 1, 1) := by decide +kernel
theorem d_L_law_342 : decode code 342 = .ok (.iadd, 1) := by decide +kernel
theorem d_L_law_343 : decode code 343 = .ok (.iaload, 1) := by decide +kernel
theorem d_L_law_344 : decode code 344 = .ok (.aload_n 0, 1) := by decide +kernel
theorem d_L_law_345 : decode code 345 = .ok (.iload_n 3, 1) := by decide +kernel
theorem d_L_law_346 : decode code 346 = .ok (.iconst 2, 1) := by decide +kernel
theorem d_L_law_347 : decode code 347 = .ok (.iadd, 1) := by decide +kernel
theorem d_L_law_348 : decode code 348 = .ok (.iaload, 1) := by decide +kernel
theorem d_L_law_349 : decode code 349 = .ok (.invokevirtual 57, 3) := by decide +kernel
theorem d_L_law_352 : decode code 352 = .ok (.aload_n 2, 1) := by decide +kernel
theorem d_L_law_353 : decode code 353 = .ok (.aload_n 0, 1) := by decide +kernel
theorem d_L_law_354 : decode code 354 = .ok (.iload_n 3, 1) := by decide +kernel
theorem d_L_law_355 : decode code 355 = .ok (.iconst 1, 1) := by decide +kernel
theorem d_L_law_356 : decode code 356 = .ok (.iadd, 1) := by decide +kernel
theorem d_L_law_357 : decode code 357 = .ok (.iaload, 1) := by decide +kernel
theorem d_L_law_358 : decode code 358 = .ok (.aload_n 0, 1) := by decide +kernel
theorem d_L_law_359 : decode code 359 = .ok (.iload_n 3, 1) := by decide +kernel
theorem d_L_law_360 : decode code 360 = .ok (.iconst 2, 1) := by decide +kernel
theorem d_L_law_361 : decode code 361 = .ok (.iadd, 1) := by decide +kernel
theorem d_L_law_362 : decode code 362 = .ok (.iaload, 1) := by decide +kernel
theorem d_L_law_363 : decode code 363 = .ok (.invokevirtual 60, 3) := by decide +kernel
theorem d_L_law_366 : decode code 366 = .ok (.if_icmp .eq 117, 3) := by decide +kernel
theorem d_L_law_369 : decode code 369 = .ok (.iconst 0, 1) := by decide +kernel
theorem d_L_law_370 : decode code 370 = .ok (.ireturn, 1) := by decide +kernel
theorem d_L_law_371 : decode code 371 = .ok (.aload_n 1, 1) := by decide +kernel
theorem d_L_law_372 : decode code 372 = .ok (.aload_n 0, 1) := by decide +kernel
theorem d_L_law_373 : decode code 373 = .ok (.iload_n 3, 1) := by decide +kernel
theorem d_L_law_374 : decode code 374 = .ok (.iconst 1, 1) := by decide +kernel
theorem d_L_law_375 : decode code 375 = .ok (.iadd, 1) := by decide +kernel
theorem d_L_law_376 : decode code 376 = .ok (.iaload, 1) := by decide +kernel
theorem d_L_law_377 : decode code 377 = .ok (.aload_n 0, 1) := by decide +kernel
theorem d_L_law_378 : decode code 378 = .ok (.iload_n 3, 1) := by decide +kernel
theorem d_L_law_379 : decode code 379 = .ok (.iconst 2, 1) := by decide +kernel
theorem d_L_law_380 : decode code 380 = .ok (.iadd, 1) := by decide +kernel
theorem d_L_law_381 : decode code 381 = .ok (.iaload, 1) := by decide +kernel
theorem d_L_law_382 : decode code 382 = .ok (.invokevirtual 61, 3) := by decide +kernel
theorem d_L_law_385 : decode code 385 = .ok (.aload_n 2, 1) := by decide +kernel
theorem d_L_law_386 : decode code 386 = .ok (.aload_n 0, 1) := by decide +kernel
theorem d_L_law_387 : decode code 387 = .ok (.iload_n 3, 1) := by decide +kernel
theorem d_L_law_388 : decode code 388 = .ok (.iconst 1, 1) := by decide +kernel
theorem d_L_law_389 : decode code 389 = .ok (.iadd, 1) := by decide +kernel
theorem d_L_law_390 : decode code 390 = .ok (.iaload, 1) := by decide +kernel
theorem d_L_law_391 : decode code 391 = .ok (.aload_n 0, 1) := by decide +kernel
theorem d_L_law_392 : decode code 392 = .ok (.iload_n 3, 1) := by decide +kernel
theorem d_L_law_393 : decode code 393 = .ok (.iconst 2, 1) := by decide +kernel
theorem d_L_law_394 : decode code 394 = .ok (.iadd, 1) := by decide +kernel
theorem d_L_law_395 : decode code 395 = .ok (.iaload, 1) := by decide +kernel
theorem d_L_law_396 : decode code 396 = .ok (.invokevirtual 64, 3) := by decide +kernel
theorem d_L_law_399 : decode code 399 = .ok (.if_icmp .eq 84, 3) := by decide +kernel
theorem d_L_law_402 : decode code 402 = .ok (.iconst 0, 1) := by decide +kernel
theorem d_L_law_403 : decode code 403 = .ok (.ireturn, 1) := by decide +kernel
theorem d_L_law_404 : decode code 404 = .ok (.aload_n 1, 1) := by decide +kernel
theorem d_L_law_405 : decode code 405 = .ok (.aload_n 0, 1) := by decide +kernel
theorem d_L_law_406 : decode code 406 = .ok (.iload_n 3, 1) := by decide +kernel
theorem d_L_law_407 : decode code 407 = .ok (.iconst 1, 1) := by decide +kernel
theorem d_L_law_408 : decode code 408 = .ok (.iadd, 1) := by decide +kernel
theorem d_L_law_409 : decode code 409 = .ok (.iaload, 1) := by decide +kernel
theorem d_L_law_410 : decode code 410 = .ok (.invokevirtual 65, 3) := by decide +kernel
theorem d_L_law_413 : decode code 413 = .ok (.aload_n 2, 1) := by decide +kernel
theorem d_L_law_414 : decode code 414 = .ok (.aload_n 0, 1) := by decide +kernel
theorem d_L_law_415 : decode code 415 = .ok (.iload_n 3, 1) := by decide +kernel
theorem d_L_law_416 : decode code 416 = .ok (.iconst 1, 1) := by decide +kernel
theorem d_L_law_417 : decode code 417 = .ok (.iadd, 1) := by decide +kernel
theorem d_L_law_418 : decode code 418 = .ok (.iaload, 1) := by decide +kernel
theorem d_L_law_419 : decode code 419 = .ok (.invokevirtual 68, 3) := by decide +kernel
theorem d_L_law_422 : decode code 422 = .ok (.if_icmp .eq 61, 3) := by decide +kernel
theorem d_L_law_425 : decode code 425 = .ok (.iconst 0, 1) := by decide +kernel
theorem d_L_law_426 : decode code 426 = .ok (.ireturn, 1) := by decide +kernel
theorem d_L_law_427 : decode code 427 = .ok (.aload_n 1, 1) := by decide +kernel
theorem d_L_law_428 : decode code 428 = .ok (.aload_n 0, 1) := by decide +kernel
theorem d_L_law_429 : decode code 429 = .ok (.iload_n 3, 1) := by decide +kernel
theorem d_L_law_430 : decode code 430 = .ok (.iconst 1, 1) := by decide +kernel
theorem d_L_law_431 : decode code 431 = .ok (.iadd, 1) := by decide +kernel
theorem d_L_law_432 : decode code 432 = .ok (.iaload, 1) := by decide +kernel
theorem d_L_law_433 : decode code 433 = .ok (.aload_n 0, 1) := by decide +kernel
theorem d_L_law_434 : decode code 434 = .ok (.iload_n 3, 1) := by decide +kernel
theorem d_L_law_435 : decode code 435 = .ok (.iconst 2, 1) := by decide +kernel
theorem d_L_law_436 : decode code 436 = .ok (.iadd, 1) := by decide +kernel
theorem d_L_law_437 : decode code 437 = .ok (.iaload, 1) := by decide +kernel
theorem d_L_law_438 : decode code 438 = .ok (.invokevirtual 69, 3) := by decide +kernel
theorem d_L_law_441 : decode code 441 = .ok (.aload_n 2, 1) := by decide +kernel
theorem d_L_law_442 : decode code 442 = .ok (.aload_n 0, 1) := by decide +kernel
theorem d_L_law_443 : decode code 443 = .ok (.iload_n 3, 1) := by decide +kernel
theorem d_L_law_444 : decode code 444 = .ok (.iconst 1, 1) := by decide +kernel
theorem d_L_law_445 : decode code 445 = .ok (.iadd, 1) := by decide +kernel
theorem d_L_law_446 : decode code 446 = .ok (.iaload, 1) := by decide +kernel
theorem d_L_law_447 : decode code 447 = .ok (.aload_n 0, 1) := by decide +kernel
theorem d_L_law_448 : decode code 448 = .ok (.iload_n 3, 1) := by decide +kernel
theorem d_L_law_449 : decode code 449 = .ok (.iconst 2, 1) := by decide +kernel
theorem d_L_law_450 : decode code 450 = .ok (.iadd, 1) := by decide +kernel
theorem d_L_law_451 : decode code 451 = .ok (.iaload, 1) := by decide +kernel
theorem d_L_law_452 : decode code 452 = .ok (.invokevirtual 72, 3) := by decide +kernel
theorem d_L_law_455 : decode code 455 = .ok (.if_icmp .eq 28, 3) := by decide +kernel
theorem d_L_law_458 : decode code 458 = .ok (.iconst 0, 1) := by decide +kernel
theorem d_L_law_459 : decode code 459 = .ok (.ireturn, 1) := by decide +kernel
theorem d_L_law_460 : decode code 460 = .ok (.aload_n 1, 1) := by decide +kernel
theorem d_L_law_461 : decode code 461 = .ok (.aload_n 0, 1) := by decide +kernel
theorem d_L_law_462 : decode code 462 = .ok (.iload_n 3, 1) := by decide +kernel
theorem d_L_law_463 : decode code 463 = .ok (.iconst 1, 1) := by decide +kernel
theorem d_L_law_464 : decode code 464 = .ok (.iadd, 1) := by decide +kernel
theorem d_L_law_465 : decode code 465 = .ok (.iaload, 1) := by decide +kernel
theorem d_L_law_466 : decode code 466 = .ok (.invokevirtual 73, 3) := by decide +kernel
theorem d_L_law_469 : decode code 469 = .ok (.aload_n 2, 1) := by decide +kernel
theorem d_L_law_470 : decode code 470 = .ok (.aload_n 0, 1) := by decide +kernel
theorem d_L_law_471 : decode code 471 = .ok (.iload_n 3, 1) := by decide +kernel
theorem d_L_law_472 : decode code 472 = .ok (.iconst 1, 1) := by decide +kernel
theorem d_L_law_473 : decode code 473 = .ok (.iadd, 1) := by decide +kernel
theorem d_L_law_474 : decode code 474 = .ok (.iaload, 1) := by decide +kernel
theorem d_L_law_475 : decode code 475 = .ok (.invokevirtual 76, 3) := by decide +kernel
theorem d_L_law_478 : decode code 478 = .ok (.if_icmp .eq 5, 3) := by decide +kernel
theorem d_L_law_481 : decode code 481 = .ok (.iconst 0, 1) := by decide +kernel
theorem d_L_law_482 : decode code 482 = .ok (.ireturn, 1) := by decide +kernel
theorem d_L_law_483 : decode code 483 = .ok (.iinc 3 3, 3) := by decide +kernel
theorem d_L_law_486 : decode code 486 = .ok (.goto (-468), 3) := by decide +kernel
theorem d_L_law_489 : decode code 489 = .ok (.iconst 1, 1) := by decide +kernel
theorem d_L_law_490 : decode code 490 = .ok (.ireturn, 1) := by decide +kernel
end
section
section RowsE
variable {G : Gt} {Y : Yt} {d c0 s0 : Nat} {M M' : Me} {pc : Nat} {lc : List (Option AV)} {st : List AV} {r : Option AV}
theorem jw_getPe {s i index ci k : Nat} {C : String} {T : u_T} {N : Nat} {ty : Nat → FieldType} (o : Option (Nat × Nat)) (hf : fl_ok Y.2.2.1 index ci k C T N ty true) (hd : decode Y.1 pc = .ok (.getfield index, 3)) (hs : sk s = .inl ci) (ht : st_is s = false) (he : me_P M s i k = o) (kk : jw G Y d c0 s0 M (pc + 3) lc (.inr o :: st) r M') : jw G Y d c0 s0 M pc lc (.inr (some (s, i)) :: st) r M' := by
  subst he; exact jw_getP hf hd hs ht kk
theorem jw_getIe {s i index ci k : Nat} {C : String} {T : u_T} {N : Nat} {ty : Nat → FieldType} (x : Int32) (hf : fl_ok Y.2.2.1 index ci k C T N ty false) (hd : decode Y.1 pc = .ok (.getfield index, 3)) (hs : sk s = .inl ci) (ht : st_is s = false) (he : me_I M s i k = x) (kk : jw G Y d c0 s0 M (pc + 3) lc (.inl x :: st) r M') : jw G Y d c0 s0 M pc lc (.inr (some (s, i)) :: st) r M' := by
  subst he; exact jw_getI hf hd hs ht kk
theorem jw_aalde {s i : Nat} {x : Int32} {C : String} (o : Option (Nat × Nat)) (hd : decode Y.1 pc = .ok (.aaload, 1)) (hs : sk s = .inr (.object C)) (ht : st_is s = false) (hin : vp_in x (me_L M s i)) (he : me_P M s i x.toNatClampNeg = o) (kk : jw G Y d c0 s0 M (pc + 1) lc (.inr o :: st) r M') : jw G Y d c0 s0 M pc lc (.inl x :: .inr (some (s, i)) :: st) r M' := by
  subst he; exact jw_aald hd hs ht hin kk
theorem jw_ialde {s i : Nat} {x : Int32} (v : Int32) (hd : decode Y.1 pc = .ok (.iaload, 1)) (hs : sk s = .inr .int) (ht : st_is s = false) (hin : vp_in x (me_L M s i)) (he : me_I M s i x.toNatClampNeg = v) (kk : jw G Y d c0 s0 M (pc + 1) lc (.inl v :: st) r M') : jw G Y d c0 s0 M pc lc (.inl x :: .inr (some (s, i)) :: st) r M' := by
  subst he; exact jw_iald hd hs ht hin kk
theorem jw_zalde {s i : Nat} {x : Int32} (v : Int32) (hd : decode Y.1 pc = .ok (.baload, 1)) (hs : sk s = .inr .boolean) (ht : st_is s = false) (hin : vp_in x (me_L M s i)) (he : me_I M s i x.toNatClampNeg = v) (kk : jw G Y d c0 s0 M (pc + 1) lc (.inl v :: st) r M') : jw G Y d c0 s0 M pc lc (.inl x :: .inr (some (s, i)) :: st) r M' := by
  subst he; exact jw_zald hd hs ht hin kk
theorem jw_iincc {i : Nat} {n : Int} {x : Int32} (c : Int32) (hd : decode Y.1 pc = .ok (.iinc i n, 3)) (hc : Int32.ofInt n = c) (hl : lc[i]? = some (some (.inl x))) (hn : i < Y.2.1) (k : jw G Y d c0 s0 M (pc + 3) (lc.set i (some (.inl (x + c)))) st r M') : jw G Y d c0 s0 M pc lc st r M' := by
  subst hc; exact jw_iinc _ hd hl rfl hn k
def me_nx (M : Me) (s n len sl : Nat) : Me := (fun a b c => if a = s ∧ b = n then 0 else M.1 a b c, fun a b c => if a = s ∧ b = n then none else M.2.1 a b c, fun a b => if a = s ∧ b = n then len else M.2.2.1 a b, fun a => if a = s then n + 1 else M.2.2.2.1 a, me_C M + 1, me_S M + sl)
theorem me_nx_eq {M : Me} {s n : Nat} (len sl : Nat) (h : me_N M s = n) : me_nw M s len sl = me_nx M s n len sl := by subst h; rfl
theorem jw_newe {s index ci : Nat} {C : String} {T : u_T} {N : Nat} {ty : Nat → FieldType} (n : Nat) (hcf : cf_ok ci C T N ty) (hdf : ∀ j, j < N → defaultValue (ty j) = if fk ci j = true then .null else .int 0) (hcl : Cond.classLink Y.2.2.1 index C ∈ TS) (hinst : Cond.instantiable C N ∈ TS) (hini : Cond.initialized C ∈ TS) (hd : decode Y.1 pc = .ok (.new index, 3)) (hs : sk s = .inl ci) (ht : st_is s = false) (he : me_N M s = n)
    (kk : jw G Y d c0 s0 (me_nx M s n 0 N) (pc + 3) lc (.inr (some (s, n)) :: st) r M') : jw G Y d c0 s0 M pc lc st r M' := by
  refine jw_new hcf hdf hcl hinst hini hd hs ht ?_
  rw [me_nx_eq 0 N he, he]; exact kk
theorem jw_newIe {s k : Nat} {x : Int32} (n : Nat) (hcl : Cond.arrayClass .int ∈ TS) (hd : decode Y.1 pc = .ok (.newarray .int, 2)) (hs : sk s = .inr .int) (ht : st_is s = false) (hx : ¬ x < 0) (hn : x.toNatClampNeg = k) (hb : k ≤ 1000000) (he : me_N M s = n)
    (kk : jw G Y d c0 s0 (me_nx M s n k k) (pc + 2) lc (.inr (some (s, n)) :: st) r M') : jw G Y d c0 s0 M pc lc (.inl x :: st) r M' := by
  refine jw_newI hcl hd hs ht hx hn hb ?_
  rw [me_nx_eq k k he, he]; exact kk
theorem jw_newZe {s k : Nat} {x : Int32} (n : Nat) (hcl : Cond.arrayClass .boolean ∈ TS) (hd : decode Y.1 pc = .ok (.newarray .boolean, 2)) (hs : sk s = .inr .boolean) (ht : st_is s = false) (hx : ¬ x < 0) (hn : x.toNatClampNeg = k) (hb : k ≤ 1000000) (he : me_N M s = n)
    (kk : jw G Y d c0 s0 (me_nx M s n k k) (pc + 2) lc (.inr (some (s, n)) :: st) r M') : jw G Y d c0 s0 M pc lc (.inl x :: st) r M' := by
  refine jw_newZ hcl hd hs ht hx hn hb ?_
  rw [me_nx_eq k k he, he]; exact kk
theorem jw_newQe {s k index : Nat} {x : Int32} {C : String} (n : Nat) (hcl : Cond.classLink Y.2.2.1 index C ∈ TS) (hao : C ∈ over_c) (hd : decode Y.1 pc = .ok (.anewarray index, 3)) (hs : sk s = .inr (.object C)) (ht : st_is s = false) (hx : ¬ x < 0) (hn : x.toNatClampNeg = k) (hb : k ≤ 1000000) (he : me_N M s = n)
    (kk : jw G Y d c0 s0 (me_nx M s n k k) (pc + 3) lc (.inr (some (s, n)) :: st) r M') : jw G Y d c0 s0 M pc lc (.inl x :: st) r M' := by
  refine jw_newQ hcl (fun U H h => h.2.2.2.1 C hao) hd hs ht hx hn hb ?_
  rw [me_nx_eq k k he, he]; exact kk
end RowsE
end
section
theorem me_I_nx (M : Me) (s n len sl a b c : Nat) : me_I (me_nx M s n len sl) a b c = if a = s ∧ b = n then 0 else me_I M a b c := rfl
theorem me_P_nx (M : Me) (s n len sl a b c : Nat) : me_P (me_nx M s n len sl) a b c = if a = s ∧ b = n then none else me_P M a b c := rfl
theorem me_L_nx (M : Me) (s n len sl a b : Nat) : me_L (me_nx M s n len sl) a b = if a = s ∧ b = n then len else me_L M a b := rfl
theorem me_N_nx (M : Me) (s n len sl a : Nat) : me_N (me_nx M s n len sl) a = if a = s then n + 1 else me_N M a := rfl
theorem sw_cases (x : Int32) (n : Nat) (hn : n < 2 ^ 31) : (x.toInt < 0 ∨ (n : Int) - 1 < x.toInt) ∨ ∃ j : Nat, j < n ∧ x = nI j := by
  rcases pk_ix x hn with h | h | ⟨j, h1, h2⟩
  · exact Or.inl (Or.inl (by simpa using Int32.lt_iff_toInt_lt.mp h))
  · refine Or.inl (Or.inr ?_)
    have := Int32.le_iff_toInt_le.mp h
    rw [nI_toInt hn] at this
    omega
  · exact Or.inr ⟨j, h1, h2⟩
set_option maxRecDepth 20000 in
set_option maxHeartbeats 4000000 in
theorem x_R_init {G : Gt} {M : Me} (d : Nat) (i : Nat) (x : Int32) (k : Nat) (n : Nat) (f0 : me_N M 10 = n) (hx : ¬ x < 0) (hk : x.toNatClampNeg = k) (hb : k ≤ 1000000) : sx G yt_R_init yn_R_init (d + 1) [.inr (some (4, i)), .inl x] M (fun r M' => r = none ∧ M' = (me_sP (me_nx (me_sI M 4 i 1 (0)) 10 n k k) 4 i 0 (some (10, n)))) := by
  refine sx_of (k := 0) (lc := [some (.inr (some (4, i))), some (.inl x)]) mt_R_init (Nat.le_of_ble_eq_true rfl) rfl ?_
  refine jx_of (fun _ _ kz => jw_aload_n 0 d_R_init_0 rfl rfl kz) ?_
  refine jx_of (fun _ _ kz => jw_objInit ml_R_3 im_Obj co_Obj d_R_init_1 (Nat.le_of_ble_eq_true rfl) kz) ?_
  refine jx_of (fun _ _ kz => jw_aload_n 0 d_R_init_4 rfl rfl kz) ?_
  refine jx_of (fun _ _ kz => jw_iconst 0 d_R_init_5 (by decide) kz) ?_
  refine jx_of (fun _ _ kz => jw_putI fl_R_9 (Or.inr ⟨rfl, rfl⟩) rfl rfl d_R_init_6 rfl rfl kz) ?_
  refine jx_of (fun _ _ kz => jw_aload_n 0 d_R_init_9 rfl rfl kz) ?_
  refine jx_of (fun _ _ kz => jw_iload_n 1 d_R_init_10 rfl rfl kz) ?_
  refine jx_of (fun _ _ kz => jw_iconst 0 d_R_init_11 (by decide) kz) ?_
  refine jx_of (fun _ _ kz => jw_mmax ml_R_15 sm_Math_max ii_Math co_Math_max d_R_init_12 (Nat.le_of_ble_eq_true rfl) kz) ?_
  rw [show (if x < 0 then 0 else x : Int32) = x from if_neg hx]
  refine jx_of (fun _ _ kz => jw_newIe (s := 10) (k := k) n ac_int d_R_init_15 rfl rfl hx hk hb (by simp [me_I_sI, me_I_sP, me_I_nx, me_P_sI, me_P_sP, me_P_nx, me_N_sI, me_N_sP, me_N_nx, me_L_sI, me_L_sP, me_L_nx, f0]) kz) ?_
  refine jx_of (fun _ _ kz => jw_putP fl_R_21 (Or.inr ⟨rfl, rfl⟩) (fun z => by cases z <;> rfl) (fun z => by cases z <;> rfl) d_R_init_17 rfl rfl kz) ?_
  refine jx_vret d_R_init_20 rfl ?_
  exact ⟨rfl, rfl⟩
set_option maxRecDepth 20000 in
set_option maxHeartbeats 4000000 in
theorem x_P_init {G : Gt} {M : Me} (d : Nat) (i : Nat) (n : Nat) (f0 : me_N M 11 = n) (f1 : me_N M 12 = n) (f2 : me_N M 13 = n) : sx G yt_P_init yn_P_init (d + 1) [.inr (some (1, i))] M (fun r M' => r = none ∧ M' = (me_sI (me_sP (me_nx (me_sP (me_nx (me_sP (me_nx M 11 n 12 12) 1 i 0 (some (11, n))) 12 n 12 12) 1 i 1 (some (12, n))) 13 n 12 12) 1 i 2 (some (13, n))) 1 i 3 (0))) := by
  refine sx_of (k := 0) (lc := [some (.inr (some (1, i)))]) mt_P_init (Nat.le_of_ble_eq_true rfl) rfl ?_
  refine jx_of (fun _ _ kz => jw_aload_n 0 d_P_init_0 rfl rfl kz) ?_
  refine jx_of (fun _ _ kz => jw_objInit ml_P_3 im_Obj co_Obj d_P_init_1 (Nat.le_of_ble_eq_true rfl) kz) ?_
  refine jx_of (fun _ _ kz => jw_aload_n 0 d_P_init_4 rfl rfl kz) ?_
  refine jx_of (fun _ _ kz => jw_bipush 12 d_P_init_5 (by decide) kz) ?_
  refine jx_of (fun _ _ kz => jw_newIe (s := 11) (k := 12) n ac_int d_P_init_7 rfl rfl (by decide) (by decide) (by decide) (by simp [me_I_sI, me_I_sP, me_I_nx, me_P_sI, me_P_sP, me_P_nx, me_N_sI, me_N_sP, me_N_nx, me_L_sI, me_L_sP, me_L_nx, f0, f1, f2]) kz) ?_
  refine jx_of (fun _ _ kz => jw_putP fl_P_9 (Or.inr ⟨rfl, rfl⟩) (fun z => by cases z <;> rfl) (fun z => by cases z <;> rfl) d_P_init_9 rfl rfl kz) ?_
  refine jx_of (fun _ _ kz => jw_aload_n 0 d_P_init_12 rfl rfl kz) ?_
  refine jx_of (fun _ _ kz => jw_bipush 12 d_P_init_13 (by decide) kz) ?_
  refine jx_of (fun _ _ kz => jw_newIe (s := 12) (k := 12) n ac_int d_P_init_15 rfl rfl (by decide) (by decide) (by decide) (by simp [me_I_sI, me_I_sP, me_I_nx, me_P_sI, me_P_sP, me_P_nx, me_N_sI, me_N_sP, me_N_nx, me_L_sI, me_L_sP, me_L_nx, f0, f1, f2]) kz) ?_
  refine jx_of (fun _ _ kz => jw_putP fl_P_15 (Or.inr ⟨rfl, rfl⟩) (fun z => by cases z <;> rfl) (fun z => by cases z <;> rfl) d_P_init_17 rfl rfl kz) ?_
  refine jx_of (fun _ _ kz => jw_aload_n 0 d_P_init_20 rfl rfl kz) ?_
  refine jx_of (fun _ _ kz => jw_bipush 12 d_P_init_21 (by decide) kz) ?_
  refine jx_of (fun _ _ kz => jw_newIe (s := 13) (k := 12) n ac_int d_P_init_23 rfl rfl (by decide) (by decide) (by decide) (by simp [me_I_sI, me_I_sP, me_I_nx, me_P_sI, me_P_sP, me_P_nx, me_N_sI, me_N_sP, me_N_nx, me_L_sI, me_L_sP, me_L_nx, f0, f1, f2]) kz) ?_
  refine jx_of (fun _ _ kz => jw_putP fl_P_18 (Or.inr ⟨rfl, rfl⟩) (fun z => by cases z <;> rfl) (fun z => by cases z <;> rfl) d_P_init_25 rfl rfl kz) ?_
  refine jx_of (fun _ _ kz => jw_aload_n 0 d_P_init_28 rfl rfl kz) ?_
  refine jx_of (fun _ _ kz => jw_iconst 0 d_P_init_29 (by decide) kz) ?_
  refine jx_of (fun _ _ kz => jw_putI fl_P_21 (Or.inr ⟨rfl, rfl⟩) rfl rfl d_P_init_30 rfl rfl kz) ?_
  refine jx_vret d_P_init_33 rfl ?_
  exact ⟨rfl, rfl⟩
set_option maxRecDepth 20000 in
set_option maxHeartbeats 4000000 in
theorem x_K_init {G : Gt} {M : Me} (d : Nat) (i : Nat) (x : Int32) (n : Nat) (m : Nat) (f0 : me_N M 4 = m) (f1 : me_N M 10 = n) : sx G yt_K_init yn_K_init (d + 2) [.inr (some (3, i)), .inl x] M (fun r M' => r = none ∧ M' = (me_sI (me_sI (me_sI (me_sI (me_sP (me_sP (me_nx (me_sI (me_nx M 4 m 0 2) 4 m 1 (0)) 10 n 4 4) 4 m 0 (some (10, n))) 3 i 1 (some (4, m))) 3 i 2 ((-1))) 3 i 3 (0)) 3 i 4 (0)) 3 i 0 (x))) := by
  refine sx_of (k := 0) (lc := [some (.inr (some (3, i))), some (.inl x)]) mt_K_init (Nat.le_of_ble_eq_true rfl) rfl ?_
  refine jx_of (fun _ _ kz => jw_aload_n 0 d_K_init_0 rfl rfl kz) ?_
  refine jx_of (fun _ _ kz => jw_objInit ml_K_3 im_Obj co_Obj d_K_init_1 (Nat.le_of_ble_eq_true rfl) kz) ?_
  refine jx_of (fun _ _ kz => jw_aload_n 0 d_K_init_4 rfl rfl kz) ?_
  refine jx_of (fun _ _ kz => jw_newe (s := 4) m cf_R df_R cl_K_9 it_R ii_R d_K_init_5 rfl rfl (by simp [me_I_sI, me_I_sP, me_I_nx, me_P_sI, me_P_sP, me_P_nx, me_N_sI, me_N_sP, me_N_nx, me_L_sI, me_L_sP, me_L_nx, f0, f1]) kz) ?_
  refine jx_of (fun _ _ kz => jw_dup d_K_init_8 kz) ?_
  refine jx_of (fun _ _ kz => jw_iconst 4 d_K_init_9 (by decide) kz) ?_
  refine jx_callI (x_R_init _ m 4 4 n (by simp [me_I_sI, me_I_sP, me_I_nx, me_P_sI, me_P_sP, me_P_nx, me_N_sI, me_N_sP, me_N_nx, me_L_sI, me_L_sP, me_L_nx, f0, f1]) (by decide) (by decide) (by decide)) mt_R_init rfl rfl ml_K_11 im_R_init d_K_init_10 rfl rfl (Nat.le_of_ble_eq_true rfl) (fun _ _ h => h.1) ?_
  rintro _ ⟨_, rfl⟩
  refine jx_of (fun _ _ kz => jw_putP fl_K_14 (Or.inr ⟨rfl, rfl⟩) (fun z => by cases z <;> rfl) (fun z => by cases z <;> rfl) d_K_init_13 rfl rfl kz) ?_
  refine jx_of (fun _ _ kz => jw_aload_n 0 d_K_init_16 rfl rfl kz) ?_
  refine jx_of (fun _ _ kz => jw_iconst (-1) d_K_init_17 (by decide) kz) ?_
  refine jx_of (fun _ _ kz => jw_putI fl_K_20 (Or.inr ⟨rfl, rfl⟩) rfl rfl d_K_init_18 rfl rfl kz) ?_
  refine jx_of (fun _ _ kz => jw_aload_n 0 d_K_init_21 rfl rfl kz) ?_
  refine jx_of (fun _ _ kz => jw_iconst 0 d_K_init_22 (by decide) kz) ?_
  refine jx_of (fun _ _ kz => jw_putI fl_K_24 (Or.inr ⟨rfl, rfl⟩) rfl rfl d_K_init_23 rfl rfl kz) ?_
  refine jx_of (fun _ _ kz => jw_aload_n 0 d_K_init_26 rfl rfl kz) ?_
  refine jx_of (fun _ _ kz => jw_iconst 0 d_K_init_27 (by decide) kz) ?_
  refine jx_of (fun _ _ kz => jw_putI fl_K_27 (Or.inr ⟨rfl, rfl⟩) rfl rfl d_K_init_28 rfl rfl kz) ?_
  refine jx_of (fun _ _ kz => jw_aload_n 0 d_K_init_31 rfl rfl kz) ?_
  refine jx_of (fun _ _ kz => jw_iload_n 1 d_K_init_32 rfl rfl kz) ?_
  refine jx_of (fun _ _ kz => jw_putI fl_K_30 (Or.inr ⟨rfl, rfl⟩) rfl rfl d_K_init_33 rfl rfl kz) ?_
  refine jx_vret d_K_init_36 rfl ?_
  exact ⟨rfl, rfl⟩
set_option maxRecDepth 20000 in
set_option maxHeartbeats 4000000 in
theorem x_G_init {G : Gt} {M : Me} (d : Nat) (i : Nat) (n : Nat) (m : Nat) (f0 : me_N M 4 = m) (f1 : me_N M 10 = n) : sx G yt_G_init yn_G_init (d + 2) [.inr (some (5, i))] M (fun r M' => r = none ∧ M' = (me_sI (me_sP (me_sP (me_nx (me_sI (me_nx M 4 m 0 2) 4 m 1 (0)) 10 n 144 144) 4 m 0 (some (10, n))) 5 i 0 (some (4, m))) 5 i 1 (1))) := by
  refine sx_of (k := 0) (lc := [some (.inr (some (5, i)))]) mt_G_init (Nat.le_of_ble_eq_true rfl) rfl ?_
  refine jx_of (fun _ _ kz => jw_aload_n 0 d_G_init_0 rfl rfl kz) ?_
  refine jx_of (fun _ _ kz => jw_objInit ml_G_3 im_Obj co_Obj d_G_init_1 (Nat.le_of_ble_eq_true rfl) kz) ?_
  refine jx_of (fun _ _ kz => jw_aload_n 0 d_G_init_4 rfl rfl kz) ?_
  refine jx_of (fun _ _ kz => jw_newe (s := 4) m cf_R df_R cl_G_9 it_R ii_R d_G_init_5 rfl rfl (by simp [me_I_sI, me_I_sP, me_I_nx, me_P_sI, me_P_sP, me_P_nx, me_N_sI, me_N_sP, me_N_nx, me_L_sI, me_L_sP, me_L_nx, f0, f1]) kz) ?_
  refine jx_of (fun _ _ kz => jw_dup d_G_init_8 kz) ?_
  refine jx_of (fun _ _ kz => jw_sipush 144 d_G_init_9 (by decide) kz) ?_
  refine jx_callI (x_R_init _ m 144 144 n (by simp [me_I_sI, me_I_sP, me_I_nx, me_P_sI, me_P_sP, me_P_nx, me_N_sI, me_N_sP, me_N_nx, me_L_sI, me_L_sP, me_L_nx, f0, f1]) (by decide) (by decide) (by decide)) mt_R_init rfl rfl ml_G_11 im_R_init d_G_init_12 rfl rfl (Nat.le_of_ble_eq_true rfl) (fun _ _ h => h.1) ?_
  rintro _ ⟨_, rfl⟩
  refine jx_of (fun _ _ kz => jw_putP fl_G_14 (Or.inr ⟨rfl, rfl⟩) (fun z => by cases z <;> rfl) (fun z => by cases z <;> rfl) d_G_init_15 rfl rfl kz) ?_
  refine jx_of (fun _ _ kz => jw_aload_n 0 d_G_init_18 rfl rfl kz) ?_
  refine jx_of (fun _ _ kz => jw_iconst 1 d_G_init_19 (by decide) kz) ?_
  refine jx_of (fun _ _ kz => jw_putI fl_G_20 (Or.inr ⟨rfl, rfl⟩) rfl rfl d_G_init_20 rfl rfl kz) ?_
  refine jx_vret d_G_init_23 rfl ?_
  exact ⟨rfl, rfl⟩
set_option maxRecDepth 20000 in
set_option maxHeartbeats 4000000 in
theorem x_N_init {G : Gt} {M : Me} (d : Nat) (i : Nat) (n : Nat) (m : Nat) (f0 : me_N M 4 = m) (f1 : me_N M 10 = n) : sx G yt_N_init yn_N_init (d + 2) [.inr (some (6, i))] M (fun r M' => r = none ∧ M' = (me_sI (me_sP (me_sP (me_nx (me_sI (me_nx M 4 m 0 2) 4 m 1 (0)) 10 n 144 144) 4 m 0 (some (10, n))) 6 i 0 (some (4, m))) 6 i 1 (0))) := by
  refine sx_of (k := 0) (lc := [some (.inr (some (6, i)))]) mt_N_init (Nat.le_of_ble_eq_true rfl) rfl ?_
  refine jx_of (fun _ _ kz => jw_aload_n 0 d_N_init_0 rfl rfl kz) ?_
  refine jx_of (fun _ _ kz => jw_objInit ml_N_3 im_Obj co_Obj d_N_init_1 (Nat.le_of_ble_eq_true rfl) kz) ?_
  refine jx_of (fun _ _ kz => jw_aload_n 0 d_N_init_4 rfl rfl kz) ?_
  refine jx_of (fun _ _ kz => jw_newe (s := 4) m cf_R df_R cl_N_9 it_R ii_R d_N_init_5 rfl rfl (by simp [me_I_sI, me_I_sP, me_I_nx, me_P_sI, me_P_sP, me_P_nx, me_N_sI, me_N_sP, me_N_nx, me_L_sI, me_L_sP, me_L_nx, f0, f1]) kz) ?_
  refine jx_of (fun _ _ kz => jw_dup d_N_init_8 kz) ?_
  refine jx_of (fun _ _ kz => jw_sipush 144 d_N_init_9 (by decide) kz) ?_
  refine jx_callI (x_R_init _ m 144 144 n (by simp [me_I_sI, me_I_sP, me_I_nx, me_P_sI, me_P_sP, me_P_nx, me_N_sI, me_N_sP, me_N_nx, me_L_sI, me_L_sP, me_L_nx, f0, f1]) (by decide) (by decide) (by decide)) mt_R_init rfl rfl ml_N_11 im_R_init d_N_init_12 rfl rfl (Nat.le_of_ble_eq_true rfl) (fun _ _ h => h.1) ?_
  rintro _ ⟨_, rfl⟩
  refine jx_of (fun _ _ kz => jw_putP fl_N_14 (Or.inr ⟨rfl, rfl⟩) (fun z => by cases z <;> rfl) (fun z => by cases z <;> rfl) d_N_init_15 rfl rfl kz) ?_
  refine jx_of (fun _ _ kz => jw_aload_n 0 d_N_init_18 rfl rfl kz) ?_
  refine jx_of (fun _ _ kz => jw_iconst 0 d_N_init_19 (by decide) kz) ?_
  refine jx_of (fun _ _ kz => jw_putI fl_N_20 (Or.inr ⟨rfl, rfl⟩) rfl rfl d_N_init_20 rfl rfl kz) ?_
  refine jx_vret d_N_init_23 rfl ?_
  exact ⟨rfl, rfl⟩
end
section
set_option maxRecDepth 20000 in
set_option maxHeartbeats 4000000 in
theorem x_Y_init {G : Gt} {M : Me} (d : Nat) (f0 : me_N M 1 = 0) (f1 : me_N M 3 = 0) (f2 : me_N M 4 = 0) (f3 : me_N M 5 = 0) (f4 : me_N M 6 = 0) (f5 : me_N M 10 = 0) (f6 : me_N M 11 = 0) (f7 : me_N M 12 = 0) (f8 : me_N M 13 = 0) (f9 : me_N M 17 = 0) (f10 : me_N M 18 = 0) (f11 : me_N M 19 = 0) (f12 : me_N M 20 = 0) (f13 : me_N M 21 = 0) : sx G yt_Y_init yn_Y_init (d + 3) [.inr (some (0, 0))] M (fun r M' => r = none ∧ M' = (me_sI (me_sI (me_sI (me_sI (me_sP (me_sP (me_sI (me_sP (me_sP (me_nx (me_sI (me_nx (me_nx (me_sP (me_sI (me_sP (me_sP (me_nx (me_sI (me_nx (me_nx (me_nx (me_sP (me_sP (me_sI (me_sP (me_sP (me_nx (me_sI (me_nx (me_nx (me_sP (me_sI (me_sP (me_sP (me_nx (me_sI (me_nx (me_nx (me_nx (me_sP (me_sP (me_nx (me_sI (me_nx (me_sP (me_sP (me_nx (me_sI (me_nx (me_sP (me_sP (me_sI (me_sI (me_sI (me_sI (me_sP (me_sP (me_nx (me_sI (me_nx (me_nx (me_sP (me_sI (me_sI (me_sI (me_sI (me_sP (me_sP (me_nx (me_sI (me_nx (me_nx (me_sP (me_sI (me_sI (me_sI (me_sI (me_sP (me_sP (me_nx (me_sI (me_nx (me_nx (me_nx (me_sI (me_sP (me_nx (me_sI (me_sP (me_nx (me_sP (me_sI (me_sP (me_nx (me_sP (me_nx (me_sP (me_nx (me_nx M 1 0 0 4) 11 0 12 12) 1 0 0 (some (11, 0))) 12 0 12 12) 1 0 1 (some (12, 0))) 13 0 12 12) 1 0 2 (some (13, 0))) 1 0 3 (0)) 0 0 0 (some (1, 0))) 17 0 6 6) 0 0 1 (some (17, 0))) 0 0 2 (0)) 18 0 12 12) 0 0 3 (some (18, 0))) 0 0 4 (0)) 19 0 3 3) 3 0 0 5) 4 0 0 2) 4 0 1 (0)) 10 0 4 4) 4 0 0 (some (10, 0))) 3 0 1 (some (4, 0))) 3 0 2 ((-1))) 3 0 3 (0)) 3 0 4 (0)) 3 0 0 (0)) 19 0 0 (some (3, 0))) 3 1 0 5) 4 1 0 2) 4 1 1 (0)) 10 1 4 4) 4 1 0 (some (10, 1))) 3 1 1 (some (4, 1))) 3 1 2 ((-1))) 3 1 3 (0)) 3 1 4 (0)) 3 1 0 (1)) 19 0 1 (some (3, 1))) 3 2 0 5) 4 2 0 2) 4 2 1 (0)) 10 2 4 4) 4 2 0 (some (10, 2))) 3 2 1 (some (4, 2))) 3 2 2 ((-1))) 3 2 3 (0)) 3 2 4 (0)) 3 2 0 (2)) 19 0 2 (some (3, 2))) 0 0 5 (some (19, 0))) 4 3 0 2) 4 3 1 (0)) 10 3 12 12) 4 3 0 (some (10, 3))) 0 0 6 (some (4, 3))) 4 4 0 2) 4 4 1 (0)) 10 4 12 12) 4 4 0 (some (10, 4))) 0 0 7 (some (4, 4))) 20 0 2 2) 5 0 0 2) 4 5 0 2) 4 5 1 (0)) 10 5 144 144) 4 5 0 (some (10, 5))) 5 0 0 (some (4, 5))) 5 0 1 (1)) 20 0 0 (some (5, 0))) 5 1 0 2) 4 6 0 2) 4 6 1 (0)) 10 6 144 144) 4 6 0 (some (10, 6))) 5 1 0 (some (4, 6))) 5 1 1 (1)) 20 0 1 (some (5, 1))) 0 0 8 (some (20, 0))) 21 0 2 2) 6 0 0 2) 4 7 0 2) 4 7 1 (0)) 10 7 144 144) 4 7 0 (some (10, 7))) 6 0 0 (some (4, 7))) 6 0 1 (0)) 21 0 0 (some (6, 0))) 6 1 0 2) 4 8 0 2) 4 8 1 (0)) 10 8 144 144) 4 8 0 (some (10, 8))) 6 1 0 (some (4, 8))) 6 1 1 (0)) 21 0 1 (some (6, 1))) 0 0 9 (some (21, 0))) 0 0 10 (0)) 0 0 11 (0)) 0 0 12 (0)) 0 0 13 (0))) := by
  refine sx_of (k := 0) (lc := [some (.inr (some (0, 0)))]) mt_Y_init (Nat.le_of_ble_eq_true rfl) rfl ?_
  refine jx_of (fun _ _ kz => jw_aload_n 0 d_Y_init_0 rfl rfl kz) ?_
  refine jx_of (fun _ _ kz => jw_objInit ml_Y_1 im_Obj co_Obj d_Y_init_1 (Nat.le_of_ble_eq_true rfl) kz) ?_
  refine jx_of (fun _ _ kz => jw_aload_n 0 d_Y_init_4 rfl rfl kz) ?_
  refine jx_of (fun _ _ kz => jw_newe (s := 1) 0 cf_P df_P cl_Y_7 it_P ii_P d_Y_init_5 rfl rfl (by simp [me_I_sI, me_I_sP, me_I_nx, me_P_sI, me_P_sP, me_P_nx, me_N_sI, me_N_sP, me_N_nx, me_L_sI, me_L_sP, me_L_nx, f0, f1, f2, f3, f4, f5, f6, f7, f8, f9, f10, f11, f12, f13]) kz) ?_
  refine jx_of (fun _ _ kz => jw_dup d_Y_init_8 kz) ?_
  refine jx_callIN (host := "PollYard") (x_P_init (d + 1) 0 0 (by simp [me_I_sI, me_I_sP, me_I_nx, me_P_sI, me_P_sP, me_P_nx, me_N_sI, me_N_sP, me_N_nx, me_L_sI, me_L_sP, me_L_nx, f0, f1, f2, f3, f4, f5, f6, f7, f8, f9, f10, f11, f12, f13]) (by simp [me_I_sI, me_I_sP, me_I_nx, me_P_sI, me_P_sP, me_P_nx, me_N_sI, me_N_sP, me_N_nx, me_L_sI, me_L_sP, me_L_nx, f0, f1, f2, f3, f4, f5, f6, f7, f8, f9, f10, f11, f12, f13]) (by simp [me_I_sI, me_I_sP, me_I_nx, me_P_sI, me_P_sP, me_P_nx, me_N_sI, me_N_sP, me_N_nx, me_L_sI, me_L_sP, me_L_nx, f0, f1, f2, f3, f4, f5, f6, f7, f8, f9, f10, f11, f12, f13])) mt_P_init rfl rfl (by decide) im_P_init d_Y_init_9 rfl rfl (Nat.le_of_ble_eq_true rfl) (fun _ _ h => h.1) ?_
  rintro _ ⟨_, rfl⟩
  refine jx_of (fun _ _ kz => jw_putP fl_Y_10 (Or.inr ⟨rfl, rfl⟩) (fun z => by cases z <;> rfl) (fun z => by cases z <;> rfl) d_Y_init_12 rfl rfl kz) ?_
  refine jx_of (fun _ _ kz => jw_aload_n 0 d_Y_init_15 rfl rfl kz) ?_
  refine jx_of (fun _ _ kz => jw_bipush 6 d_Y_init_16 (by decide) kz) ?_
  refine jx_of (fun _ _ kz => jw_newQe (s := 17) (k := 6) 0 cl_Y_7 (by decide) d_Y_init_18 rfl rfl (by decide) (by decide) (by decide) (by simp [me_I_sI, me_I_sP, me_I_nx, me_P_sI, me_P_sP, me_P_nx, me_N_sI, me_N_sP, me_N_nx, me_L_sI, me_L_sP, me_L_nx, f0, f1, f2, f3, f4, f5, f6, f7, f8, f9, f10, f11, f12, f13]) kz) ?_
  refine jx_of (fun _ _ kz => jw_putP fl_Y_16 (Or.inr ⟨rfl, rfl⟩) (fun z => by cases z <;> rfl) (fun z => by cases z <;> rfl) d_Y_init_21 rfl rfl kz) ?_
  refine jx_of (fun _ _ kz => jw_aload_n 0 d_Y_init_24 rfl rfl kz) ?_
  refine jx_of (fun _ _ kz => jw_iconst 0 d_Y_init_25 (by decide) kz) ?_
  refine jx_of (fun _ _ kz => jw_putI fl_Y_20 (Or.inr ⟨rfl, rfl⟩) rfl rfl d_Y_init_26 rfl rfl kz) ?_
  refine jx_of (fun _ _ kz => jw_aload_n 0 d_Y_init_29 rfl rfl kz) ?_
  refine jx_of (fun _ _ kz => jw_bipush 12 d_Y_init_30 (by decide) kz) ?_
  refine jx_of (fun _ _ kz => jw_newQe (s := 18) (k := 12) 0 cl_Y_24 (by decide) d_Y_init_32 rfl rfl (by decide) (by decide) (by decide) (by simp [me_I_sI, me_I_sP, me_I_nx, me_P_sI, me_P_sP, me_P_nx, me_N_sI, me_N_sP, me_N_nx, me_L_sI, me_L_sP, me_L_nx, f0, f1, f2, f3, f4, f5, f6, f7, f8, f9, f10, f11, f12, f13]) kz) ?_
  refine jx_of (fun _ _ kz => jw_putP fl_Y_26 (Or.inr ⟨rfl, rfl⟩) (fun z => by cases z <;> rfl) (fun z => by cases z <;> rfl) d_Y_init_35 rfl rfl kz) ?_
  refine jx_of (fun _ _ kz => jw_aload_n 0 d_Y_init_38 rfl rfl kz) ?_
  refine jx_of (fun _ _ kz => jw_iconst 0 d_Y_init_39 (by decide) kz) ?_
  refine jx_of (fun _ _ kz => jw_putI fl_Y_30 (Or.inr ⟨rfl, rfl⟩) rfl rfl d_Y_init_40 rfl rfl kz) ?_
  refine jx_of (fun _ _ kz => jw_aload_n 0 d_Y_init_43 rfl rfl kz) ?_
  refine jx_of (fun _ _ kz => jw_iconst 3 d_Y_init_44 (by decide) kz) ?_
  refine jx_of (fun _ _ kz => jw_newQe (s := 19) (k := 3) 0 cl_Y_33 (by decide) d_Y_init_45 rfl rfl (by decide) (by decide) (by decide) (by simp [me_I_sI, me_I_sP, me_I_nx, me_P_sI, me_P_sP, me_P_nx, me_N_sI, me_N_sP, me_N_nx, me_L_sI, me_L_sP, me_L_nx, f0, f1, f2, f3, f4, f5, f6, f7, f8, f9, f10, f11, f12, f13]) kz) ?_
  refine jx_of (fun _ _ kz => jw_dup d_Y_init_48 kz) ?_
  refine jx_of (fun _ _ kz => jw_iconst 0 d_Y_init_49 (by decide) kz) ?_
  refine jx_of (fun _ _ kz => jw_newe (s := 3) 0 cf_K df_K cl_Y_33 it_K ii_K d_Y_init_50 rfl rfl (by simp [me_I_sI, me_I_sP, me_I_nx, me_P_sI, me_P_sP, me_P_nx, me_N_sI, me_N_sP, me_N_nx, me_L_sI, me_L_sP, me_L_nx, f0, f1, f2, f3, f4, f5, f6, f7, f8, f9, f10, f11, f12, f13]) kz) ?_
  refine jx_of (fun _ _ kz => jw_dup d_Y_init_53 kz) ?_
  refine jx_of (fun _ _ kz => jw_iconst 0 d_Y_init_54 (by decide) kz) ?_
  refine jx_callI (x_K_init _ 0 0 0 0 (by simp [me_I_sI, me_I_sP, me_I_nx, me_P_sI, me_P_sP, me_P_nx, me_N_sI, me_N_sP, me_N_nx, me_L_sI, me_L_sP, me_L_nx, f0, f1, f2, f3, f4, f5, f6, f7, f8, f9, f10, f11, f12, f13]) (by simp [me_I_sI, me_I_sP, me_I_nx, me_P_sI, me_P_sP, me_P_nx, me_N_sI, me_N_sP, me_N_nx, me_L_sI, me_L_sP, me_L_nx, f0, f1, f2, f3, f4, f5, f6, f7, f8, f9, f10, f11, f12, f13])) mt_K_init rfl rfl ml_Y_35 im_K_init d_Y_init_55 rfl rfl (Nat.le_of_ble_eq_true rfl) (fun _ _ h => h.1) ?_
  rintro _ ⟨_, rfl⟩
  refine jx_of (fun _ _ kz => jw_aast cf_K d_Y_init_58 rfl rfl rfl rfl (by rw [show me_L _ 19 0 = 3 from (by simp [me_I_sI, me_I_sP, me_I_nx, me_P_sI, me_P_sP, me_P_nx, me_N_sI, me_N_sP, me_N_nx, me_L_sI, me_L_sP, me_L_nx, f0, f1, f2, f3, f4, f5, f6, f7, f8, f9, f10, f11, f12, f13])]; unfold vp_in; decide) kz) ?_
  rw [show Int32.toNatClampNeg 0 = 0 from by decide]
  refine jx_of (fun _ _ kz => jw_dup d_Y_init_59 kz) ?_
  refine jx_of (fun _ _ kz => jw_iconst 1 d_Y_init_60 (by decide) kz) ?_
  refine jx_of (fun _ _ kz => jw_newe (s := 3) 1 cf_K df_K cl_Y_33 it_K ii_K d_Y_init_61 rfl rfl (by simp [me_I_sI, me_I_sP, me_I_nx, me_P_sI, me_P_sP, me_P_nx, me_N_sI, me_N_sP, me_N_nx, me_L_sI, me_L_sP, me_L_nx, f0, f1, f2, f3, f4, f5, f6, f7, f8, f9, f10, f11, f12, f13]) kz) ?_
  refine jx_of (fun _ _ kz => jw_dup d_Y_init_64 kz) ?_
  refine jx_of (fun _ _ kz => jw_iconst 1 d_Y_init_65 (by decide) kz) ?_
  refine jx_callI (x_K_init _ 1 1 1 1 (by simp [me_I_sI, me_I_sP, me_I_nx, me_P_sI, me_P_sP, me_P_nx, me_N_sI, me_N_sP, me_N_nx, me_L_sI, me_L_sP, me_L_nx, f0, f1, f2, f3, f4, f5, f6, f7, f8, f9, f10, f11, f12, f13]) (by simp [me_I_sI, me_I_sP, me_I_nx, me_P_sI, me_P_sP, me_P_nx, me_N_sI, me_N_sP, me_N_nx, me_L_sI, me_L_sP, me_L_nx, f0, f1, f2, f3, f4, f5, f6, f7, f8, f9, f10, f11, f12, f13])) mt_K_init rfl rfl ml_Y_35 im_K_init d_Y_init_66 rfl rfl (Nat.le_of_ble_eq_true rfl) (fun _ _ h => h.1) ?_
  rintro _ ⟨_, rfl⟩
  refine jx_of (fun _ _ kz => jw_aast cf_K d_Y_init_69 rfl rfl rfl rfl (by rw [show me_L _ 19 0 = 3 from (by simp [me_I_sI, me_I_sP, me_I_nx, me_P_sI, me_P_sP, me_P_nx, me_N_sI, me_N_sP, me_N_nx, me_L_sI, me_L_sP, me_L_nx, f0, f1, f2, f3, f4, f5, f6, f7, f8, f9, f10, f11, f12, f13])]; unfold vp_in; decide) kz) ?_
  rw [show Int32.toNatClampNeg 1 = 1 from by decide]
  refine jx_of (fun _ _ kz => jw_dup d_Y_init_70 kz) ?_
  refine jx_of (fun _ _ kz => jw_iconst 2 d_Y_init_71 (by decide) kz) ?_
  refine jx_of (fun _ _ kz => jw_newe (s := 3) 2 cf_K df_K cl_Y_33 it_K ii_K d_Y_init_72 rfl rfl (by simp [me_I_sI, me_I_sP, me_I_nx, me_P_sI, me_P_sP, me_P_nx, me_N_sI, me_N_sP, me_N_nx, me_L_sI, me_L_sP, me_L_nx, f0, f1, f2, f3, f4, f5, f6, f7, f8, f9, f10, f11, f12, f13]) kz) ?_
  refine jx_of (fun _ _ kz => jw_dup d_Y_init_75 kz) ?_
  refine jx_of (fun _ _ kz => jw_iconst 2 d_Y_init_76 (by decide) kz) ?_
  refine jx_callI (x_K_init _ 2 2 2 2 (by simp [me_I_sI, me_I_sP, me_I_nx, me_P_sI, me_P_sP, me_P_nx, me_N_sI, me_N_sP, me_N_nx, me_L_sI, me_L_sP, me_L_nx, f0, f1, f2, f3, f4, f5, f6, f7, f8, f9, f10, f11, f12, f13]) (by simp [me_I_sI, me_I_sP, me_I_nx, me_P_sI, me_P_sP, me_P_nx, me_N_sI, me_N_sP, me_N_nx, me_L_sI, me_L_sP, me_L_nx, f0, f1, f2, f3, f4, f5, f6, f7, f8, f9, f10, f11, f12, f13])) mt_K_init rfl rfl ml_Y_35 im_K_init d_Y_init_77 rfl rfl (Nat.le_of_ble_eq_true rfl) (fun _ _ h => h.1) ?_
  rintro _ ⟨_, rfl⟩
  refine jx_of (fun _ _ kz => jw_aast cf_K d_Y_init_80 rfl rfl rfl rfl (by rw [show me_L _ 19 0 = 3 from (by simp [me_I_sI, me_I_sP, me_I_nx, me_P_sI, me_P_sP, me_P_nx, me_N_sI, me_N_sP, me_N_nx, me_L_sI, me_L_sP, me_L_nx, f0, f1, f2, f3, f4, f5, f6, f7, f8, f9, f10, f11, f12, f13])]; unfold vp_in; decide) kz) ?_
  rw [show Int32.toNatClampNeg 2 = 2 from by decide]
  refine jx_of (fun _ _ kz => jw_putP fl_Y_38 (Or.inr ⟨rfl, rfl⟩) (fun z => by cases z <;> rfl) (fun z => by cases z <;> rfl) d_Y_init_81 rfl rfl kz) ?_
  refine jx_of (fun _ _ kz => jw_aload_n 0 d_Y_init_84 rfl rfl kz) ?_
  refine jx_of (fun _ _ kz => jw_newe (s := 4) 3 cf_R df_R cl_Y_42 it_R ii_R d_Y_init_85 rfl rfl (by simp [me_I_sI, me_I_sP, me_I_nx, me_P_sI, me_P_sP, me_P_nx, me_N_sI, me_N_sP, me_N_nx, me_L_sI, me_L_sP, me_L_nx, f0, f1, f2, f3, f4, f5, f6, f7, f8, f9, f10, f11, f12, f13]) kz) ?_
  refine jx_of (fun _ _ kz => jw_dup d_Y_init_88 kz) ?_
  refine jx_of (fun _ _ kz => jw_bipush 12 d_Y_init_89 (by decide) kz) ?_
  refine jx_callI (x_R_init (d + 1) 3 12 12 3 (by simp [me_I_sI, me_I_sP, me_I_nx, me_P_sI, me_P_sP, me_P_nx, me_N_sI, me_N_sP, me_N_nx, me_L_sI, me_L_sP, me_L_nx, f0, f1, f2, f3, f4, f5, f6, f7, f8, f9, f10, f11, f12, f13]) (by decide) (by decide) (by decide)) mt_R_init rfl rfl ml_Y_44 im_R_init d_Y_init_91 rfl rfl (Nat.le_of_ble_eq_true rfl) (fun _ _ h => h.1) ?_
  rintro _ ⟨_, rfl⟩
  refine jx_of (fun _ _ kz => jw_putP fl_Y_45 (Or.inr ⟨rfl, rfl⟩) (fun z => by cases z <;> rfl) (fun z => by cases z <;> rfl) d_Y_init_94 rfl rfl kz) ?_
  refine jx_of (fun _ _ kz => jw_aload_n 0 d_Y_init_97 rfl rfl kz) ?_
  refine jx_of (fun _ _ kz => jw_newe (s := 4) 4 cf_R df_R cl_Y_42 it_R ii_R d_Y_init_98 rfl rfl (by simp [me_I_sI, me_I_sP, me_I_nx, me_P_sI, me_P_sP, me_P_nx, me_N_sI, me_N_sP, me_N_nx, me_L_sI, me_L_sP, me_L_nx, f0, f1, f2, f3, f4, f5, f6, f7, f8, f9, f10, f11, f12, f13]) kz) ?_
  refine jx_of (fun _ _ kz => jw_dup d_Y_init_101 kz) ?_
  refine jx_of (fun _ _ kz => jw_bipush 12 d_Y_init_102 (by decide) kz) ?_
  refine jx_callI (x_R_init (d + 1) 4 12 12 4 (by simp [me_I_sI, me_I_sP, me_I_nx, me_P_sI, me_P_sP, me_P_nx, me_N_sI, me_N_sP, me_N_nx, me_L_sI, me_L_sP, me_L_nx, f0, f1, f2, f3, f4, f5, f6, f7, f8, f9, f10, f11, f12, f13]) (by decide) (by decide) (by decide)) mt_R_init rfl rfl ml_Y_44 im_R_init d_Y_init_104 rfl rfl (Nat.le_of_ble_eq_true rfl) (fun _ _ h => h.1) ?_
  rintro _ ⟨_, rfl⟩
  refine jx_of (fun _ _ kz => jw_putP fl_Y_49 (Or.inr ⟨rfl, rfl⟩) (fun z => by cases z <;> rfl) (fun z => by cases z <;> rfl) d_Y_init_107 rfl rfl kz) ?_
  refine jx_of (fun _ _ kz => jw_aload_n 0 d_Y_init_110 rfl rfl kz) ?_
  refine jx_of (fun _ _ kz => jw_iconst 2 d_Y_init_111 (by decide) kz) ?_
  refine jx_of (fun _ _ kz => jw_newQe (s := 20) (k := 2) 0 cl_Y_52 (by decide) d_Y_init_112 rfl rfl (by decide) (by decide) (by decide) (by simp [me_I_sI, me_I_sP, me_I_nx, me_P_sI, me_P_sP, me_P_nx, me_N_sI, me_N_sP, me_N_nx, me_L_sI, me_L_sP, me_L_nx, f0, f1, f2, f3, f4, f5, f6, f7, f8, f9, f10, f11, f12, f13]) kz) ?_
  refine jx_of (fun _ _ kz => jw_dup d_Y_init_115 kz) ?_
  refine jx_of (fun _ _ kz => jw_iconst 0 d_Y_init_116 (by decide) kz) ?_
  refine jx_of (fun _ _ kz => jw_newe (s := 5) 0 cf_G df_G cl_Y_52 it_G ii_G d_Y_init_117 rfl rfl (by simp [me_I_sI, me_I_sP, me_I_nx, me_P_sI, me_P_sP, me_P_nx, me_N_sI, me_N_sP, me_N_nx, me_L_sI, me_L_sP, me_L_nx, f0, f1, f2, f3, f4, f5, f6, f7, f8, f9, f10, f11, f12, f13]) kz) ?_
  refine jx_of (fun _ _ kz => jw_dup d_Y_init_120 kz) ?_
  refine jx_callIN (host := "PollYard") (x_G_init _ 0 5 5 (by simp [me_I_sI, me_I_sP, me_I_nx, me_P_sI, me_P_sP, me_P_nx, me_N_sI, me_N_sP, me_N_nx, me_L_sI, me_L_sP, me_L_nx, f0, f1, f2, f3, f4, f5, f6, f7, f8, f9, f10, f11, f12, f13]) (by simp [me_I_sI, me_I_sP, me_I_nx, me_P_sI, me_P_sP, me_P_nx, me_N_sI, me_N_sP, me_N_nx, me_L_sI, me_L_sP, me_L_nx, f0, f1, f2, f3, f4, f5, f6, f7, f8, f9, f10, f11, f12, f13])) mt_G_init rfl rfl (by decide) im_G_init d_Y_init_121 rfl rfl (Nat.le_of_ble_eq_true rfl) (fun _ _ h => h.1) ?_
  rintro _ ⟨_, rfl⟩
  refine jx_of (fun _ _ kz => jw_aast cf_G d_Y_init_124 rfl rfl rfl rfl (by rw [show me_L _ 20 0 = 2 from (by simp [me_I_sI, me_I_sP, me_I_nx, me_P_sI, me_P_sP, me_P_nx, me_N_sI, me_N_sP, me_N_nx, me_L_sI, me_L_sP, me_L_nx, f0, f1, f2, f3, f4, f5, f6, f7, f8, f9, f10, f11, f12, f13])]; unfold vp_in; decide) kz) ?_
  rw [show Int32.toNatClampNeg 0 = 0 from by decide]
  refine jx_of (fun _ _ kz => jw_dup d_Y_init_125 kz) ?_
  refine jx_of (fun _ _ kz => jw_iconst 1 d_Y_init_126 (by decide) kz) ?_
  refine jx_of (fun _ _ kz => jw_newe (s := 5) 1 cf_G df_G cl_Y_52 it_G ii_G d_Y_init_127 rfl rfl (by simp [me_I_sI, me_I_sP, me_I_nx, me_P_sI, me_P_sP, me_P_nx, me_N_sI, me_N_sP, me_N_nx, me_L_sI, me_L_sP, me_L_nx, f0, f1, f2, f3, f4, f5, f6, f7, f8, f9, f10, f11, f12, f13]) kz) ?_
  refine jx_of (fun _ _ kz => jw_dup d_Y_init_130 kz) ?_
  refine jx_callIN (host := "PollYard") (x_G_init _ 1 6 6 (by simp [me_I_sI, me_I_sP, me_I_nx, me_P_sI, me_P_sP, me_P_nx, me_N_sI, me_N_sP, me_N_nx, me_L_sI, me_L_sP, me_L_nx, f0, f1, f2, f3, f4, f5, f6, f7, f8, f9, f10, f11, f12, f13]) (by simp [me_I_sI, me_I_sP, me_I_nx, me_P_sI, me_P_sP, me_P_nx, me_N_sI, me_N_sP, me_N_nx, me_L_sI, me_L_sP, me_L_nx, f0, f1, f2, f3, f4, f5, f6, f7, f8, f9, f10, f11, f12, f13])) mt_G_init rfl rfl (by decide) im_G_init d_Y_init_131 rfl rfl (Nat.le_of_ble_eq_true rfl) (fun _ _ h => h.1) ?_
  rintro _ ⟨_, rfl⟩
  refine jx_of (fun _ _ kz => jw_aast cf_G d_Y_init_134 rfl rfl rfl rfl (by rw [show me_L _ 20 0 = 2 from (by simp [me_I_sI, me_I_sP, me_I_nx, me_P_sI, me_P_sP, me_P_nx, me_N_sI, me_N_sP, me_N_nx, me_L_sI, me_L_sP, me_L_nx, f0, f1, f2, f3, f4, f5, f6, f7, f8, f9, f10, f11, f12, f13])]; unfold vp_in; decide) kz) ?_
  rw [show Int32.toNatClampNeg 1 = 1 from by decide]
  refine jx_of (fun _ _ kz => jw_putP fl_Y_55 (Or.inr ⟨rfl, rfl⟩) (fun z => by cases z <;> rfl) (fun z => by cases z <;> rfl) d_Y_init_135 rfl rfl kz) ?_
  refine jx_of (fun _ _ kz => jw_aload_n 0 d_Y_init_138 rfl rfl kz) ?_
  refine jx_of (fun _ _ kz => jw_iconst 2 d_Y_init_139 (by decide) kz) ?_
  refine jx_of (fun _ _ kz => jw_newQe (s := 21) (k := 2) 0 cl_Y_59 (by decide) d_Y_init_140 rfl rfl (by decide) (by decide) (by decide) (by simp [me_I_sI, me_I_sP, me_I_nx, me_P_sI, me_P_sP, me_P_nx, me_N_sI, me_N_sP, me_N_nx, me_L_sI, me_L_sP, me_L_nx, f0, f1, f2, f3, f4, f5, f6, f7, f8, f9, f10, f11, f12, f13]) kz) ?_
  refine jx_of (fun _ _ kz => jw_dup d_Y_init_143 kz) ?_
  refine jx_of (fun _ _ kz => jw_iconst 0 d_Y_init_144 (by decide) kz) ?_
  refine jx_of (fun _ _ kz => jw_newe (s := 6) 0 cf_N df_N cl_Y_59 it_N ii_N d_Y_init_145 rfl rfl (by simp [me_I_sI, me_I_sP, me_I_nx, me_P_sI, me_P_sP, me_P_nx, me_N_sI, me_N_sP, me_N_nx, me_L_sI, me_L_sP, me_L_nx, f0, f1, f2, f3, f4, f5, f6, f7, f8, f9, f10, f11, f12, f13]) kz) ?_
  refine jx_of (fun _ _ kz => jw_dup d_Y_init_148 kz) ?_
  refine jx_callIN (host := "PollYard") (x_N_init _ 0 7 7 (by simp [me_I_sI, me_I_sP, me_I_nx, me_P_sI, me_P_sP, me_P_nx, me_N_sI, me_N_sP, me_N_nx, me_L_sI, me_L_sP, me_L_nx, f0, f1, f2, f3, f4, f5, f6, f7, f8, f9, f10, f11, f12, f13]) (by simp [me_I_sI, me_I_sP, me_I_nx, me_P_sI, me_P_sP, me_P_nx, me_N_sI, me_N_sP, me_N_nx, me_L_sI, me_L_sP, me_L_nx, f0, f1, f2, f3, f4, f5, f6, f7, f8, f9, f10, f11, f12, f13])) mt_N_init rfl rfl (by decide) im_N_init d_Y_init_149 rfl rfl (Nat.le_of_ble_eq_true rfl) (fun _ _ h => h.1) ?_
  rintro _ ⟨_, rfl⟩
  refine jx_of (fun _ _ kz => jw_aast cf_N d_Y_init_152 rfl rfl rfl rfl (by rw [show me_L _ 21 0 = 2 from (by simp [me_I_sI, me_I_sP, me_I_nx, me_P_sI, me_P_sP, me_P_nx, me_N_sI, me_N_sP, me_N_nx, me_L_sI, me_L_sP, me_L_nx, f0, f1, f2, f3, f4, f5, f6, f7, f8, f9, f10, f11, f12, f13])]; unfold vp_in; decide) kz) ?_
  rw [show Int32.toNatClampNeg 0 = 0 from by decide]
  refine jx_of (fun _ _ kz => jw_dup d_Y_init_153 kz) ?_
  refine jx_of (fun _ _ kz => jw_iconst 1 d_Y_init_154 (by decide) kz) ?_
  refine jx_of (fun _ _ kz => jw_newe (s := 6) 1 cf_N df_N cl_Y_59 it_N ii_N d_Y_init_155 rfl rfl (by simp [me_I_sI, me_I_sP, me_I_nx, me_P_sI, me_P_sP, me_P_nx, me_N_sI, me_N_sP, me_N_nx, me_L_sI, me_L_sP, me_L_nx, f0, f1, f2, f3, f4, f5, f6, f7, f8, f9, f10, f11, f12, f13]) kz) ?_
  refine jx_of (fun _ _ kz => jw_dup d_Y_init_158 kz) ?_
  refine jx_callIN (host := "PollYard") (x_N_init _ 1 8 8 (by simp [me_I_sI, me_I_sP, me_I_nx, me_P_sI, me_P_sP, me_P_nx, me_N_sI, me_N_sP, me_N_nx, me_L_sI, me_L_sP, me_L_nx, f0, f1, f2, f3, f4, f5, f6, f7, f8, f9, f10, f11, f12, f13]) (by simp [me_I_sI, me_I_sP, me_I_nx, me_P_sI, me_P_sP, me_P_nx, me_N_sI, me_N_sP, me_N_nx, me_L_sI, me_L_sP, me_L_nx, f0, f1, f2, f3, f4, f5, f6, f7, f8, f9, f10, f11, f12, f13])) mt_N_init rfl rfl (by decide) im_N_init d_Y_init_159 rfl rfl (Nat.le_of_ble_eq_true rfl) (fun _ _ h => h.1) ?_
  rintro _ ⟨_, rfl⟩
  refine jx_of (fun _ _ kz => jw_aast cf_N d_Y_init_162 rfl rfl rfl rfl (by rw [show me_L _ 21 0 = 2 from (by simp [me_I_sI, me_I_sP, me_I_nx, me_P_sI, me_P_sP, me_P_nx, me_N_sI, me_N_sP, me_N_nx, me_L_sI, me_L_sP, me_L_nx, f0, f1, f2, f3, f4, f5, f6, f7, f8, f9, f10, f11, f12, f13])]; unfold vp_in; decide) kz) ?_
  rw [show Int32.toNatClampNeg 1 = 1 from by decide]
  refine jx_of (fun _ _ kz => jw_putP fl_Y_62 (Or.inr ⟨rfl, rfl⟩) (fun z => by cases z <;> rfl) (fun z => by cases z <;> rfl) d_Y_init_163 rfl rfl kz) ?_
  refine jx_of (fun _ _ kz => jw_aload_n 0 d_Y_init_166 rfl rfl kz) ?_
  refine jx_of (fun _ _ kz => jw_iconst 0 d_Y_init_167 (by decide) kz) ?_
  refine jx_of (fun _ _ kz => jw_putI fl_Y_66 (Or.inr ⟨rfl, rfl⟩) rfl rfl d_Y_init_168 rfl rfl kz) ?_
  refine jx_of (fun _ _ kz => jw_aload_n 0 d_Y_init_171 rfl rfl kz) ?_
  refine jx_of (fun _ _ kz => jw_iconst 0 d_Y_init_172 (by decide) kz) ?_
  refine jx_of (fun _ _ kz => jw_putI fl_Y_69 (Or.inr ⟨rfl, rfl⟩) rfl rfl d_Y_init_173 rfl rfl kz) ?_
  refine jx_of (fun _ _ kz => jw_aload_n 0 d_Y_init_176 rfl rfl kz) ?_
  refine jx_of (fun _ _ kz => jw_iconst 0 d_Y_init_177 (by decide) kz) ?_
  refine jx_of (fun _ _ kz => jw_putI fl_Y_72 (Or.inr ⟨rfl, rfl⟩) rfl rfl d_Y_init_178 rfl rfl kz) ?_
  refine jx_of (fun _ _ kz => jw_aload_n 0 d_Y_init_181 rfl rfl kz) ?_
  refine jx_of (fun _ _ kz => jw_iconst 0 d_Y_init_182 (by decide) kz) ?_
  refine jx_of (fun _ _ kz => jw_putI fl_Y_75 (Or.inr ⟨rfl, rfl⟩) rfl rfl d_Y_init_183 rfl rfl kz) ?_
  refine jx_vret d_Y_init_186 rfl ?_
  exact ⟨rfl, rfl⟩
set_option maxRecDepth 20000 in
set_option maxHeartbeats 4000000 in
theorem x_M_init {G : Gt} {M : Me} (d : Nat) (f0 : me_N M 30 = 0) (f1 : me_N M 31 = 0) (f2 : me_N M 32 = 0) (f3 : me_N M 33 = 0) (f4 : me_N M 34 = 0) (f5 : me_N M 35 = 0) (f6 : me_N M 36 = 0) (f7 : me_N M 37 = 0) (f8 : me_N M 38 = 0) (f9 : me_N M 39 = 0) (f10 : me_N M 40 = 0) (f11 : me_N M 41 = 0) (f12 : me_N M 42 = 0) (f13 : me_N M 43 = 0) (f14 : me_N M 44 = 0) (f15 : me_N M 45 = 0) (f16 : me_N M 46 = 0) (f17 : me_N M 47 = 0) (f18 : me_N M 48 = 0) (f19 : me_N M 49 = 0) (f20 : me_N M 50 = 0) (f21 : me_N M 51 = 0) (f22 : me_N M 52 = 0) (f23 : me_N M 53 = 0) (f24 : me_N M 54 = 0) (f25 : me_N M 55 = 0) : sx G yt_M_init yn_M_init (d + 1) [.inr (some (7, 0))] M (fun r M' => r = none ∧ M' = (me_sI (me_sP (me_nx (me_sP (me_sI (me_sI (me_nx (me_sP (me_nx (me_sP (me_nx (me_sP (me_nx (me_sP (me_nx (me_sP (me_nx (me_sP (me_sI (me_sI (me_sI (me_nx (me_sP (me_nx (me_sP (me_nx (me_sP (me_nx (me_sP (me_nx (me_sP (me_nx (me_sP (me_nx (me_sP (me_nx (me_sP (me_nx (me_sP (me_nx (me_sP (me_nx (me_sP (me_nx (me_sP (me_nx (me_sP (me_nx (me_sP (me_nx (me_sP (me_nx (me_sP (me_nx (me_sP (me_nx (me_sP (me_nx M 30 0 84 84) 7 0 0 (some (30, 0))) 31 0 84 84) 7 0 1 (some (31, 0))) 32 0 7 7) 7 0 2 (some (32, 0))) 33 0 12 12) 7 0 4 (some (33, 0))) 34 0 12 12) 7 0 5 (some (34, 0))) 35 0 12 12) 7 0 6 (some (35, 0))) 36 0 12 12) 7 0 7 (some (36, 0))) 37 0 12 12) 7 0 8 (some (37, 0))) 38 0 12 12) 7 0 9 (some (38, 0))) 39 0 12 12) 7 0 10 (some (39, 0))) 40 0 144 144) 7 0 11 (some (40, 0))) 41 0 144 144) 7 0 12 (some (41, 0))) 42 0 144 144) 7 0 13 (some (42, 0))) 43 0 144 144) 7 0 14 (some (43, 0))) 44 0 144 144) 7 0 15 (some (44, 0))) 45 0 144 144) 7 0 16 (some (45, 0))) 46 0 13 13) 7 0 17 (some (46, 0))) 47 0 13 13) 7 0 18 (some (47, 0))) 48 0 3 3) 48 0 0 ((-1))) 48 0 1 ((-1))) 48 0 2 ((-1))) 7 0 19 (some (48, 0))) 49 0 3 3) 7 0 20 (some (49, 0))) 50 0 3 3) 7 0 21 (some (50, 0))) 51 0 12 12) 7 0 22 (some (51, 0))) 52 0 3 3) 7 0 23 (some (52, 0))) 53 0 12 12) 7 0 24 (some (53, 0))) 54 0 2 2) 54 0 0 (1)) 54 0 1 (1)) 7 0 25 (some (54, 0))) 55 0 2 2) 7 0 26 (some (55, 0))) 7 0 35 ((-1)))) := by
  refine sx_of (k := 0) (lc := [some (.inr (some (7, 0)))]) mt_M_init (Nat.le_of_ble_eq_true rfl) rfl ?_
  refine jx_of (fun _ _ kz => jw_aload_n 0 d_M_init_0 rfl rfl kz) ?_
  refine jx_of (fun _ _ kz => jw_objInit ml_M_1 im_Obj co_Obj d_M_init_1 (Nat.le_of_ble_eq_true rfl) kz) ?_
  refine jx_of (fun _ _ kz => jw_aload_n 0 d_M_init_4 rfl rfl kz) ?_
  refine jx_of (fun _ _ kz => jw_bipush 84 d_M_init_5 (by decide) kz) ?_
  refine jx_of (fun _ _ kz => jw_newIe (s := 30) (k := 84) 0 ac_int d_M_init_7 rfl rfl (by decide) (by decide) (by decide) (by simp [me_I_sI, me_I_sP, me_I_nx, me_P_sI, me_P_sP, me_P_nx, me_N_sI, me_N_sP, me_N_nx, me_L_sI, me_L_sP, me_L_nx, f0, f1, f2, f3, f4, f5, f6, f7, f8, f9, f10, f11, f12, f13, f14, f15, f16, f17, f18, f19, f20, f21, f22, f23, f24, f25]) kz) ?_
  refine jx_of (fun _ _ kz => jw_putP fl_M_7 (Or.inr ⟨rfl, rfl⟩) (fun z => by cases z <;> rfl) (fun z => by cases z <;> rfl) d_M_init_9 rfl rfl kz) ?_
  refine jx_of (fun _ _ kz => jw_aload_n 0 d_M_init_12 rfl rfl kz) ?_
  refine jx_of (fun _ _ kz => jw_bipush 84 d_M_init_13 (by decide) kz) ?_
  refine jx_of (fun _ _ kz => jw_newIe (s := 31) (k := 84) 0 ac_int d_M_init_15 rfl rfl (by decide) (by decide) (by decide) (by simp [me_I_sI, me_I_sP, me_I_nx, me_P_sI, me_P_sP, me_P_nx, me_N_sI, me_N_sP, me_N_nx, me_L_sI, me_L_sP, me_L_nx, f0, f1, f2, f3, f4, f5, f6, f7, f8, f9, f10, f11, f12, f13, f14, f15, f16, f17, f18, f19, f20, f21, f22, f23, f24, f25]) kz) ?_
  refine jx_of (fun _ _ kz => jw_putP fl_M_13 (Or.inr ⟨rfl, rfl⟩) (fun z => by cases z <;> rfl) (fun z => by cases z <;> rfl) d_M_init_17 rfl rfl kz) ?_
  refine jx_of (fun _ _ kz => jw_aload_n 0 d_M_init_20 rfl rfl kz) ?_
  refine jx_of (fun _ _ kz => jw_bipush 7 d_M_init_21 (by decide) kz) ?_
  refine jx_of (fun _ _ kz => jw_newIe (s := 32) (k := 7) 0 ac_int d_M_init_23 rfl rfl (by decide) (by decide) (by decide) (by simp [me_I_sI, me_I_sP, me_I_nx, me_P_sI, me_P_sP, me_P_nx, me_N_sI, me_N_sP, me_N_nx, me_L_sI, me_L_sP, me_L_nx, f0, f1, f2, f3, f4, f5, f6, f7, f8, f9, f10, f11, f12, f13, f14, f15, f16, f17, f18, f19, f20, f21, f22, f23, f24, f25]) kz) ?_
  refine jx_of (fun _ _ kz => jw_putP fl_M_16 (Or.inr ⟨rfl, rfl⟩) (fun z => by cases z <;> rfl) (fun z => by cases z <;> rfl) d_M_init_25 rfl rfl kz) ?_
  refine jx_of (fun _ _ kz => jw_aload_n 0 d_M_init_28 rfl rfl kz) ?_
  refine jx_of (fun _ _ kz => jw_bipush 12 d_M_init_29 (by decide) kz) ?_
  refine jx_of (fun _ _ kz => jw_newIe (s := 33) (k := 12) 0 ac_int d_M_init_31 rfl rfl (by decide) (by decide) (by decide) (by simp [me_I_sI, me_I_sP, me_I_nx, me_P_sI, me_P_sP, me_P_nx, me_N_sI, me_N_sP, me_N_nx, me_L_sI, me_L_sP, me_L_nx, f0, f1, f2, f3, f4, f5, f6, f7, f8, f9, f10, f11, f12, f13, f14, f15, f16, f17, f18, f19, f20, f21, f22, f23, f24, f25]) kz) ?_
  refine jx_of (fun _ _ kz => jw_putP fl_M_19 (Or.inr ⟨rfl, rfl⟩) (fun z => by cases z <;> rfl) (fun z => by cases z <;> rfl) d_M_init_33 rfl rfl kz) ?_
  refine jx_of (fun _ _ kz => jw_aload_n 0 d_M_init_36 rfl rfl kz) ?_
  refine jx_of (fun _ _ kz => jw_bipush 12 d_M_init_37 (by decide) kz) ?_
  refine jx_of (fun _ _ kz => jw_newIe (s := 34) (k := 12) 0 ac_int d_M_init_39 rfl rfl (by decide) (by decide) (by decide) (by simp [me_I_sI, me_I_sP, me_I_nx, me_P_sI, me_P_sP, me_P_nx, me_N_sI, me_N_sP, me_N_nx, me_L_sI, me_L_sP, me_L_nx, f0, f1, f2, f3, f4, f5, f6, f7, f8, f9, f10, f11, f12, f13, f14, f15, f16, f17, f18, f19, f20, f21, f22, f23, f24, f25]) kz) ?_
  refine jx_of (fun _ _ kz => jw_putP fl_M_22 (Or.inr ⟨rfl, rfl⟩) (fun z => by cases z <;> rfl) (fun z => by cases z <;> rfl) d_M_init_41 rfl rfl kz) ?_
  refine jx_of (fun _ _ kz => jw_aload_n 0 d_M_init_44 rfl rfl kz) ?_
  refine jx_of (fun _ _ kz => jw_bipush 12 d_M_init_45 (by decide) kz) ?_
  refine jx_of (fun _ _ kz => jw_newIe (s := 35) (k := 12) 0 ac_int d_M_init_47 rfl rfl (by decide) (by decide) (by decide) (by simp [me_I_sI, me_I_sP, me_I_nx, me_P_sI, me_P_sP, me_P_nx, me_N_sI, me_N_sP, me_N_nx, me_L_sI, me_L_sP, me_L_nx, f0, f1, f2, f3, f4, f5, f6, f7, f8, f9, f10, f11, f12, f13, f14, f15, f16, f17, f18, f19, f20, f21, f22, f23, f24, f25]) kz) ?_
  refine jx_of (fun _ _ kz => jw_putP fl_M_25 (Or.inr ⟨rfl, rfl⟩) (fun z => by cases z <;> rfl) (fun z => by cases z <;> rfl) d_M_init_49 rfl rfl kz) ?_
  refine jx_of (fun _ _ kz => jw_aload_n 0 d_M_init_52 rfl rfl kz) ?_
  refine jx_of (fun _ _ kz => jw_bipush 12 d_M_init_53 (by decide) kz) ?_
  refine jx_of (fun _ _ kz => jw_newIe (s := 36) (k := 12) 0 ac_int d_M_init_55 rfl rfl (by decide) (by decide) (by decide) (by simp [me_I_sI, me_I_sP, me_I_nx, me_P_sI, me_P_sP, me_P_nx, me_N_sI, me_N_sP, me_N_nx, me_L_sI, me_L_sP, me_L_nx, f0, f1, f2, f3, f4, f5, f6, f7, f8, f9, f10, f11, f12, f13, f14, f15, f16, f17, f18, f19, f20, f21, f22, f23, f24, f25]) kz) ?_
  refine jx_of (fun _ _ kz => jw_putP fl_M_28 (Or.inr ⟨rfl, rfl⟩) (fun z => by cases z <;> rfl) (fun z => by cases z <;> rfl) d_M_init_57 rfl rfl kz) ?_
  refine jx_of (fun _ _ kz => jw_aload_n 0 d_M_init_60 rfl rfl kz) ?_
  refine jx_of (fun _ _ kz => jw_bipush 12 d_M_init_61 (by decide) kz) ?_
  refine jx_of (fun _ _ kz => jw_newIe (s := 37) (k := 12) 0 ac_int d_M_init_63 rfl rfl (by decide) (by decide) (by decide) (by simp [me_I_sI, me_I_sP, me_I_nx, me_P_sI, me_P_sP, me_P_nx, me_N_sI, me_N_sP, me_N_nx, me_L_sI, me_L_sP, me_L_nx, f0, f1, f2, f3, f4, f5, f6, f7, f8, f9, f10, f11, f12, f13, f14, f15, f16, f17, f18, f19, f20, f21, f22, f23, f24, f25]) kz) ?_
  refine jx_of (fun _ _ kz => jw_putP fl_M_31 (Or.inr ⟨rfl, rfl⟩) (fun z => by cases z <;> rfl) (fun z => by cases z <;> rfl) d_M_init_65 rfl rfl kz) ?_
  refine jx_of (fun _ _ kz => jw_aload_n 0 d_M_init_68 rfl rfl kz) ?_
  refine jx_of (fun _ _ kz => jw_bipush 12 d_M_init_69 (by decide) kz) ?_
  refine jx_of (fun _ _ kz => jw_newIe (s := 38) (k := 12) 0 ac_int d_M_init_71 rfl rfl (by decide) (by decide) (by decide) (by simp [me_I_sI, me_I_sP, me_I_nx, me_P_sI, me_P_sP, me_P_nx, me_N_sI, me_N_sP, me_N_nx, me_L_sI, me_L_sP, me_L_nx, f0, f1, f2, f3, f4, f5, f6, f7, f8, f9, f10, f11, f12, f13, f14, f15, f16, f17, f18, f19, f20, f21, f22, f23, f24, f25]) kz) ?_
  refine jx_of (fun _ _ kz => jw_putP fl_M_34 (Or.inr ⟨rfl, rfl⟩) (fun z => by cases z <;> rfl) (fun z => by cases z <;> rfl) d_M_init_73 rfl rfl kz) ?_
  refine jx_of (fun _ _ kz => jw_aload_n 0 d_M_init_76 rfl rfl kz) ?_
  refine jx_of (fun _ _ kz => jw_bipush 12 d_M_init_77 (by decide) kz) ?_
  refine jx_of (fun _ _ kz => jw_newZe (s := 39) (k := 12) 0 ac_bool d_M_init_79 rfl rfl (by decide) (by decide) (by decide) (by simp [me_I_sI, me_I_sP, me_I_nx, me_P_sI, me_P_sP, me_P_nx, me_N_sI, me_N_sP, me_N_nx, me_L_sI, me_L_sP, me_L_nx, f0, f1, f2, f3, f4, f5, f6, f7, f8, f9, f10, f11, f12, f13, f14, f15, f16, f17, f18, f19, f20, f21, f22, f23, f24, f25]) kz) ?_
  refine jx_of (fun _ _ kz => jw_putP fl_M_37 (Or.inr ⟨rfl, rfl⟩) (fun z => by cases z <;> rfl) (fun z => by cases z <;> rfl) d_M_init_81 rfl rfl kz) ?_
  refine jx_of (fun _ _ kz => jw_aload_n 0 d_M_init_84 rfl rfl kz) ?_
  refine jx_of (fun _ _ kz => jw_sipush 144 d_M_init_85 (by decide) kz) ?_
  refine jx_of (fun _ _ kz => jw_newIe (s := 40) (k := 144) 0 ac_int d_M_init_88 rfl rfl (by decide) (by decide) (by decide) (by simp [me_I_sI, me_I_sP, me_I_nx, me_P_sI, me_P_sP, me_P_nx, me_N_sI, me_N_sP, me_N_nx, me_L_sI, me_L_sP, me_L_nx, f0, f1, f2, f3, f4, f5, f6, f7, f8, f9, f10, f11, f12, f13, f14, f15, f16, f17, f18, f19, f20, f21, f22, f23, f24, f25]) kz) ?_
  refine jx_of (fun _ _ kz => jw_putP fl_M_41 (Or.inr ⟨rfl, rfl⟩) (fun z => by cases z <;> rfl) (fun z => by cases z <;> rfl) d_M_init_90 rfl rfl kz) ?_
  refine jx_of (fun _ _ kz => jw_aload_n 0 d_M_init_93 rfl rfl kz) ?_
  refine jx_of (fun _ _ kz => jw_sipush 144 d_M_init_94 (by decide) kz) ?_
  refine jx_of (fun _ _ kz => jw_newIe (s := 41) (k := 144) 0 ac_int d_M_init_97 rfl rfl (by decide) (by decide) (by decide) (by simp [me_I_sI, me_I_sP, me_I_nx, me_P_sI, me_P_sP, me_P_nx, me_N_sI, me_N_sP, me_N_nx, me_L_sI, me_L_sP, me_L_nx, f0, f1, f2, f3, f4, f5, f6, f7, f8, f9, f10, f11, f12, f13, f14, f15, f16, f17, f18, f19, f20, f21, f22, f23, f24, f25]) kz) ?_
  refine jx_of (fun _ _ kz => jw_putP fl_M_44 (Or.inr ⟨rfl, rfl⟩) (fun z => by cases z <;> rfl) (fun z => by cases z <;> rfl) d_M_init_99 rfl rfl kz) ?_
  refine jx_of (fun _ _ kz => jw_aload_n 0 d_M_init_102 rfl rfl kz) ?_
  refine jx_of (fun _ _ kz => jw_sipush 144 d_M_init_103 (by decide) kz) ?_
  refine jx_of (fun _ _ kz => jw_newIe (s := 42) (k := 144) 0 ac_int d_M_init_106 rfl rfl (by decide) (by decide) (by decide) (by simp [me_I_sI, me_I_sP, me_I_nx, me_P_sI, me_P_sP, me_P_nx, me_N_sI, me_N_sP, me_N_nx, me_L_sI, me_L_sP, me_L_nx, f0, f1, f2, f3, f4, f5, f6, f7, f8, f9, f10, f11, f12, f13, f14, f15, f16, f17, f18, f19, f20, f21, f22, f23, f24, f25]) kz) ?_
  refine jx_of (fun _ _ kz => jw_putP fl_M_47 (Or.inr ⟨rfl, rfl⟩) (fun z => by cases z <;> rfl) (fun z => by cases z <;> rfl) d_M_init_108 rfl rfl kz) ?_
  refine jx_of (fun _ _ kz => jw_aload_n 0 d_M_init_111 rfl rfl kz) ?_
  refine jx_of (fun _ _ kz => jw_sipush 144 d_M_init_112 (by decide) kz) ?_
  refine jx_of (fun _ _ kz => jw_newIe (s := 43) (k := 144) 0 ac_int d_M_init_115 rfl rfl (by decide) (by decide) (by decide) (by simp [me_I_sI, me_I_sP, me_I_nx, me_P_sI, me_P_sP, me_P_nx, me_N_sI, me_N_sP, me_N_nx, me_L_sI, me_L_sP, me_L_nx, f0, f1, f2, f3, f4, f5, f6, f7, f8, f9, f10, f11, f12, f13, f14, f15, f16, f17, f18, f19, f20, f21, f22, f23, f24, f25]) kz) ?_
  refine jx_of (fun _ _ kz => jw_putP fl_M_50 (Or.inr ⟨rfl, rfl⟩) (fun z => by cases z <;> rfl) (fun z => by cases z <;> rfl) d_M_init_117 rfl rfl kz) ?_
  refine jx_of (fun _ _ kz => jw_aload_n 0 d_M_init_120 rfl rfl kz) ?_
  refine jx_of (fun _ _ kz => jw_sipush 144 d_M_init_121 (by decide) kz) ?_
  refine jx_of (fun _ _ kz => jw_newZe (s := 44) (k := 144) 0 ac_bool d_M_init_124 rfl rfl (by decide) (by decide) (by decide) (by simp [me_I_sI, me_I_sP, me_I_nx, me_P_sI, me_P_sP, me_P_nx, me_N_sI, me_N_sP, me_N_nx, me_L_sI, me_L_sP, me_L_nx, f0, f1, f2, f3, f4, f5, f6, f7, f8, f9, f10, f11, f12, f13, f14, f15, f16, f17, f18, f19, f20, f21, f22, f23, f24, f25]) kz) ?_
  refine jx_of (fun _ _ kz => jw_putP fl_M_53 (Or.inr ⟨rfl, rfl⟩) (fun z => by cases z <;> rfl) (fun z => by cases z <;> rfl) d_M_init_126 rfl rfl kz) ?_
  refine jx_of (fun _ _ kz => jw_aload_n 0 d_M_init_129 rfl rfl kz) ?_
  refine jx_of (fun _ _ kz => jw_sipush 144 d_M_init_130 (by decide) kz) ?_
  refine jx_of (fun _ _ kz => jw_newZe (s := 45) (k := 144) 0 ac_bool d_M_init_133 rfl rfl (by decide) (by decide) (by decide) (by simp [me_I_sI, me_I_sP, me_I_nx, me_P_sI, me_P_sP, me_P_nx, me_N_sI, me_N_sP, me_N_nx, me_L_sI, me_L_sP, me_L_nx, f0, f1, f2, f3, f4, f5, f6, f7, f8, f9, f10, f11, f12, f13, f14, f15, f16, f17, f18, f19, f20, f21, f22, f23, f24, f25]) kz) ?_
  refine jx_of (fun _ _ kz => jw_putP fl_M_56 (Or.inr ⟨rfl, rfl⟩) (fun z => by cases z <;> rfl) (fun z => by cases z <;> rfl) d_M_init_135 rfl rfl kz) ?_
  refine jx_of (fun _ _ kz => jw_aload_n 0 d_M_init_138 rfl rfl kz) ?_
  refine jx_of (fun _ _ kz => jw_bipush 13 d_M_init_139 (by decide) kz) ?_
  refine jx_of (fun _ _ kz => jw_newIe (s := 46) (k := 13) 0 ac_int d_M_init_141 rfl rfl (by decide) (by decide) (by decide) (by simp [me_I_sI, me_I_sP, me_I_nx, me_P_sI, me_P_sP, me_P_nx, me_N_sI, me_N_sP, me_N_nx, me_L_sI, me_L_sP, me_L_nx, f0, f1, f2, f3, f4, f5, f6, f7, f8, f9, f10, f11, f12, f13, f14, f15, f16, f17, f18, f19, f20, f21, f22, f23, f24, f25]) kz) ?_
  refine jx_of (fun _ _ kz => jw_putP fl_M_59 (Or.inr ⟨rfl, rfl⟩) (fun z => by cases z <;> rfl) (fun z => by cases z <;> rfl) d_M_init_143 rfl rfl kz) ?_
  refine jx_of (fun _ _ kz => jw_aload_n 0 d_M_init_146 rfl rfl kz) ?_
  refine jx_of (fun _ _ kz => jw_bipush 13 d_M_init_147 (by decide) kz) ?_
  refine jx_of (fun _ _ kz => jw_newIe (s := 47) (k := 13) 0 ac_int d_M_init_149 rfl rfl (by decide) (by decide) (by decide) (by simp [me_I_sI, me_I_sP, me_I_nx, me_P_sI, me_P_sP, me_P_nx, me_N_sI, me_N_sP, me_N_nx, me_L_sI, me_L_sP, me_L_nx, f0, f1, f2, f3, f4, f5, f6, f7, f8, f9, f10, f11, f12, f13, f14, f15, f16, f17, f18, f19, f20, f21, f22, f23, f24, f25]) kz) ?_
  refine jx_of (fun _ _ kz => jw_putP fl_M_62 (Or.inr ⟨rfl, rfl⟩) (fun z => by cases z <;> rfl) (fun z => by cases z <;> rfl) d_M_init_151 rfl rfl kz) ?_
  refine jx_of (fun _ _ kz => jw_aload_n 0 d_M_init_154 rfl rfl kz) ?_
  refine jx_of (fun _ _ kz => jw_iconst 3 d_M_init_155 (by decide) kz) ?_
  refine jx_of (fun _ _ kz => jw_newIe (s := 48) (k := 3) 0 ac_int d_M_init_156 rfl rfl (by decide) (by decide) (by decide) (by simp [me_I_sI, me_I_sP, me_I_nx, me_P_sI, me_P_sP, me_P_nx, me_N_sI, me_N_sP, me_N_nx, me_L_sI, me_L_sP, me_L_nx, f0, f1, f2, f3, f4, f5, f6, f7, f8, f9, f10, f11, f12, f13, f14, f15, f16, f17, f18, f19, f20, f21, f22, f23, f24, f25]) kz) ?_
  refine jx_of (fun _ _ kz => jw_dup d_M_init_158 kz) ?_
  refine jx_of (fun _ _ kz => jw_iconst 0 d_M_init_159 (by decide) kz) ?_
  refine jx_of (fun _ _ kz => jw_iconst (-1) d_M_init_160 (by decide) kz) ?_
  refine jx_of (fun _ _ kz => jw_iast d_M_init_161 rfl rfl (by rw [show me_L _ 48 0 = 3 from (by simp [me_I_sI, me_I_sP, me_I_nx, me_P_sI, me_P_sP, me_P_nx, me_N_sI, me_N_sP, me_N_nx, me_L_sI, me_L_sP, me_L_nx, f0, f1, f2, f3, f4, f5, f6, f7, f8, f9, f10, f11, f12, f13, f14, f15, f16, f17, f18, f19, f20, f21, f22, f23, f24, f25])]; unfold vp_in; decide) kz) ?_
  rw [show Int32.toNatClampNeg 0 = 0 from by decide]
  refine jx_of (fun _ _ kz => jw_dup d_M_init_162 kz) ?_
  refine jx_of (fun _ _ kz => jw_iconst 1 d_M_init_163 (by decide) kz) ?_
  refine jx_of (fun _ _ kz => jw_iconst (-1) d_M_init_164 (by decide) kz) ?_
  refine jx_of (fun _ _ kz => jw_iast d_M_init_165 rfl rfl (by rw [show me_L _ 48 0 = 3 from (by simp [me_I_sI, me_I_sP, me_I_nx, me_P_sI, me_P_sP, me_P_nx, me_N_sI, me_N_sP, me_N_nx, me_L_sI, me_L_sP, me_L_nx, f0, f1, f2, f3, f4, f5, f6, f7, f8, f9, f10, f11, f12, f13, f14, f15, f16, f17, f18, f19, f20, f21, f22, f23, f24, f25])]; unfold vp_in; decide) kz) ?_
  rw [show Int32.toNatClampNeg 1 = 1 from by decide]
  refine jx_of (fun _ _ kz => jw_dup d_M_init_166 kz) ?_
  refine jx_of (fun _ _ kz => jw_iconst 2 d_M_init_167 (by decide) kz) ?_
  refine jx_of (fun _ _ kz => jw_iconst (-1) d_M_init_168 (by decide) kz) ?_
  refine jx_of (fun _ _ kz => jw_iast d_M_init_169 rfl rfl (by rw [show me_L _ 48 0 = 3 from (by simp [me_I_sI, me_I_sP, me_I_nx, me_P_sI, me_P_sP, me_P_nx, me_N_sI, me_N_sP, me_N_nx, me_L_sI, me_L_sP, me_L_nx, f0, f1, f2, f3, f4, f5, f6, f7, f8, f9, f10, f11, f12, f13, f14, f15, f16, f17, f18, f19, f20, f21, f22, f23, f24, f25])]; unfold vp_in; decide) kz) ?_
  rw [show Int32.toNatClampNeg 2 = 2 from by decide]
  refine jx_of (fun _ _ kz => jw_putP fl_M_65 (Or.inr ⟨rfl, rfl⟩) (fun z => by cases z <;> rfl) (fun z => by cases z <;> rfl) d_M_init_170 rfl rfl kz) ?_
  refine jx_of (fun _ _ kz => jw_aload_n 0 d_M_init_173 rfl rfl kz) ?_
  refine jx_of (fun _ _ kz => jw_iconst 3 d_M_init_174 (by decide) kz) ?_
  refine jx_of (fun _ _ kz => jw_newIe (s := 49) (k := 3) 0 ac_int d_M_init_175 rfl rfl (by decide) (by decide) (by decide) (by simp [me_I_sI, me_I_sP, me_I_nx, me_P_sI, me_P_sP, me_P_nx, me_N_sI, me_N_sP, me_N_nx, me_L_sI, me_L_sP, me_L_nx, f0, f1, f2, f3, f4, f5, f6, f7, f8, f9, f10, f11, f12, f13, f14, f15, f16, f17, f18, f19, f20, f21, f22, f23, f24, f25]) kz) ?_
  refine jx_of (fun _ _ kz => jw_putP fl_M_68 (Or.inr ⟨rfl, rfl⟩) (fun z => by cases z <;> rfl) (fun z => by cases z <;> rfl) d_M_init_177 rfl rfl kz) ?_
  refine jx_of (fun _ _ kz => jw_aload_n 0 d_M_init_180 rfl rfl kz) ?_
  refine jx_of (fun _ _ kz => jw_iconst 3 d_M_init_181 (by decide) kz) ?_
  refine jx_of (fun _ _ kz => jw_newIe (s := 50) (k := 3) 0 ac_int d_M_init_182 rfl rfl (by decide) (by decide) (by decide) (by simp [me_I_sI, me_I_sP, me_I_nx, me_P_sI, me_P_sP, me_P_nx, me_N_sI, me_N_sP, me_N_nx, me_L_sI, me_L_sP, me_L_nx, f0, f1, f2, f3, f4, f5, f6, f7, f8, f9, f10, f11, f12, f13, f14, f15, f16, f17, f18, f19, f20, f21, f22, f23, f24, f25]) kz) ?_
  refine jx_of (fun _ _ kz => jw_putP fl_M_71 (Or.inr ⟨rfl, rfl⟩) (fun z => by cases z <;> rfl) (fun z => by cases z <;> rfl) d_M_init_184 rfl rfl kz) ?_
  refine jx_of (fun _ _ kz => jw_aload_n 0 d_M_init_187 rfl rfl kz) ?_
  refine jx_of (fun _ _ kz => jw_bipush 12 d_M_init_188 (by decide) kz) ?_
  refine jx_of (fun _ _ kz => jw_newIe (s := 51) (k := 12) 0 ac_int d_M_init_190 rfl rfl (by decide) (by decide) (by decide) (by simp [me_I_sI, me_I_sP, me_I_nx, me_P_sI, me_P_sP, me_P_nx, me_N_sI, me_N_sP, me_N_nx, me_L_sI, me_L_sP, me_L_nx, f0, f1, f2, f3, f4, f5, f6, f7, f8, f9, f10, f11, f12, f13, f14, f15, f16, f17, f18, f19, f20, f21, f22, f23, f24, f25]) kz) ?_
  refine jx_of (fun _ _ kz => jw_putP fl_M_74 (Or.inr ⟨rfl, rfl⟩) (fun z => by cases z <;> rfl) (fun z => by cases z <;> rfl) d_M_init_192 rfl rfl kz) ?_
  refine jx_of (fun _ _ kz => jw_aload_n 0 d_M_init_195 rfl rfl kz) ?_
  refine jx_of (fun _ _ kz => jw_iconst 3 d_M_init_196 (by decide) kz) ?_
  refine jx_of (fun _ _ kz => jw_newIe (s := 52) (k := 3) 0 ac_int d_M_init_197 rfl rfl (by decide) (by decide) (by decide) (by simp [me_I_sI, me_I_sP, me_I_nx, me_P_sI, me_P_sP, me_P_nx, me_N_sI, me_N_sP, me_N_nx, me_L_sI, me_L_sP, me_L_nx, f0, f1, f2, f3, f4, f5, f6, f7, f8, f9, f10, f11, f12, f13, f14, f15, f16, f17, f18, f19, f20, f21, f22, f23, f24, f25]) kz) ?_
  refine jx_of (fun _ _ kz => jw_putP fl_M_77 (Or.inr ⟨rfl, rfl⟩) (fun z => by cases z <;> rfl) (fun z => by cases z <;> rfl) d_M_init_199 rfl rfl kz) ?_
  refine jx_of (fun _ _ kz => jw_aload_n 0 d_M_init_202 rfl rfl kz) ?_
  refine jx_of (fun _ _ kz => jw_bipush 12 d_M_init_203 (by decide) kz) ?_
  refine jx_of (fun _ _ kz => jw_newIe (s := 53) (k := 12) 0 ac_int d_M_init_205 rfl rfl (by decide) (by decide) (by decide) (by simp [me_I_sI, me_I_sP, me_I_nx, me_P_sI, me_P_sP, me_P_nx, me_N_sI, me_N_sP, me_N_nx, me_L_sI, me_L_sP, me_L_nx, f0, f1, f2, f3, f4, f5, f6, f7, f8, f9, f10, f11, f12, f13, f14, f15, f16, f17, f18, f19, f20, f21, f22, f23, f24, f25]) kz) ?_
  refine jx_of (fun _ _ kz => jw_putP fl_M_80 (Or.inr ⟨rfl, rfl⟩) (fun z => by cases z <;> rfl) (fun z => by cases z <;> rfl) d_M_init_207 rfl rfl kz) ?_
  refine jx_of (fun _ _ kz => jw_aload_n 0 d_M_init_210 rfl rfl kz) ?_
  refine jx_of (fun _ _ kz => jw_iconst 2 d_M_init_211 (by decide) kz) ?_
  refine jx_of (fun _ _ kz => jw_newIe (s := 54) (k := 2) 0 ac_int d_M_init_212 rfl rfl (by decide) (by decide) (by decide) (by simp [me_I_sI, me_I_sP, me_I_nx, me_P_sI, me_P_sP, me_P_nx, me_N_sI, me_N_sP, me_N_nx, me_L_sI, me_L_sP, me_L_nx, f0, f1, f2, f3, f4, f5, f6, f7, f8, f9, f10, f11, f12, f13, f14, f15, f16, f17, f18, f19, f20, f21, f22, f23, f24, f25]) kz) ?_
  refine jx_of (fun _ _ kz => jw_dup d_M_init_214 kz) ?_
  refine jx_of (fun _ _ kz => jw_iconst 0 d_M_init_215 (by decide) kz) ?_
  refine jx_of (fun _ _ kz => jw_iconst 1 d_M_init_216 (by decide) kz) ?_
  refine jx_of (fun _ _ kz => jw_iast d_M_init_217 rfl rfl (by rw [show me_L _ 54 0 = 2 from (by simp [me_I_sI, me_I_sP, me_I_nx, me_P_sI, me_P_sP, me_P_nx, me_N_sI, me_N_sP, me_N_nx, me_L_sI, me_L_sP, me_L_nx, f0, f1, f2, f3, f4, f5, f6, f7, f8, f9, f10, f11, f12, f13, f14, f15, f16, f17, f18, f19, f20, f21, f22, f23, f24, f25])]; unfold vp_in; decide) kz) ?_
  rw [show Int32.toNatClampNeg 0 = 0 from by decide]
  refine jx_of (fun _ _ kz => jw_dup d_M_init_218 kz) ?_
  refine jx_of (fun _ _ kz => jw_iconst 1 d_M_init_219 (by decide) kz) ?_
  refine jx_of (fun _ _ kz => jw_iconst 1 d_M_init_220 (by decide) kz) ?_
  refine jx_of (fun _ _ kz => jw_iast d_M_init_221 rfl rfl (by rw [show me_L _ 54 0 = 2 from (by simp [me_I_sI, me_I_sP, me_I_nx, me_P_sI, me_P_sP, me_P_nx, me_N_sI, me_N_sP, me_N_nx, me_L_sI, me_L_sP, me_L_nx, f0, f1, f2, f3, f4, f5, f6, f7, f8, f9, f10, f11, f12, f13, f14, f15, f16, f17, f18, f19, f20, f21, f22, f23, f24, f25])]; unfold vp_in; decide) kz) ?_
  rw [show Int32.toNatClampNeg 1 = 1 from by decide]
  refine jx_of (fun _ _ kz => jw_putP fl_M_83 (Or.inr ⟨rfl, rfl⟩) (fun z => by cases z <;> rfl) (fun z => by cases z <;> rfl) d_M_init_222 rfl rfl kz) ?_
  refine jx_of (fun _ _ kz => jw_aload_n 0 d_M_init_225 rfl rfl kz) ?_
  refine jx_of (fun _ _ kz => jw_iconst 2 d_M_init_226 (by decide) kz) ?_
  refine jx_of (fun _ _ kz => jw_newZe (s := 55) (k := 2) 0 ac_bool d_M_init_227 rfl rfl (by decide) (by decide) (by decide) (by simp [me_I_sI, me_I_sP, me_I_nx, me_P_sI, me_P_sP, me_P_nx, me_N_sI, me_N_sP, me_N_nx, me_L_sI, me_L_sP, me_L_nx, f0, f1, f2, f3, f4, f5, f6, f7, f8, f9, f10, f11, f12, f13, f14, f15, f16, f17, f18, f19, f20, f21, f22, f23, f24, f25]) kz) ?_
  refine jx_of (fun _ _ kz => jw_putP fl_M_86 (Or.inr ⟨rfl, rfl⟩) (fun z => by cases z <;> rfl) (fun z => by cases z <;> rfl) d_M_init_229 rfl rfl kz) ?_
  refine jx_of (fun _ _ kz => jw_aload_n 0 d_M_init_232 rfl rfl kz) ?_
  refine jx_of (fun _ _ kz => jw_iconst (-1) d_M_init_233 (by decide) kz) ?_
  refine jx_of (fun _ _ kz => jw_putI fl_M_89 (Or.inr ⟨rfl, rfl⟩) rfl rfl d_M_init_234 rfl rfl kz) ?_
  refine jx_vret d_M_init_237 rfl ?_
  exact ⟨rfl, rfl⟩
end
section
def cq_P : List (Nat × Nat × Nat × Nat × Nat) := [(0, 0, 0, 1, 0), (0, 0, 1, 17, 0), (0, 0, 3, 18, 0), (0, 0, 5, 19, 0), (0, 0, 6, 4, 3), (0, 0, 7, 4, 4), (0, 0, 8, 20, 0), (0, 0, 9, 21, 0), (19, 0, 0, 3, 0), (3, 0, 1, 4, 0), (19, 0, 1, 3, 1), (3, 1, 1, 4, 1), (19, 0, 2, 3, 2), (3, 2, 1, 4, 2), (20, 0, 0, 5, 0), (21, 0, 0, 6, 0), (5, 0, 0, 4, 5), (6, 0, 0, 4, 7), (20, 0, 1, 5, 1), (21, 0, 1, 6, 1), (5, 1, 0, 4, 6), (6, 1, 0, 4, 8), (4, 0, 0, 10, 0), (4, 1, 0, 10, 1), (4, 2, 0, 10, 2), (4, 3, 0, 10, 3), (4, 4, 0, 10, 4), (4, 5, 0, 10, 5), (4, 6, 0, 10, 6), (4, 7, 0, 10, 7), (4, 8, 0, 10, 8), (1, 0, 0, 11, 0), (1, 0, 1, 12, 0), (1, 0, 2, 13, 0)]
def cq_L : List (Nat × Nat × Nat) := [(17, 0, 6), (18, 0, 12), (19, 0, 3), (20, 0, 2), (21, 0, 2), (11, 0, 12), (12, 0, 12), (13, 0, 12), (10, 0, 4), (10, 1, 4), (10, 2, 4), (10, 3, 12), (10, 4, 12), (10, 5, 144), (10, 6, 144), (10, 7, 144), (10, 8, 144)]
def cq_I : List (Nat × Nat × Nat × Int32) := [(0, 0, 2, 0), (0, 0, 4, 0), (0, 0, 10, 0), (0, 0, 11, 0), (0, 0, 12, 0), (0, 0, 13, 0), (3, 0, 0, 0), (3, 0, 2, (-1)), (3, 0, 3, 0), (3, 0, 4, 0), (3, 1, 0, 1), (3, 1, 2, (-1)), (3, 1, 3, 0), (3, 1, 4, 0), (3, 2, 0, 2), (3, 2, 2, (-1)), (3, 2, 3, 0), (3, 2, 4, 0), (4, 0, 1, 0), (4, 1, 1, 0), (4, 2, 1, 0), (4, 3, 1, 0), (4, 4, 1, 0), (4, 5, 1, 0), (4, 6, 1, 0), (4, 7, 1, 0), (4, 8, 1, 0), (5, 0, 1, 1), (6, 0, 1, 0), (5, 1, 1, 1), (6, 1, 1, 0), (1, 0, 3, 0)]
def cfr (M : Me) : Prop := (∀ q ∈ cq_P, me_P M q.1 q.2.1 q.2.2.1 = some (q.2.2.2.1, q.2.2.2.2)) ∧ (∀ q ∈ cq_L, me_L M q.1 q.2.1 = q.2.2) ∧ (∀ q ∈ cq_I, me_I M q.1 q.2.1 q.2.2.1 = q.2.2.2)
set_option maxRecDepth 20000 in
set_option maxHeartbeats 4000000 in
theorem x_R_isEmpty {G : Gt} {M : Me} (d : Nat) (i : Nat) (f0 : me_I M 4 i 1 = 0) : sx G yt_R_isEmpty yn_R_isEmpty (d + 1) [.inr (some (4, i))] M (fun r M' => r = some (.inl 1) ∧ M' = M) := by
  refine sx_of (k := 0) (lc := [some (.inr (some (4, i)))]) mt_R_isEmpty (Nat.le_of_ble_eq_true rfl) rfl ?_
  refine jx_of (fun _ _ kz => jw_aload_n 0 d_R_isEmpty_0 rfl rfl kz) ?_
  refine jx_of (fun _ _ kz => jw_getIe (0) fl_R_9 d_R_isEmpty_1 rfl rfl (by simp [me_I_sI, me_I_sP, me_I_nx, me_P_sI, me_P_sP, me_P_nx, me_N_sI, me_N_sP, me_N_nx, me_L_sI, me_L_sP, me_L_nx, f0]) kz) ?_
  refine jx_if_ne 11 d_R_isEmpty_4 (by decide) (fun h => absurd h (by decide)) (fun _ => ?_)
  refine jx_of (fun _ _ kz => jw_iconst 1 d_R_isEmpty_7 (by decide) kz) ?_
  refine jx_of (fun _ _ kz => jw_goto 12 d_R_isEmpty_8 (by decide) kz) ?_
  refine jx_zret d_R_isEmpty_12 rfl (by decide) ?_
  exact ⟨rfl, rfl⟩
set_option maxRecDepth 20000 in
set_option maxHeartbeats 4000000 in
theorem x_R_at {G : Gt} {M : Me} (d : Nat) (i : Nat) (x : Int32) (f0 : me_I M 4 i 1 = 0) : sx G yt_R_at yn_R_at (d + 1) [.inr (some (4, i)), .inl x] M (fun r M' => r = some (.inl ((-1))) ∧ M' = M) := by
  refine sx_of (k := 0) (lc := [some (.inr (some (4, i))), some (.inl x)]) mt_R_at (Nat.le_of_ble_eq_true rfl) rfl ?_
  refine jx_of (fun _ _ kz => jw_iload_n 1 d_R_at_0 rfl rfl kz) ?_
  refine jx_if_lt 12 d_R_at_1 (by decide) (fun b_1 => ?_) (fun b_1 => ?_)
  · skip
    refine jx_of (fun _ _ kz => jw_iconst (-1) d_R_at_12 (by decide) kz) ?_
    refine jx_of (fun _ _ kz => jw_goto 22 d_R_at_13 (by decide) kz) ?_
    refine jx_iret d_R_at_22 rfl ?_
    first | exact ⟨rfl, rfl⟩ | exact ⟨by simp [b_1], rfl⟩ | exact ⟨by simp_all, by simp_all⟩
  · skip
    refine jx_of (fun _ _ kz => jw_iload_n 1 d_R_at_4 rfl rfl kz) ?_
    refine jx_of (fun _ _ kz => jw_aload_n 0 d_R_at_5 rfl rfl kz) ?_
    refine jx_of (fun _ _ kz => jw_getIe (0) fl_R_9 d_R_at_6 rfl rfl (by simp [me_I_sI, me_I_sP, me_I_nx, me_P_sI, me_P_sP, me_P_nx, me_N_sI, me_N_sP, me_N_nx, me_L_sI, me_L_sP, me_L_nx, f0]) kz) ?_
    refine jx_icmp_lt 16 d_R_at_9 (by decide) (fun h => absurd h b_1) (fun _ => ?_)
    refine jx_of (fun _ _ kz => jw_iconst (-1) d_R_at_12 (by decide) kz) ?_
    refine jx_of (fun _ _ kz => jw_goto 22 d_R_at_13 (by decide) kz) ?_
    refine jx_iret d_R_at_22 rfl ?_
    first | exact ⟨rfl, rfl⟩ | exact ⟨by simp [b_1], rfl⟩ | exact ⟨by simp_all, by simp_all⟩
set_option maxRecDepth 20000 in
set_option maxHeartbeats 4000000 in
theorem x_Y_clear {G : Gt} {M : Me} (d : Nat) (hm : cfr M) : sx G yt_Y_clear yn_Y_clear (d + 1) [.inr (some (0, 0))] M (fun r M' => r = some (.inl 0) ∧ M' = (me_sI M 1 0 3 (0))) := by
  refine sx_of (k := 1) (lc := [some (.inr (some (0, 0))), none]) mt_Y_clear (Nat.le_of_ble_eq_true rfl) rfl ?_
  refine jx_of (fun _ _ kz => jw_aload_n 0 d_Y_clear_0 rfl rfl kz) ?_
  refine jx_of (fun _ _ kz => jw_getPe (some (1, 0)) fl_Y_10 d_Y_clear_1 rfl rfl (by simp [me_I_sI, me_I_sP, me_I_nx, me_P_sI, me_P_sP, me_P_nx, me_N_sI, me_N_sP, me_N_nx, me_L_sI, me_L_sP, me_L_nx, show me_P M 0 0 0 = some (1, 0) from hm.1 (0, 0, 0, 1, 0) (by decide)]) kz) ?_
  refine jx_of (fun _ _ kz => jw_getIe (0) fl_Y_89 d_Y_clear_4 rfl rfl (by simp [me_I_sI, me_I_sP, me_I_nx, me_P_sI, me_P_sP, me_P_nx, me_N_sI, me_N_sP, me_N_nx, me_L_sI, me_L_sP, me_L_nx, show me_I M 1 0 3 = 0 from hm.2.2 (1, 0, 3, 0) (by decide)]) kz) ?_
  refine jx_of (fun _ _ kz => jw_istore_n 1 d_Y_clear_7 rfl (Nat.le_of_ble_eq_true rfl) kz) ?_
  dsimp only [List.set]
  refine jx_of (fun _ _ kz => jw_aload_n 0 d_Y_clear_8 rfl rfl kz) ?_
  refine jx_of (fun _ _ kz => jw_getPe (some (1, 0)) fl_Y_10 d_Y_clear_9 rfl rfl (by simp [me_I_sI, me_I_sP, me_I_nx, me_P_sI, me_P_sP, me_P_nx, me_N_sI, me_N_sP, me_N_nx, me_L_sI, me_L_sP, me_L_nx, show me_P M 0 0 0 = some (1, 0) from hm.1 (0, 0, 0, 1, 0) (by decide)]) kz) ?_
  refine jx_of (fun _ _ kz => jw_iconst 0 d_Y_clear_12 (by decide) kz) ?_
  refine jx_of (fun _ _ kz => jw_putI fl_Y_89 (Or.inl rfl) rfl rfl d_Y_clear_13 rfl rfl kz) ?_
  refine jx_of (fun _ _ kz => jw_iload_n 1 d_Y_clear_16 rfl rfl kz) ?_
  refine jx_iret d_Y_clear_17 rfl ?_
  exact ⟨rfl, rfl⟩
set_option maxRecDepth 20000 in
set_option maxHeartbeats 4000000 in
theorem x_P_isOneFuture {G : Gt} {M : Me} (d : Nat) (i : Nat) (f0 : me_I M 1 i 3 = 0) : sx G yt_P_isOneFuture yn_P_isOneFuture (d + 1) [.inr (some (1, i))] M (fun r M' => r = some (.inl 0) ∧ M' = M) := by
  refine sx_of (k := 2) (lc := [some (.inr (some (1, i))), none, none]) mt_P_isOneFuture (Nat.le_of_ble_eq_true rfl) rfl ?_
  refine jx_of (fun _ _ kz => jw_iconst 1 d_P_isOneFuture_0 (by decide) kz) ?_
  refine jx_of (fun _ _ kz => jw_istore_n 1 d_P_isOneFuture_1 rfl (Nat.le_of_ble_eq_true rfl) kz) ?_
  dsimp only [List.set]
  refine jx_of (fun _ _ kz => jw_iconst 0 d_P_isOneFuture_2 (by decide) kz) ?_
  refine jx_of (fun _ _ kz => jw_istore_n 2 d_P_isOneFuture_3 rfl (Nat.le_of_ble_eq_true rfl) kz) ?_
  dsimp only [List.set]
  refine jx_of (fun _ _ kz => jw_iload_n 2 d_P_isOneFuture_4 rfl rfl kz) ?_
  refine jx_of (fun _ _ kz => jw_aload_n 0 d_P_isOneFuture_5 rfl rfl kz) ?_
  refine jx_of (fun _ _ kz => jw_getIe (0) fl_P_21 d_P_isOneFuture_6 rfl rfl (by simp [me_I_sI, me_I_sP, me_I_nx, me_P_sI, me_P_sP, me_P_nx, me_N_sI, me_N_sP, me_N_nx, me_L_sI, me_L_sP, me_L_nx, f0]) kz) ?_
  refine jx_icmp_ge 39 d_P_isOneFuture_9 (by decide) (fun _ => ?_) (fun h => absurd h (by decide))
  refine jx_of (fun _ _ kz => jw_iload_n 1 d_P_isOneFuture_39 rfl rfl kz) ?_
  refine jx_if_ne 47 d_P_isOneFuture_40 (by decide) (fun _ => ?_) (fun h => absurd h (by decide))
  refine jx_of (fun _ _ kz => jw_iconst 0 d_P_isOneFuture_47 (by decide) kz) ?_
  refine jx_zret d_P_isOneFuture_48 rfl (by decide) ?_
  exact ⟨rfl, rfl⟩
set_option maxRecDepth 20000 in
set_option maxHeartbeats 4000000 in
theorem x_Y_define {G : Gt} {M : Me} (d : Nat) (hm : cfr M) : sx G yt_Y_define yn_Y_define (d + 2) [.inr (some (0, 0))] M (fun r M' => r = some (.inl ((-1))) ∧ M' = M) := by
  refine sx_of (k := 0) (lc := [some (.inr (some (0, 0)))]) mt_Y_define (Nat.le_of_ble_eq_true rfl) rfl ?_
  refine jx_of (fun _ _ kz => jw_aload_n 0 d_Y_define_0 rfl rfl kz) ?_
  refine jx_of (fun _ _ kz => jw_getPe (some (1, 0)) fl_Y_10 d_Y_define_1 rfl rfl (by simp [me_I_sI, me_I_sP, me_I_nx, me_P_sI, me_P_sP, me_P_nx, me_N_sI, me_N_sP, me_N_nx, me_L_sI, me_L_sP, me_L_nx, show me_P M 0 0 0 = some (1, 0) from hm.1 (0, 0, 0, 1, 0) (by decide)]) kz) ?_
  refine jx_callV (x_P_isOneFuture _ 0 (by simp [me_I_sI, me_I_sP, me_I_nx, me_P_sI, me_P_sP, me_P_nx, me_N_sI, me_N_sP, me_N_nx, me_L_sI, me_L_sP, me_L_nx, show me_I M 1 0 3 = 0 from hm.2.2 (1, 0, 3, 0) (by decide)])) mt_P_isOneFuture cf_P rfl rfl ml_Y_92 im_P_isOneFuture se_P_isOneFuture d_Y_define_4 rfl rfl (Nat.le_of_ble_eq_true rfl) ?_
  rintro _ _ ⟨rfl, rfl⟩
  refine jx_eq (st2 := [.inl 0]) rfl rfl rfl ?_
  refine jx_if_ne 12 d_Y_define_7 (by decide) (fun h => absurd h (by decide)) (fun _ => ?_)
  refine jx_of (fun _ _ kz => jw_iconst (-1) d_Y_define_10 (by decide) kz) ?_
  refine jx_iret d_Y_define_11 rfl ?_
  exact ⟨rfl, rfl⟩
set_option maxRecDepth 20000 in
set_option maxHeartbeats 4000000 in
theorem x_Y_spawn {G : Gt} {M : Me} (d : Nat) (x : Int32) (hm : cfr M) : sx G yt_Y_spawn yn_Y_spawn (d + 1) [.inr (some (0, 0)), .inl x] M (fun r M' => r = some (.inl ((-1))) ∧ M' = M) := by
  refine sx_of (k := 1) (lc := [some (.inr (some (0, 0))), some (.inl x), none]) mt_Y_spawn (Nat.le_of_ble_eq_true rfl) rfl ?_
  refine jx_of (fun _ _ kz => jw_iload_n 1 d_Y_spawn_0 rfl rfl kz) ?_
  refine jx_if_lt 12 d_Y_spawn_1 (by decide) (fun b_1 => ?_) (fun b_1 => ?_)
  · skip
    refine jx_of (fun _ _ kz => jw_iconst (-1) d_Y_spawn_12 (by decide) kz) ?_
    refine jx_iret d_Y_spawn_13 rfl ?_
    first | exact ⟨rfl, rfl⟩ | exact ⟨by simp [b_1], rfl⟩ | exact ⟨by simp_all, by simp_all⟩
  · skip
    refine jx_of (fun _ _ kz => jw_iload_n 1 d_Y_spawn_4 rfl rfl kz) ?_
    refine jx_of (fun _ _ kz => jw_aload_n 0 d_Y_spawn_5 rfl rfl kz) ?_
    refine jx_of (fun _ _ kz => jw_getIe (0) fl_Y_20 d_Y_spawn_6 rfl rfl (by simp [me_I_sI, me_I_sP, me_I_nx, me_P_sI, me_P_sP, me_P_nx, me_N_sI, me_N_sP, me_N_nx, me_L_sI, me_L_sP, me_L_nx, show me_I M 0 0 2 = 0 from hm.2.2 (0, 0, 2, 0) (by decide)]) kz) ?_
    refine jx_icmp_lt 14 d_Y_spawn_9 (by decide) (fun h => absurd h b_1) (fun _ => ?_)
    refine jx_of (fun _ _ kz => jw_iconst (-1) d_Y_spawn_12 (by decide) kz) ?_
    refine jx_iret d_Y_spawn_13 rfl ?_
    first | exact ⟨rfl, rfl⟩ | exact ⟨by simp [b_1], rfl⟩ | exact ⟨by simp_all, by simp_all⟩
set_option maxRecDepth 20000 in
set_option maxHeartbeats 4000000 in
theorem x_Y_taskAt {G : Gt} {M : Me} (d : Nat) (x : Int32) (hm : cfr M) : sx G yt_Y_taskAt yn_Y_taskAt (d + 1) [.inr (some (0, 0)), .inl x] M (fun r M' => r = some (.inr none) ∧ M' = M) := by
  refine sx_of (k := 0) (lc := [some (.inr (some (0, 0))), some (.inl x)]) mt_Y_taskAt (Nat.le_of_ble_eq_true rfl) rfl ?_
  refine jx_of (fun _ _ kz => jw_iload_n 1 d_Y_taskAt_0 rfl rfl kz) ?_
  refine jx_if_lt 18 d_Y_taskAt_1 (by decide) (fun b_1 => ?_) (fun b_1 => ?_)
  · skip
    refine jx_of (fun _ _ kz => jw_null d_Y_taskAt_18 kz) ?_
    refine jx_of (fun _ _ kz => jw_goto 28 d_Y_taskAt_19 (by decide) kz) ?_
    refine jx_aret d_Y_taskAt_28 rfl ?_
    first | exact ⟨rfl, rfl⟩ | exact ⟨by simp [b_1], rfl⟩ | exact ⟨by simp_all, by simp_all⟩
  · skip
    refine jx_of (fun _ _ kz => jw_iload_n 1 d_Y_taskAt_4 rfl rfl kz) ?_
    refine jx_of (fun _ _ kz => jw_aload_n 0 d_Y_taskAt_5 rfl rfl kz) ?_
    refine jx_of (fun _ _ kz => jw_getIe (0) fl_Y_30 d_Y_taskAt_6 rfl rfl (by simp [me_I_sI, me_I_sP, me_I_nx, me_P_sI, me_P_sP, me_P_nx, me_N_sI, me_N_sP, me_N_nx, me_L_sI, me_L_sP, me_L_nx, show me_I M 0 0 4 = 0 from hm.2.2 (0, 0, 4, 0) (by decide)]) kz) ?_
    refine jx_icmp_ge 18 d_Y_taskAt_9 (by decide) (fun _ => ?_) (fun h => absurd (Int32.not_lt.mp b_1) h)
    refine jx_of (fun _ _ kz => jw_null d_Y_taskAt_18 kz) ?_
    refine jx_of (fun _ _ kz => jw_goto 28 d_Y_taskAt_19 (by decide) kz) ?_
    refine jx_aret d_Y_taskAt_28 rfl ?_
    first | exact ⟨rfl, rfl⟩ | exact ⟨by simp [b_1], rfl⟩ | exact ⟨by simp_all, by simp_all⟩
set_option maxRecDepth 20000 in
set_option maxHeartbeats 4000000 in
theorem x_Y_task {G : Gt} {M : Me} (d : Nat) (x : Int32) (y : Int32) (hm : cfr M) : sx G yt_Y_task yn_Y_task (d + 2) [.inr (some (0, 0)), .inl x, .inl y] M (fun r M' => r = some (.inl ((-1))) ∧ M' = M) := by
  refine sx_of (k := 1) (lc := [some (.inr (some (0, 0))), some (.inl x), some (.inl y), none]) mt_Y_task (Nat.le_of_ble_eq_true rfl) rfl ?_
  refine jx_of (fun _ _ kz => jw_aload_n 0 d_Y_task_0 rfl rfl kz) ?_
  refine jx_of (fun _ _ kz => jw_iload_n 1 d_Y_task_1 rfl rfl kz) ?_
  refine jx_callV (x_Y_taskAt _ x hm) mt_Y_taskAt cf_Y rfl rfl ml_Y_113 im_Y_taskAt se_Y_taskAt d_Y_task_2 rfl rfl (Nat.le_of_ble_eq_true rfl) ?_
  rintro _ _ ⟨rfl, rfl⟩
  refine jx_eq (st2 := [.inr none]) rfl rfl rfl ?_
  refine jx_of (fun _ _ kz => jw_astore_n 3 d_Y_task_5 rfl (Nat.le_of_ble_eq_true rfl) kz) ?_
  dsimp only [List.set]
  refine jx_of (fun _ _ kz => jw_aload_n 3 d_Y_task_6 rfl rfl kz) ?_
  refine jx_ifnonnull 12 d_Y_task_7 (by decide) (fun _ h => by cases h) (fun _ => ?_)
  refine jx_of (fun _ _ kz => jw_iconst (-1) d_Y_task_10 (by decide) kz) ?_
  refine jx_iret d_Y_task_11 rfl ?_
  exact ⟨rfl, rfl⟩
set_option maxRecDepth 20000 in
set_option maxHeartbeats 4000000 in
theorem x_Y_abort {G : Gt} {M : Me} (d : Nat) (x : Int32) (hm : cfr M) : sx G yt_Y_abort yn_Y_abort (d + 2) [.inr (some (0, 0)), .inl x] M (fun r M' => r = some (.inl 0) ∧ M' = M) := by
  refine sx_of (k := 1) (lc := [some (.inr (some (0, 0))), some (.inl x), none]) mt_Y_abort (Nat.le_of_ble_eq_true rfl) rfl ?_
  refine jx_of (fun _ _ kz => jw_aload_n 0 d_Y_abort_0 rfl rfl kz) ?_
  refine jx_of (fun _ _ kz => jw_iload_n 1 d_Y_abort_1 rfl rfl kz) ?_
  refine jx_callV (x_Y_taskAt _ x hm) mt_Y_taskAt cf_Y rfl rfl ml_Y_113 im_Y_taskAt se_Y_taskAt d_Y_abort_2 rfl rfl (Nat.le_of_ble_eq_true rfl) ?_
  rintro _ _ ⟨rfl, rfl⟩
  refine jx_eq (st2 := [.inr none]) rfl rfl rfl ?_
  refine jx_of (fun _ _ kz => jw_astore_n 2 d_Y_abort_5 rfl (Nat.le_of_ble_eq_true rfl) kz) ?_
  dsimp only [List.set]
  refine jx_of (fun _ _ kz => jw_aload_n 2 d_Y_abort_6 rfl rfl kz) ?_
  refine jx_ifnull 17 d_Y_abort_7 (by decide) (fun _ => ?_) (fun _ h => by cases h)
  refine jx_of (fun _ _ kz => jw_iconst 0 d_Y_abort_17 (by decide) kz) ?_
  refine jx_zret d_Y_abort_18 rfl (by decide) ?_
  exact ⟨rfl, rfl⟩
set_option maxRecDepth 20000 in
set_option maxHeartbeats 4000000 in
theorem x_Y_injected {G : Gt} {M : Me} (d : Nat) (x : Int32) (hm : cfr M) : sx G yt_Y_injected yn_Y_injected (d + 2) [.inr (some (0, 0)), .inl x] M (fun r M' => r = some (.inl ((-1))) ∧ M' = M) := by
  refine sx_of (k := 0) (lc := [some (.inr (some (0, 0))), some (.inl x)]) mt_Y_injected (Nat.le_of_ble_eq_true rfl) rfl ?_
  refine jx_of (fun _ _ kz => jw_iload_n 1 d_Y_injected_0 rfl rfl kz) ?_
  refine jx_if_lt 15 d_Y_injected_1 (by decide) (fun b_1 => ?_) (fun b_1 => ?_)
  · skip
    refine jx_of (fun _ _ kz => jw_iconst (-1) d_Y_injected_15 (by decide) kz) ?_
    refine jx_of (fun _ _ kz => jw_goto 27 d_Y_injected_16 (by decide) kz) ?_
    refine jx_iret d_Y_injected_27 rfl ?_
    first | exact ⟨rfl, rfl⟩ | exact ⟨by simp [b_1], rfl⟩ | exact ⟨by simp_all, by simp_all⟩
  · skip
    refine jx_of (fun _ _ kz => jw_iload_n 1 d_Y_injected_4 rfl rfl kz) ?_
    refine jx_of (fun _ _ kz => jw_aload_n 0 d_Y_injected_5 rfl rfl kz) ?_
    refine jx_of (fun _ _ kz => jw_getPe (some (4, 3)) fl_Y_45 d_Y_injected_6 rfl rfl (by simp [me_I_sI, me_I_sP, me_I_nx, me_P_sI, me_P_sP, me_P_nx, me_N_sI, me_N_sP, me_N_nx, me_L_sI, me_L_sP, me_L_nx, show me_P M 0 0 6 = some (4, 3) from hm.1 (0, 0, 6, 4, 3) (by decide)]) kz) ?_
    refine jx_of (fun _ _ kz => jw_getIe (0) fl_Y_168 d_Y_injected_9 rfl rfl (by simp [me_I_sI, me_I_sP, me_I_nx, me_P_sI, me_P_sP, me_P_nx, me_N_sI, me_N_sP, me_N_nx, me_L_sI, me_L_sP, me_L_nx, show me_I M 4 3 1 = 0 from hm.2.2 (4, 3, 1, 0) (by decide)]) kz) ?_
    refine jx_icmp_lt 19 d_Y_injected_12 (by decide) (fun h => absurd h b_1) (fun _ => ?_)
    refine jx_of (fun _ _ kz => jw_iconst (-1) d_Y_injected_15 (by decide) kz) ?_
    refine jx_of (fun _ _ kz => jw_goto 27 d_Y_injected_16 (by decide) kz) ?_
    refine jx_iret d_Y_injected_27 rfl ?_
    first | exact ⟨rfl, rfl⟩ | exact ⟨by simp [b_1], rfl⟩ | exact ⟨by simp_all, by simp_all⟩
end
section
def kpM (M M' : Me) : Prop := (∀ k, me_I M' 7 0 k = me_I M 7 0 k) ∧ (∀ s k, 30 ≤ s → me_I M' s 0 k = me_I M s 0 k) ∧ (∀ k, me_P M' 7 0 k = me_P M 7 0 k) ∧ (∀ s, 30 ≤ s → me_L M' s 0 = me_L M s 0)
theorem kp_rf {M : Me} : kpM M M := ⟨fun _ => rfl, fun _ _ _ => rfl, fun _ => rfl, fun _ _ => rfl⟩
theorem kp_sI {M M1 : Me} {s i k : Nat} {v : Int32} (h : kpM M M1) (hs : s ≠ 7 ∧ s < 30) : kpM M (me_sI M1 s i k v) := by
  refine ⟨fun k' => ?_, fun s' k' h' => ?_, h.2.2.1, h.2.2.2⟩
  · rw [me_I_sI, if_neg (fun q => hs.1 q.1.symm)]; exact h.1 k'
  · rw [me_I_sI, if_neg (fun q => by omega)]; exact h.2.1 s' k' h'
theorem kp_tr {M M1 M2 : Me} (h : kpM M M1) (h2 : kpM M1 M2) : kpM M M2 := ⟨fun k => (h2.1 k).trans (h.1 k), fun s k hs => (h2.2.1 s k hs).trans (h.2.1 s k hs), fun k => (h2.2.2.1 k).trans (h.2.2.1 k), fun s hs => (h2.2.2.2 s hs).trans (h.2.2.2 s hs)⟩
theorem tk_in {x : Int32} (h1 : ¬ x < 0) (h2 : ¬ 16 ≤ x) : vp_in x 16 := by
  rcases pk_ix x (n := 16) (by decide) with h | h | ⟨j, h, rfl⟩
  · exact absurd h h1
  · exact absurd h h2
  · exact vp_in_nI h (by decide)
def tkv (x y : Int32) : Int32 := if x < 0 then -1 else if 16 ≤ x then -1 else if y < sv_LOWEST.getD x.toNatClampNeg 0 then -1 else if y ≤ sv_HIGHEST.getD x.toNatClampNeg 0 then 1 else -1
theorem sw_lt {x : Int32} (h : x.toInt < 0) : x < 0 := Int32.lt_iff_toInt_lt.mpr (by simpa using h)
theorem sw_ge {x : Int32} {n : Nat} (h : (n : Int) - 1 < x.toInt) (hn : n < 2 ^ 31 := by decide) : nI n ≤ x := Int32.le_iff_toInt_le.mpr (by rw [nI_toInt hn]; omega)
theorem sw_out {x c : Int32} {n : Nat} (h : x.toInt < 0 ∨ (n : Int) - 1 < x.toInt) (hc : nI n = c ∧ n < 2 ^ 31) : x < 0 ∨ c ≤ x := by
  rcases h with h | h
  · exact Or.inl (sw_lt h)
  · rw [← hc.1]; exact Or.inr (sw_ge h hc.2)
theorem sw_res {x c z : Int32} (h : x < 0 ∨ c ≤ x) : (if x < 0 then (-1) else if c ≤ x then (-1) else z) = (-1 : Int32) := by
  by_cases h0 : x < 0
  · rw [if_pos h0]
  · rw [if_neg h0, if_pos (h.resolve_left h0)]
set_option maxRecDepth 20000 in
set_option maxHeartbeats 4000000 in
theorem x_P_append {G : Gt} {M : Me} (d : Nat) (i : Nat) (x : Int32) (y : Int32) (f0 : me_I M 1 i 3 = 0) (f1 : me_P M 1 i 0 = (some (11, i))) (f2 : me_P M 1 i 1 = (some (12, i))) (f3 : me_L M 11 i = 12) (f4 : me_L M 12 i = 12) : sx G yt_P_append yn_P_append (d + 1) [.inr (some (1, i)), .inl x, .inl y] M (fun r M' => r = some (.inl 1) ∧ M' = (me_sI (me_sI (me_sI M 11 i 0 (x)) 12 i 0 (y)) 1 i 3 (1))) := by
  refine sx_of (k := 0) (lc := [some (.inr (some (1, i))), some (.inl x), some (.inl y)]) mt_P_append (Nat.le_of_ble_eq_true rfl) rfl ?_
  refine jx_of (fun _ _ kz => jw_aload_n 0 d_P_append_0 rfl rfl kz) ?_
  refine jx_of (fun _ _ kz => jw_getIe (0) fl_P_21 d_P_append_1 rfl rfl (by simp [me_I_sI, me_I_sP, me_I_nx, me_P_sI, me_P_sP, me_P_nx, me_N_sI, me_N_sP, me_N_nx, me_L_sI, me_L_sP, me_L_nx, f0, f1, f2, f3, f4]) kz) ?_
  refine jx_of (fun _ _ kz => jw_bipush 12 d_P_append_4 (by decide) kz) ?_
  refine jx_icmp_lt 11 d_P_append_6 (by decide) (fun _ => ?_) (fun h => absurd h (by decide))
  refine jx_of (fun _ _ kz => jw_aload_n 0 d_P_append_11 rfl rfl kz) ?_
  refine jx_of (fun _ _ kz => jw_getPe (some (11, i)) fl_P_9 d_P_append_12 rfl rfl (by simp [me_I_sI, me_I_sP, me_I_nx, me_P_sI, me_P_sP, me_P_nx, me_N_sI, me_N_sP, me_N_nx, me_L_sI, me_L_sP, me_L_nx, f0, f1, f2, f3, f4]) kz) ?_
  refine jx_of (fun _ _ kz => jw_aload_n 0 d_P_append_15 rfl rfl kz) ?_
  refine jx_of (fun _ _ kz => jw_getIe (0) fl_P_21 d_P_append_16 rfl rfl (by simp [me_I_sI, me_I_sP, me_I_nx, me_P_sI, me_P_sP, me_P_nx, me_N_sI, me_N_sP, me_N_nx, me_L_sI, me_L_sP, me_L_nx, f0, f1, f2, f3, f4]) kz) ?_
  refine jx_of (fun _ _ kz => jw_iload_n 1 d_P_append_19 rfl rfl kz) ?_
  refine jx_of (fun _ _ kz => jw_iast d_P_append_20 rfl rfl (by rw [show me_L _ 11 i = 12 from (by simp [me_I_sI, me_I_sP, me_I_nx, me_P_sI, me_P_sP, me_P_nx, me_N_sI, me_N_sP, me_N_nx, me_L_sI, me_L_sP, me_L_nx, f0, f1, f2, f3, f4])]; unfold vp_in; decide) kz) ?_
  rw [show Int32.toNatClampNeg 0 = 0 from by decide]
  refine jx_of (fun _ _ kz => jw_aload_n 0 d_P_append_21 rfl rfl kz) ?_
  refine jx_of (fun _ _ kz => jw_getPe (some (12, i)) fl_P_15 d_P_append_22 rfl rfl (by simp [me_I_sI, me_I_sP, me_I_nx, me_P_sI, me_P_sP, me_P_nx, me_N_sI, me_N_sP, me_N_nx, me_L_sI, me_L_sP, me_L_nx, f0, f1, f2, f3, f4]) kz) ?_
  refine jx_of (fun _ _ kz => jw_aload_n 0 d_P_append_25 rfl rfl kz) ?_
  refine jx_of (fun _ _ kz => jw_getIe (0) fl_P_21 d_P_append_26 rfl rfl (by simp [me_I_sI, me_I_sP, me_I_nx, me_P_sI, me_P_sP, me_P_nx, me_N_sI, me_N_sP, me_N_nx, me_L_sI, me_L_sP, me_L_nx, f0, f1, f2, f3, f4]) kz) ?_
  refine jx_of (fun _ _ kz => jw_iload_n 2 d_P_append_29 rfl rfl kz) ?_
  refine jx_of (fun _ _ kz => jw_iast d_P_append_30 rfl rfl (by rw [show me_L _ 12 i = 12 from (by simp [me_I_sI, me_I_sP, me_I_nx, me_P_sI, me_P_sP, me_P_nx, me_N_sI, me_N_sP, me_N_nx, me_L_sI, me_L_sP, me_L_nx, f0, f1, f2, f3, f4])]; unfold vp_in; decide) kz) ?_
  rw [show Int32.toNatClampNeg 0 = 0 from by decide]
  refine jx_of (fun _ _ kz => jw_aload_n 0 d_P_append_31 rfl rfl kz) ?_
  refine jx_of (fun _ _ kz => jw_dup d_P_append_32 kz) ?_
  refine jx_of (fun _ _ kz => jw_getIe (0) fl_P_21 d_P_append_33 rfl rfl (by simp [me_I_sI, me_I_sP, me_I_nx, me_P_sI, me_P_sP, me_P_nx, me_N_sI, me_N_sP, me_N_nx, me_L_sI, me_L_sP, me_L_nx, f0, f1, f2, f3, f4]) kz) ?_
  refine jx_of (fun _ _ kz => jw_iconst 1 d_P_append_36 (by decide) kz) ?_
  refine jx_of (fun _ _ kz => jw_iadd d_P_append_37 kz) ?_
  rw [show (0 + 1 : Int32) = 1 from by decide]
  refine jx_of (fun _ _ kz => jw_putI fl_P_21 (Or.inl rfl) rfl rfl d_P_append_38 rfl rfl kz) ?_
  refine jx_of (fun _ _ kz => jw_iconst 1 d_P_append_41 (by decide) kz) ?_
  refine jx_zret d_P_append_42 rfl (by decide) ?_
  exact ⟨rfl, rfl⟩
set_option maxRecDepth 20000 in
set_option maxHeartbeats 4000000 in
theorem x_Y_token {G : Gt} {M : Me} (d : Nat) (x : Int32) (y : Int32) (hm : cfr M) : sx G yt_Y_token yn_Y_token (d + 2) [.inr (some (0, 0)), .inl x, .inl y] M (fun r M' => r = some (.inl (tkv x y)) ∧ kpM M M') := by
  refine sx_of (k := 0) (lc := [some (.inr (some (0, 0))), some (.inl x), some (.inl y)]) mt_Y_token (Nat.le_of_ble_eq_true rfl) rfl ?_
  refine jx_of (fun _ _ kz => jw_iload_n 1 d_Y_token_0 rfl rfl kz) ?_
  refine jx_if_lt 28 d_Y_token_1 (by decide) (fun b_1 => ?_) (fun b_1 => ?_)
  · skip
    refine jx_of (fun _ _ kz => jw_iconst (-1) d_Y_token_28 (by decide) kz) ?_
    refine jx_iret d_Y_token_29 rfl ?_
    exact ⟨by simp_all [tkv], kp_rf⟩
  · skip
    refine jx_of (fun _ _ kz => jw_iload_n 1 d_Y_token_4 rfl rfl kz) ?_
    refine jx_of (fun _ _ kz => jw_bipush 16 d_Y_token_5 (by decide) kz) ?_
    refine jx_icmp_ge 28 d_Y_token_7 (by decide) (fun b_7 => ?_) (fun b_7 => ?_)
    · skip
      refine jx_of (fun _ _ kz => jw_iconst (-1) d_Y_token_28 (by decide) kz) ?_
      refine jx_iret d_Y_token_29 rfl ?_
      exact ⟨by simp_all [tkv], kp_rf⟩
    · skip
      refine jx_of (fun _ _ kz => jw_iload_n 2 d_Y_token_10 rfl rfl kz) ?_
      refine jx_of (fun _ _ kz => jw_gets (q := (23, "LOWEST", sv_LOWEST)) (by decide) fs_Y_78 d_Y_token_11 kz) ?_
      refine jx_of (fun _ _ kz => jw_iload_n 1 d_Y_token_14 rfl rfl kz) ?_
      refine jx_of (fun _ _ kz => jw_ialdS (q := (23, "LOWEST", sv_LOWEST)) (by decide) d_Y_token_15 (tk_in b_1 b_7) kz) ?_
      refine jx_icmp_lt 28 d_Y_token_16 (by decide) (fun b_16 => ?_) (fun b_16 => ?_)
      · skip
        refine jx_of (fun _ _ kz => jw_iconst (-1) d_Y_token_28 (by decide) kz) ?_
        refine jx_iret d_Y_token_29 rfl ?_
        exact ⟨by simp_all [tkv], kp_rf⟩
      · skip
        refine jx_of (fun _ _ kz => jw_iload_n 2 d_Y_token_19 rfl rfl kz) ?_
        refine jx_of (fun _ _ kz => jw_gets (q := (24, "HIGHEST", sv_HIGHEST)) (by decide) fs_Y_82 d_Y_token_20 kz) ?_
        refine jx_of (fun _ _ kz => jw_iload_n 1 d_Y_token_23 rfl rfl kz) ?_
        refine jx_of (fun _ _ kz => jw_ialdS (q := (24, "HIGHEST", sv_HIGHEST)) (by decide) d_Y_token_24 (tk_in b_1 b_7) kz) ?_
        refine jx_icmp_le 30 d_Y_token_25 (by decide) (fun b_25 => ?_) (fun b_25 => ?_)
        · skip
          refine jx_of (fun _ _ kz => jw_aload_n 0 d_Y_token_30 rfl rfl kz) ?_
          refine jx_of (fun _ _ kz => jw_getPe (some (1, 0)) fl_Y_10 d_Y_token_31 rfl rfl (by simp [me_I_sI, me_I_sP, me_I_nx, me_P_sI, me_P_sP, me_P_nx, me_N_sI, me_N_sP, me_N_nx, me_L_sI, me_L_sP, me_L_nx, show me_P M 0 0 0 = some (1, 0) from hm.1 (0, 0, 0, 1, 0) (by decide)]) kz) ?_
          refine jx_of (fun _ _ kz => jw_iload_n 1 d_Y_token_34 rfl rfl kz) ?_
          refine jx_of (fun _ _ kz => jw_iload_n 2 d_Y_token_35 rfl rfl kz) ?_
          refine jx_callV (x_P_append _ 0 x y (by simp [me_I_sI, me_I_sP, me_I_nx, me_P_sI, me_P_sP, me_P_nx, me_N_sI, me_N_sP, me_N_nx, me_L_sI, me_L_sP, me_L_nx, show me_I M 1 0 3 = 0 from hm.2.2 (1, 0, 3, 0) (by decide)]) (by simp [me_I_sI, me_I_sP, me_I_nx, me_P_sI, me_P_sP, me_P_nx, me_N_sI, me_N_sP, me_N_nx, me_L_sI, me_L_sP, me_L_nx, show me_P M 1 0 0 = some (11, 0) from hm.1 (1, 0, 0, 11, 0) (by decide)]) (by simp [me_I_sI, me_I_sP, me_I_nx, me_P_sI, me_P_sP, me_P_nx, me_N_sI, me_N_sP, me_N_nx, me_L_sI, me_L_sP, me_L_nx, show me_P M 1 0 1 = some (12, 0) from hm.1 (1, 0, 1, 12, 0) (by decide)]) (by simp [me_I_sI, me_I_sP, me_I_nx, me_P_sI, me_P_sP, me_P_nx, me_N_sI, me_N_sP, me_N_nx, me_L_sI, me_L_sP, me_L_nx, show me_L M 11 0 = 12 from hm.2.1 (11, 0, 12) (by decide)]) (by simp [me_I_sI, me_I_sP, me_I_nx, me_P_sI, me_P_sP, me_P_nx, me_N_sI, me_N_sP, me_N_nx, me_L_sI, me_L_sP, me_L_nx, show me_L M 12 0 = 12 from hm.2.1 (12, 0, 12) (by decide)])) mt_P_append cf_P rfl rfl ml_Y_85 im_P_append se_P_append d_Y_token_36 rfl rfl (Nat.le_of_ble_eq_true rfl) ?_
          rintro _ _ ⟨rfl, rfl⟩
          refine jx_eq (st2 := [.inl 1]) rfl rfl rfl ?_
          refine jx_if_eq 52 d_Y_token_39 (by decide) (fun h => absurd h (by decide)) (fun _ => ?_)
          refine jx_of (fun _ _ kz => jw_aload_n 0 d_Y_token_42 rfl rfl kz) ?_
          refine jx_of (fun _ _ kz => jw_getPe (some (1, 0)) fl_Y_10 d_Y_token_43 rfl rfl (by simp [me_I_sI, me_I_sP, me_I_nx, me_P_sI, me_P_sP, me_P_nx, me_N_sI, me_N_sP, me_N_nx, me_L_sI, me_L_sP, me_L_nx, show me_P M 0 0 0 = some (1, 0) from hm.1 (0, 0, 0, 1, 0) (by decide)]) kz) ?_
          refine jx_of (fun _ _ kz => jw_getIe (1) fl_Y_89 d_Y_token_46 rfl rfl (by simp [me_I_sI, me_I_sP, me_I_nx, me_P_sI, me_P_sP, me_P_nx, me_N_sI, me_N_sP, me_N_nx, me_L_sI, me_L_sP, me_L_nx]) kz) ?_
          refine jx_of (fun _ _ kz => jw_goto 54 d_Y_token_49 (by decide) kz) ?_
          refine jx_iret d_Y_token_54 rfl ?_
          exact ⟨by rw [tkv, if_neg b_1, if_neg b_7, if_neg b_16, if_pos b_25], by repeat (first | exact kp_rf | refine kp_sI ?_ (by decide))⟩
        · skip
          refine jx_of (fun _ _ kz => jw_iconst (-1) d_Y_token_28 (by decide) kz) ?_
          refine jx_iret d_Y_token_29 rfl ?_
          exact ⟨by simp_all [tkv], kp_rf⟩
set_option maxRecDepth 20000 in
set_option maxHeartbeats 4000000 in
theorem x_Y_tasksNotEnded {G : Gt} {M : Me} (d : Nat) (hm : cfr M) : sx G yt_Y_tasksNotEnded yn_Y_tasksNotEnded (d + 1) [.inr (some (0, 0))] M (fun r M' => r = some (.inl 0) ∧ M' = M) := by
  refine sx_of (k := 3) (lc := [some (.inr (some (0, 0))), none, none, none]) mt_Y_tasksNotEnded (Nat.le_of_ble_eq_true rfl) rfl ?_
  refine jx_of (fun _ _ kz => jw_iconst 0 d_Y_tasksNotEnded_0 (by decide) kz) ?_
  refine jx_of (fun _ _ kz => jw_istore_n 1 d_Y_tasksNotEnded_1 rfl (Nat.le_of_ble_eq_true rfl) kz) ?_
  dsimp only [List.set]
  refine jx_of (fun _ _ kz => jw_iconst 0 d_Y_tasksNotEnded_2 (by decide) kz) ?_
  refine jx_of (fun _ _ kz => jw_istore_n 2 d_Y_tasksNotEnded_3 rfl (Nat.le_of_ble_eq_true rfl) kz) ?_
  dsimp only [List.set]
  refine jx_of (fun _ _ kz => jw_iload_n 2 d_Y_tasksNotEnded_4 rfl rfl kz) ?_
  refine jx_of (fun _ _ kz => jw_aload_n 0 d_Y_tasksNotEnded_5 rfl rfl kz) ?_
  refine jx_of (fun _ _ kz => jw_getIe (0) fl_Y_30 d_Y_tasksNotEnded_6 rfl rfl (by simp [me_I_sI, me_I_sP, me_I_nx, me_P_sI, me_P_sP, me_P_nx, me_N_sI, me_N_sP, me_N_nx, me_L_sI, me_L_sP, me_L_nx, show me_I M 0 0 4 = 0 from hm.2.2 (0, 0, 4, 0) (by decide)]) kz) ?_
  refine jx_icmp_ge 38 d_Y_tasksNotEnded_9 (by decide) (fun _ => ?_) (fun h => absurd h (by decide))
  refine jx_of (fun _ _ kz => jw_iload_n 1 d_Y_tasksNotEnded_38 rfl rfl kz) ?_
  refine jx_iret d_Y_tasksNotEnded_39 rfl ?_
  exact ⟨rfl, rfl⟩
set_option maxRecDepth 20000 in
set_option maxHeartbeats 4000000 in
theorem x_Y_count {G : Gt} {M : Me} (d : Nat) (x : Int32) (hm : cfr M) : sx G yt_Y_count yn_Y_count (d + 2) [.inr (some (0, 0)), .inl x] M (fun r M' => r = some (.inl (if x < 0 then -1 else if 8 ≤ x then -1 else 0)) ∧ kpM M M') := by
  refine sx_of (k := 0) (lc := [some (.inr (some (0, 0))), some (.inl x)]) mt_Y_count (Nat.le_of_ble_eq_true rfl) rfl ?_
  refine jx_of (fun _ _ kz => jw_iload_n 1 d_Y_count_0 rfl rfl kz) ?_
  rcases sw_cases (x) 8 (by decide) with t_1 | t_1
  · skip
    refine jx_of (fun _ _ kz => jw_tabOut 94 d_Y_count_1 (by simpa using t_1) (by decide) kz) ?_
    refine jx_of (fun _ _ kz => jw_iconst (-1) d_Y_count_94 (by decide) kz) ?_
    refine jx_iret d_Y_count_95 rfl ?_
    exact ⟨by first | (subst_vars; decide) | (rw [sw_res (sw_out t_1 (c := 8) (by decide))]), kp_rf⟩
  · skip
    obtain ⟨j_1, t_1, e_1⟩ := t_1
    rcases (show j_1 = 0 ∨ j_1 = 1 ∨ j_1 = 2 ∨ j_1 = 3 ∨ j_1 = 4 ∨ j_1 = 5 ∨ j_1 = 6 ∨ j_1 = 7 by omega) with rfl | rfl | rfl | rfl | rfl | rfl | rfl | rfl
    · skip
      refine jx_of (fun _ _ kz => jw_tabIn 48 d_Y_count_1 (by rw [e_1]; decide) (by rw [e_1]; decide) (by rw [e_1]; rfl) (by decide) kz) ?_
      refine jx_of (fun _ _ kz => jw_aload_n 0 d_Y_count_48 rfl rfl kz) ?_
      refine jx_of (fun _ _ kz => jw_getIe (0) fl_Y_20 d_Y_count_49 rfl rfl (by simp [me_I_sI, me_I_sP, me_I_nx, me_P_sI, me_P_sP, me_P_nx, me_N_sI, me_N_sP, me_N_nx, me_L_sI, me_L_sP, me_L_nx, show me_I M 0 0 2 = 0 from hm.2.2 (0, 0, 2, 0) (by decide)]) kz) ?_
      refine jx_iret d_Y_count_52 rfl ?_
      exact ⟨by first | (subst_vars; decide) | (rw [sw_res (sw_out t_1 (c := 8) (by decide))]), kp_rf⟩
    · skip
      refine jx_of (fun _ _ kz => jw_tabIn 53 d_Y_count_1 (by rw [e_1]; decide) (by rw [e_1]; decide) (by rw [e_1]; rfl) (by decide) kz) ?_
      refine jx_of (fun _ _ kz => jw_aload_n 0 d_Y_count_53 rfl rfl kz) ?_
      refine jx_of (fun _ _ kz => jw_getIe (0) fl_Y_30 d_Y_count_54 rfl rfl (by simp [me_I_sI, me_I_sP, me_I_nx, me_P_sI, me_P_sP, me_P_nx, me_N_sI, me_N_sP, me_N_nx, me_L_sI, me_L_sP, me_L_nx, show me_I M 0 0 4 = 0 from hm.2.2 (0, 0, 4, 0) (by decide)]) kz) ?_
      refine jx_iret d_Y_count_57 rfl ?_
      exact ⟨by first | (subst_vars; decide) | (rw [sw_res (sw_out t_1 (c := 8) (by decide))]), kp_rf⟩
    · skip
      refine jx_of (fun _ _ kz => jw_tabIn 58 d_Y_count_1 (by rw [e_1]; decide) (by rw [e_1]; decide) (by rw [e_1]; rfl) (by decide) kz) ?_
      refine jx_of (fun _ _ kz => jw_aload_n 0 d_Y_count_58 rfl rfl kz) ?_
      refine jx_callV (x_Y_tasksNotEnded _  hm) mt_Y_tasksNotEnded cf_Y rfl rfl ml_Y_187 im_Y_tasksNotEnded se_Y_tasksNotEnded d_Y_count_59 rfl rfl (Nat.le_of_ble_eq_true rfl) ?_
      rintro _ _ ⟨rfl, rfl⟩
      refine jx_eq (st2 := [.inl 0]) rfl rfl rfl ?_
      refine jx_iret d_Y_count_62 rfl ?_
      exact ⟨by first | (subst_vars; decide) | (rw [sw_res (sw_out t_1 (c := 8) (by decide))]), kp_rf⟩
    · skip
      refine jx_of (fun _ _ kz => jw_tabIn 63 d_Y_count_1 (by rw [e_1]; decide) (by rw [e_1]; decide) (by rw [e_1]; rfl) (by decide) kz) ?_
      refine jx_of (fun _ _ kz => jw_aload_n 0 d_Y_count_63 rfl rfl kz) ?_
      refine jx_of (fun _ _ kz => jw_getIe (0) fl_Y_66 d_Y_count_64 rfl rfl (by simp [me_I_sI, me_I_sP, me_I_nx, me_P_sI, me_P_sP, me_P_nx, me_N_sI, me_N_sP, me_N_nx, me_L_sI, me_L_sP, me_L_nx, show me_I M 0 0 10 = 0 from hm.2.2 (0, 0, 10, 0) (by decide)]) kz) ?_
      refine jx_iret d_Y_count_67 rfl ?_
      exact ⟨by first | (subst_vars; decide) | (rw [sw_res (sw_out t_1 (c := 8) (by decide))]), kp_rf⟩
    · skip
      refine jx_of (fun _ _ kz => jw_tabIn 68 d_Y_count_1 (by rw [e_1]; decide) (by rw [e_1]; decide) (by rw [e_1]; rfl) (by decide) kz) ?_
      refine jx_of (fun _ _ kz => jw_aload_n 0 d_Y_count_68 rfl rfl kz) ?_
      refine jx_of (fun _ _ kz => jw_getIe (0) fl_Y_69 d_Y_count_69 rfl rfl (by simp [me_I_sI, me_I_sP, me_I_nx, me_P_sI, me_P_sP, me_P_nx, me_N_sI, me_N_sP, me_N_nx, me_L_sI, me_L_sP, me_L_nx, show me_I M 0 0 11 = 0 from hm.2.2 (0, 0, 11, 0) (by decide)]) kz) ?_
      refine jx_iret d_Y_count_72 rfl ?_
      exact ⟨by first | (subst_vars; decide) | (rw [sw_res (sw_out t_1 (c := 8) (by decide))]), kp_rf⟩
    · skip
      refine jx_of (fun _ _ kz => jw_tabIn 73 d_Y_count_1 (by rw [e_1]; decide) (by rw [e_1]; decide) (by rw [e_1]; rfl) (by decide) kz) ?_
      refine jx_of (fun _ _ kz => jw_aload_n 0 d_Y_count_73 rfl rfl kz) ?_
      refine jx_of (fun _ _ kz => jw_getPe (some (4, 3)) fl_Y_45 d_Y_count_74 rfl rfl (by simp [me_I_sI, me_I_sP, me_I_nx, me_P_sI, me_P_sP, me_P_nx, me_N_sI, me_N_sP, me_N_nx, me_L_sI, me_L_sP, me_L_nx, show me_P M 0 0 6 = some (4, 3) from hm.1 (0, 0, 6, 4, 3) (by decide)]) kz) ?_
      refine jx_of (fun _ _ kz => jw_getIe (0) fl_Y_168 d_Y_count_77 rfl rfl (by simp [me_I_sI, me_I_sP, me_I_nx, me_P_sI, me_P_sP, me_P_nx, me_N_sI, me_N_sP, me_N_nx, me_L_sI, me_L_sP, me_L_nx, show me_I M 4 3 1 = 0 from hm.2.2 (4, 3, 1, 0) (by decide)]) kz) ?_
      refine jx_iret d_Y_count_80 rfl ?_
      exact ⟨by first | (subst_vars; decide) | (rw [sw_res (sw_out t_1 (c := 8) (by decide))]), kp_rf⟩
    · skip
      refine jx_of (fun _ _ kz => jw_tabIn 81 d_Y_count_1 (by rw [e_1]; decide) (by rw [e_1]; decide) (by rw [e_1]; rfl) (by decide) kz) ?_
      refine jx_of (fun _ _ kz => jw_aload_n 0 d_Y_count_81 rfl rfl kz) ?_
      refine jx_of (fun _ _ kz => jw_getIe (0) fl_Y_72 d_Y_count_82 rfl rfl (by simp [me_I_sI, me_I_sP, me_I_nx, me_P_sI, me_P_sP, me_P_nx, me_N_sI, me_N_sP, me_N_nx, me_L_sI, me_L_sP, me_L_nx, show me_I M 0 0 12 = 0 from hm.2.2 (0, 0, 12, 0) (by decide)]) kz) ?_
      refine jx_iret d_Y_count_85 rfl ?_
      exact ⟨by first | (subst_vars; decide) | (rw [sw_res (sw_out t_1 (c := 8) (by decide))]), kp_rf⟩
    · skip
      refine jx_of (fun _ _ kz => jw_tabIn 86 d_Y_count_1 (by rw [e_1]; decide) (by rw [e_1]; decide) (by rw [e_1]; rfl) (by decide) kz) ?_
      refine jx_of (fun _ _ kz => jw_aload_n 0 d_Y_count_86 rfl rfl kz) ?_
      refine jx_of (fun _ _ kz => jw_getPe (some (1, 0)) fl_Y_10 d_Y_count_87 rfl rfl (by simp [me_I_sI, me_I_sP, me_I_nx, me_P_sI, me_P_sP, me_P_nx, me_N_sI, me_N_sP, me_N_nx, me_L_sI, me_L_sP, me_L_nx, show me_P M 0 0 0 = some (1, 0) from hm.1 (0, 0, 0, 1, 0) (by decide)]) kz) ?_
      refine jx_of (fun _ _ kz => jw_getIe (0) fl_Y_89 d_Y_count_90 rfl rfl (by simp [me_I_sI, me_I_sP, me_I_nx, me_P_sI, me_P_sP, me_P_nx, me_N_sI, me_N_sP, me_N_nx, me_L_sI, me_L_sP, me_L_nx, show me_I M 1 0 3 = 0 from hm.2.2 (1, 0, 3, 0) (by decide)]) kz) ?_
      refine jx_iret d_Y_count_93 rfl ?_
      exact ⟨by first | (subst_vars; decide) | (rw [sw_res (sw_out t_1 (c := 8) (by decide))]), kp_rf⟩
set_option maxRecDepth 20000 in
set_option maxHeartbeats 4000000 in
theorem x_Y_gotByFirst_0 {G : Gt} {M : Me} (d : Nat) (hm : cfr M) : sx G yt_Y_gotByFirst yn_Y_gotByFirst (d + 2) [.inr (some (0, 0)), .inr (some (5, 0))] M (fun r M' => r = some (.inl 0) ∧ M' = M) := by
  refine sx_of (k := 2) (lc := [some (.inr (some (0, 0))), some (.inr (some (5, 0))), none, none]) mt_Y_gotByFirst (Nat.le_of_ble_eq_true rfl) rfl ?_
  refine jx_of (fun _ _ kz => jw_aload_n 1 d_Y_gotByFirst_0 rfl rfl kz) ?_
  refine jx_of (fun _ _ kz => jw_getPe (some (4, 5)) fl_Y_175 d_Y_gotByFirst_1 rfl rfl (by simp [me_I_sI, me_I_sP, me_I_nx, me_P_sI, me_P_sP, me_P_nx, me_N_sI, me_N_sP, me_N_nx, me_L_sI, me_L_sP, me_L_nx, show me_P M 5 0 0 = some (4, 5) from hm.1 (5, 0, 0, 4, 5) (by decide)]) kz) ?_
  refine jx_callV (x_R_isEmpty _ 5 (by simp [me_I_sI, me_I_sP, me_I_nx, me_P_sI, me_P_sP, me_P_nx, me_N_sI, me_N_sP, me_N_nx, me_L_sI, me_L_sP, me_L_nx, show me_I M 4 5 1 = 0 from hm.2.2 (4, 5, 1, 0) (by decide)])) mt_R_isEmpty cf_R rfl rfl ml_Y_198 im_R_isEmpty se_R_isEmpty d_Y_gotByFirst_4 rfl rfl (Nat.le_of_ble_eq_true rfl) ?_
  rintro _ _ ⟨rfl, rfl⟩
  refine jx_eq (st2 := [.inl 1]) rfl rfl rfl ?_
  refine jx_if_eq 12 d_Y_gotByFirst_7 (by decide) (fun h => absurd h (by decide)) (fun _ => ?_)
  refine jx_of (fun _ _ kz => jw_iconst 0 d_Y_gotByFirst_10 (by decide) kz) ?_
  refine jx_iret d_Y_gotByFirst_11 rfl ?_
  exact ⟨rfl, rfl⟩
set_option maxRecDepth 20000 in
set_option maxHeartbeats 4000000 in
theorem x_Y_gate_0 {G : Gt} {M : Me} (d : Nat) (y : Int32) (hm : cfr M) : sx G yt_Y_gate yn_Y_gate (d + 3) [.inr (some (0, 0)), .inl 0, .inl y] M (fun r M' => r = some (.inl (if y < 0 then -1 else if 5 ≤ y then -1 else if y = 0 then 1 else 0)) ∧ kpM M M') := by
  refine sx_of (k := 0) (lc := [some (.inr (some (0, 0))), some (.inl 0), some (.inl y)]) mt_Y_gate (Nat.le_of_ble_eq_true rfl) rfl ?_
  refine jx_of (fun _ _ kz => jw_iload_n 1 d_Y_gate_0 rfl rfl kz) ?_
  refine jx_if_lt 9 d_Y_gate_1 (by decide) (fun h => absurd h (by decide)) (fun _ => ?_)
  refine jx_of (fun _ _ kz => jw_iload_n 1 d_Y_gate_4 rfl rfl kz) ?_
  refine jx_of (fun _ _ kz => jw_iconst 1 d_Y_gate_5 (by decide) kz) ?_
  refine jx_icmp_le 11 d_Y_gate_6 (by decide) (fun _ => ?_) (fun h => absurd h (by decide))
  refine jx_of (fun _ _ kz => jw_iload_n 2 d_Y_gate_11 rfl rfl kz) ?_
  rcases sw_cases (y) 5 (by decide) with t_12 | t_12
  · skip
    refine jx_of (fun _ _ kz => jw_tabOut 113 d_Y_gate_12 (by simpa using t_12) (by decide) kz) ?_
    refine jx_of (fun _ _ kz => jw_iconst (-1) d_Y_gate_113 (by decide) kz) ?_
    refine jx_iret d_Y_gate_114 rfl ?_
    exact ⟨by first | (subst_vars; decide) | (rw [sw_res (sw_out t_12 (c := 5) (by decide))]), kp_rf⟩
  · skip
    obtain ⟨j_12, t_12, e_12⟩ := t_12
    rcases (show j_12 = 0 ∨ j_12 = 1 ∨ j_12 = 2 ∨ j_12 = 3 ∨ j_12 = 4 by omega) with rfl | rfl | rfl | rfl | rfl
    · skip
      refine jx_of (fun _ _ kz => jw_tabIn 48 d_Y_gate_12 (by rw [e_12]; decide) (by rw [e_12]; decide) (by rw [e_12]; rfl) (by decide) kz) ?_
      refine jx_of (fun _ _ kz => jw_aload_n 0 d_Y_gate_48 rfl rfl kz) ?_
      refine jx_of (fun _ _ kz => jw_getPe (some (20, 0)) fl_Y_55 d_Y_gate_49 rfl rfl (by simp [me_I_sI, me_I_sP, me_I_nx, me_P_sI, me_P_sP, me_P_nx, me_N_sI, me_N_sP, me_N_nx, me_L_sI, me_L_sP, me_L_nx, show me_P M 0 0 8 = some (20, 0) from hm.1 (0, 0, 8, 20, 0) (by decide)]) kz) ?_
      refine jx_of (fun _ _ kz => jw_iload_n 1 d_Y_gate_52 rfl rfl kz) ?_
      refine jx_of (fun _ _ kz => jw_aalde (some (5, 0)) d_Y_gate_53 rfl rfl (by rw [show me_L _ 20 0 = 2 from (by simp [me_I_sI, me_I_sP, me_I_nx, me_P_sI, me_P_sP, me_P_nx, me_N_sI, me_N_sP, me_N_nx, me_L_sI, me_L_sP, me_L_nx, show me_L M 20 0 = 2 from hm.2.1 (20, 0, 2) (by decide)])]; unfold vp_in; decide) (by simp [me_I_sI, me_I_sP, me_I_nx, me_P_sI, me_P_sP, me_P_nx, me_N_sI, me_N_sP, me_N_nx, me_L_sI, me_L_sP, me_L_nx, show me_P M 20 0 0 = some (5, 0) from hm.1 (20, 0, 0, 5, 0) (by decide)]) kz) ?_
      refine jx_of (fun _ _ kz => jw_getIe (1) fl_Y_137 d_Y_gate_54 rfl rfl (by simp [me_I_sI, me_I_sP, me_I_nx, me_P_sI, me_P_sP, me_P_nx, me_N_sI, me_N_sP, me_N_nx, me_L_sI, me_L_sP, me_L_nx, show me_I M 5 0 1 = 1 from hm.2.2 (5, 0, 1, 1) (by decide)]) kz) ?_
      refine jx_iret d_Y_gate_57 rfl ?_
      exact ⟨by first | (subst_vars; decide) | (rw [sw_res (sw_out t_12 (c := 5) (by decide))]), kp_rf⟩
    · skip
      refine jx_of (fun _ _ kz => jw_tabIn 58 d_Y_gate_12 (by rw [e_12]; decide) (by rw [e_12]; decide) (by rw [e_12]; rfl) (by decide) kz) ?_
      refine jx_of (fun _ _ kz => jw_aload_n 0 d_Y_gate_58 rfl rfl kz) ?_
      refine jx_of (fun _ _ kz => jw_getPe (some (20, 0)) fl_Y_55 d_Y_gate_59 rfl rfl (by simp [me_I_sI, me_I_sP, me_I_nx, me_P_sI, me_P_sP, me_P_nx, me_N_sI, me_N_sP, me_N_nx, me_L_sI, me_L_sP, me_L_nx, show me_P M 0 0 8 = some (20, 0) from hm.1 (0, 0, 8, 20, 0) (by decide)]) kz) ?_
      refine jx_of (fun _ _ kz => jw_iload_n 1 d_Y_gate_62 rfl rfl kz) ?_
      refine jx_of (fun _ _ kz => jw_aalde (some (5, 0)) d_Y_gate_63 rfl rfl (by rw [show me_L _ 20 0 = 2 from (by simp [me_I_sI, me_I_sP, me_I_nx, me_P_sI, me_P_sP, me_P_nx, me_N_sI, me_N_sP, me_N_nx, me_L_sI, me_L_sP, me_L_nx, show me_L M 20 0 = 2 from hm.2.1 (20, 0, 2) (by decide)])]; unfold vp_in; decide) (by simp [me_I_sI, me_I_sP, me_I_nx, me_P_sI, me_P_sP, me_P_nx, me_N_sI, me_N_sP, me_N_nx, me_L_sI, me_L_sP, me_L_nx, show me_P M 20 0 0 = some (5, 0) from hm.1 (20, 0, 0, 5, 0) (by decide)]) kz) ?_
      refine jx_of (fun _ _ kz => jw_getPe (some (4, 5)) fl_Y_175 d_Y_gate_64 rfl rfl (by simp [me_I_sI, me_I_sP, me_I_nx, me_P_sI, me_P_sP, me_P_nx, me_N_sI, me_N_sP, me_N_nx, me_L_sI, me_L_sP, me_L_nx, show me_P M 5 0 0 = some (4, 5) from hm.1 (5, 0, 0, 4, 5) (by decide)]) kz) ?_
      refine jx_of (fun _ _ kz => jw_getIe (0) fl_Y_168 d_Y_gate_67 rfl rfl (by simp [me_I_sI, me_I_sP, me_I_nx, me_P_sI, me_P_sP, me_P_nx, me_N_sI, me_N_sP, me_N_nx, me_L_sI, me_L_sP, me_L_nx, show me_I M 4 5 1 = 0 from hm.2.2 (4, 5, 1, 0) (by decide)]) kz) ?_
      refine jx_iret d_Y_gate_70 rfl ?_
      exact ⟨by first | (subst_vars; decide) | (rw [sw_res (sw_out t_12 (c := 5) (by decide))]), kp_rf⟩
    · skip
      refine jx_of (fun _ _ kz => jw_tabIn 71 d_Y_gate_12 (by rw [e_12]; decide) (by rw [e_12]; decide) (by rw [e_12]; rfl) (by decide) kz) ?_
      refine jx_of (fun _ _ kz => jw_aload_n 0 d_Y_gate_71 rfl rfl kz) ?_
      refine jx_of (fun _ _ kz => jw_aload_n 0 d_Y_gate_72 rfl rfl kz) ?_
      refine jx_of (fun _ _ kz => jw_getPe (some (20, 0)) fl_Y_55 d_Y_gate_73 rfl rfl (by simp [me_I_sI, me_I_sP, me_I_nx, me_P_sI, me_P_sP, me_P_nx, me_N_sI, me_N_sP, me_N_nx, me_L_sI, me_L_sP, me_L_nx, show me_P M 0 0 8 = some (20, 0) from hm.1 (0, 0, 8, 20, 0) (by decide)]) kz) ?_
      refine jx_of (fun _ _ kz => jw_iload_n 1 d_Y_gate_76 rfl rfl kz) ?_
      refine jx_of (fun _ _ kz => jw_aalde (some (5, 0)) d_Y_gate_77 rfl rfl (by rw [show me_L _ 20 0 = 2 from (by simp [me_I_sI, me_I_sP, me_I_nx, me_P_sI, me_P_sP, me_P_nx, me_N_sI, me_N_sP, me_N_nx, me_L_sI, me_L_sP, me_L_nx, show me_L M 20 0 = 2 from hm.2.1 (20, 0, 2) (by decide)])]; unfold vp_in; decide) (by simp [me_I_sI, me_I_sP, me_I_nx, me_P_sI, me_P_sP, me_P_nx, me_N_sI, me_N_sP, me_N_nx, me_L_sI, me_L_sP, me_L_nx, show me_P M 20 0 0 = some (5, 0) from hm.1 (20, 0, 0, 5, 0) (by decide)]) kz) ?_
      refine jx_callV (x_Y_gotByFirst_0 _  hm) mt_Y_gotByFirst cf_Y rfl rfl ml_Y_178 im_Y_gotByFirst se_Y_gotByFirst d_Y_gate_78 rfl rfl (Nat.le_of_ble_eq_true rfl) ?_
      rintro _ _ ⟨rfl, rfl⟩
      refine jx_eq (st2 := [.inl 0]) rfl rfl rfl ?_
      refine jx_iret d_Y_gate_81 rfl ?_
      exact ⟨by first | (subst_vars; decide) | (rw [sw_res (sw_out t_12 (c := 5) (by decide))]), kp_rf⟩
    · skip
      refine jx_of (fun _ _ kz => jw_tabIn 82 d_Y_gate_12 (by rw [e_12]; decide) (by rw [e_12]; decide) (by rw [e_12]; rfl) (by decide) kz) ?_
      refine jx_of (fun _ _ kz => jw_aload_n 0 d_Y_gate_82 rfl rfl kz) ?_
      refine jx_of (fun _ _ kz => jw_getPe (some (21, 0)) fl_Y_62 d_Y_gate_83 rfl rfl (by simp [me_I_sI, me_I_sP, me_I_nx, me_P_sI, me_P_sP, me_P_nx, me_N_sI, me_N_sP, me_N_nx, me_L_sI, me_L_sP, me_L_nx, show me_P M 0 0 9 = some (21, 0) from hm.1 (0, 0, 9, 21, 0) (by decide)]) kz) ?_
      refine jx_of (fun _ _ kz => jw_iload_n 1 d_Y_gate_86 rfl rfl kz) ?_
      refine jx_of (fun _ _ kz => jw_aalde (some (6, 0)) d_Y_gate_87 rfl rfl (by rw [show me_L _ 21 0 = 2 from (by simp [me_I_sI, me_I_sP, me_I_nx, me_P_sI, me_P_sP, me_P_nx, me_N_sI, me_N_sP, me_N_nx, me_L_sI, me_L_sP, me_L_nx, show me_L M 21 0 = 2 from hm.2.1 (21, 0, 2) (by decide)])]; unfold vp_in; decide) (by simp [me_I_sI, me_I_sP, me_I_nx, me_P_sI, me_P_sP, me_P_nx, me_N_sI, me_N_sP, me_N_nx, me_L_sI, me_L_sP, me_L_nx, show me_P M 21 0 0 = some (6, 0) from hm.1 (21, 0, 0, 6, 0) (by decide)]) kz) ?_
      refine jx_of (fun _ _ kz => jw_getIe (0) fl_Y_182 d_Y_gate_88 rfl rfl (by simp [me_I_sI, me_I_sP, me_I_nx, me_P_sI, me_P_sP, me_P_nx, me_N_sI, me_N_sP, me_N_nx, me_L_sI, me_L_sP, me_L_nx, show me_I M 6 0 1 = 0 from hm.2.2 (6, 0, 1, 0) (by decide)]) kz) ?_
      refine jx_if_eq 98 d_Y_gate_91 (by decide) (fun _ => ?_) (fun h => absurd h (by decide))
      refine jx_of (fun _ _ kz => jw_iconst 0 d_Y_gate_98 (by decide) kz) ?_
      refine jx_iret d_Y_gate_99 rfl ?_
      exact ⟨by first | (subst_vars; decide) | (rw [sw_res (sw_out t_12 (c := 5) (by decide))]), kp_rf⟩
    · skip
      refine jx_of (fun _ _ kz => jw_tabIn 100 d_Y_gate_12 (by rw [e_12]; decide) (by rw [e_12]; decide) (by rw [e_12]; rfl) (by decide) kz) ?_
      refine jx_of (fun _ _ kz => jw_aload_n 0 d_Y_gate_100 rfl rfl kz) ?_
      refine jx_of (fun _ _ kz => jw_getPe (some (21, 0)) fl_Y_62 d_Y_gate_101 rfl rfl (by simp [me_I_sI, me_I_sP, me_I_nx, me_P_sI, me_P_sP, me_P_nx, me_N_sI, me_N_sP, me_N_nx, me_L_sI, me_L_sP, me_L_nx, show me_P M 0 0 9 = some (21, 0) from hm.1 (0, 0, 9, 21, 0) (by decide)]) kz) ?_
      refine jx_of (fun _ _ kz => jw_iload_n 1 d_Y_gate_104 rfl rfl kz) ?_
      refine jx_of (fun _ _ kz => jw_aalde (some (6, 0)) d_Y_gate_105 rfl rfl (by rw [show me_L _ 21 0 = 2 from (by simp [me_I_sI, me_I_sP, me_I_nx, me_P_sI, me_P_sP, me_P_nx, me_N_sI, me_N_sP, me_N_nx, me_L_sI, me_L_sP, me_L_nx, show me_L M 21 0 = 2 from hm.2.1 (21, 0, 2) (by decide)])]; unfold vp_in; decide) (by simp [me_I_sI, me_I_sP, me_I_nx, me_P_sI, me_P_sP, me_P_nx, me_N_sI, me_N_sP, me_N_nx, me_L_sI, me_L_sP, me_L_nx, show me_P M 21 0 0 = some (6, 0) from hm.1 (21, 0, 0, 6, 0) (by decide)]) kz) ?_
      refine jx_of (fun _ _ kz => jw_getPe (some (4, 7)) fl_Y_186 d_Y_gate_106 rfl rfl (by simp [me_I_sI, me_I_sP, me_I_nx, me_P_sI, me_P_sP, me_P_nx, me_N_sI, me_N_sP, me_N_nx, me_L_sI, me_L_sP, me_L_nx, show me_P M 6 0 0 = some (4, 7) from hm.1 (6, 0, 0, 4, 7) (by decide)]) kz) ?_
      refine jx_of (fun _ _ kz => jw_getIe (0) fl_Y_168 d_Y_gate_109 rfl rfl (by simp [me_I_sI, me_I_sP, me_I_nx, me_P_sI, me_P_sP, me_P_nx, me_N_sI, me_N_sP, me_N_nx, me_L_sI, me_L_sP, me_L_nx, show me_I M 4 7 1 = 0 from hm.2.2 (4, 7, 1, 0) (by decide)]) kz) ?_
      refine jx_iret d_Y_gate_112 rfl ?_
      exact ⟨by first | (subst_vars; decide) | (rw [sw_res (sw_out t_12 (c := 5) (by decide))]), kp_rf⟩
set_option maxRecDepth 20000 in
set_option maxHeartbeats 4000000 in
theorem x_Y_gotByFirst_1 {G : Gt} {M : Me} (d : Nat) (hm : cfr M) : sx G yt_Y_gotByFirst yn_Y_gotByFirst (d + 2) [.inr (some (0, 0)), .inr (some (5, 1))] M (fun r M' => r = some (.inl 0) ∧ M' = M) := by
  refine sx_of (k := 2) (lc := [some (.inr (some (0, 0))), some (.inr (some (5, 1))), none, none]) mt_Y_gotByFirst (Nat.le_of_ble_eq_true rfl) rfl ?_
  refine jx_of (fun _ _ kz => jw_aload_n 1 d_Y_gotByFirst_0 rfl rfl kz) ?_
  refine jx_of (fun _ _ kz => jw_getPe (some (4, 6)) fl_Y_175 d_Y_gotByFirst_1 rfl rfl (by simp [me_I_sI, me_I_sP, me_I_nx, me_P_sI, me_P_sP, me_P_nx, me_N_sI, me_N_sP, me_N_nx, me_L_sI, me_L_sP, me_L_nx, show me_P M 5 1 0 = some (4, 6) from hm.1 (5, 1, 0, 4, 6) (by decide)]) kz) ?_
  refine jx_callV (x_R_isEmpty _ 6 (by simp [me_I_sI, me_I_sP, me_I_nx, me_P_sI, me_P_sP, me_P_nx, me_N_sI, me_N_sP, me_N_nx, me_L_sI, me_L_sP, me_L_nx, show me_I M 4 6 1 = 0 from hm.2.2 (4, 6, 1, 0) (by decide)])) mt_R_isEmpty cf_R rfl rfl ml_Y_198 im_R_isEmpty se_R_isEmpty d_Y_gotByFirst_4 rfl rfl (Nat.le_of_ble_eq_true rfl) ?_
  rintro _ _ ⟨rfl, rfl⟩
  refine jx_eq (st2 := [.inl 1]) rfl rfl rfl ?_
  refine jx_if_eq 12 d_Y_gotByFirst_7 (by decide) (fun h => absurd h (by decide)) (fun _ => ?_)
  refine jx_of (fun _ _ kz => jw_iconst 0 d_Y_gotByFirst_10 (by decide) kz) ?_
  refine jx_iret d_Y_gotByFirst_11 rfl ?_
  exact ⟨rfl, rfl⟩
set_option maxRecDepth 20000 in
set_option maxHeartbeats 4000000 in
theorem x_Y_gate_1 {G : Gt} {M : Me} (d : Nat) (y : Int32) (hm : cfr M) : sx G yt_Y_gate yn_Y_gate (d + 3) [.inr (some (0, 0)), .inl 1, .inl y] M (fun r M' => r = some (.inl (if y < 0 then -1 else if 5 ≤ y then -1 else if y = 0 then 1 else 0)) ∧ kpM M M') := by
  refine sx_of (k := 0) (lc := [some (.inr (some (0, 0))), some (.inl 1), some (.inl y)]) mt_Y_gate (Nat.le_of_ble_eq_true rfl) rfl ?_
  refine jx_of (fun _ _ kz => jw_iload_n 1 d_Y_gate_0 rfl rfl kz) ?_
  refine jx_if_lt 9 d_Y_gate_1 (by decide) (fun h => absurd h (by decide)) (fun _ => ?_)
  refine jx_of (fun _ _ kz => jw_iload_n 1 d_Y_gate_4 rfl rfl kz) ?_
  refine jx_of (fun _ _ kz => jw_iconst 1 d_Y_gate_5 (by decide) kz) ?_
  refine jx_icmp_le 11 d_Y_gate_6 (by decide) (fun _ => ?_) (fun h => absurd h (by decide))
  refine jx_of (fun _ _ kz => jw_iload_n 2 d_Y_gate_11 rfl rfl kz) ?_
  rcases sw_cases (y) 5 (by decide) with t_12 | t_12
  · skip
    refine jx_of (fun _ _ kz => jw_tabOut 113 d_Y_gate_12 (by simpa using t_12) (by decide) kz) ?_
    refine jx_of (fun _ _ kz => jw_iconst (-1) d_Y_gate_113 (by decide) kz) ?_
    refine jx_iret d_Y_gate_114 rfl ?_
    exact ⟨by first | (subst_vars; decide) | (rw [sw_res (sw_out t_12 (c := 5) (by decide))]), kp_rf⟩
  · skip
    obtain ⟨j_12, t_12, e_12⟩ := t_12
    rcases (show j_12 = 0 ∨ j_12 = 1 ∨ j_12 = 2 ∨ j_12 = 3 ∨ j_12 = 4 by omega) with rfl | rfl | rfl | rfl | rfl
    · skip
      refine jx_of (fun _ _ kz => jw_tabIn 48 d_Y_gate_12 (by rw [e_12]; decide) (by rw [e_12]; decide) (by rw [e_12]; rfl) (by decide) kz) ?_
      refine jx_of (fun _ _ kz => jw_aload_n 0 d_Y_gate_48 rfl rfl kz) ?_
      refine jx_of (fun _ _ kz => jw_getPe (some (20, 0)) fl_Y_55 d_Y_gate_49 rfl rfl (by simp [me_I_sI, me_I_sP, me_I_nx, me_P_sI, me_P_sP, me_P_nx, me_N_sI, me_N_sP, me_N_nx, me_L_sI, me_L_sP, me_L_nx, show me_P M 0 0 8 = some (20, 0) from hm.1 (0, 0, 8, 20, 0) (by decide)]) kz) ?_
      refine jx_of (fun _ _ kz => jw_iload_n 1 d_Y_gate_52 rfl rfl kz) ?_
      refine jx_of (fun _ _ kz => jw_aalde (some (5, 1)) d_Y_gate_53 rfl rfl (by rw [show me_L _ 20 0 = 2 from (by simp [me_I_sI, me_I_sP, me_I_nx, me_P_sI, me_P_sP, me_P_nx, me_N_sI, me_N_sP, me_N_nx, me_L_sI, me_L_sP, me_L_nx, show me_L M 20 0 = 2 from hm.2.1 (20, 0, 2) (by decide)])]; unfold vp_in; decide) (by simp [me_I_sI, me_I_sP, me_I_nx, me_P_sI, me_P_sP, me_P_nx, me_N_sI, me_N_sP, me_N_nx, me_L_sI, me_L_sP, me_L_nx, show me_P M 20 0 1 = some (5, 1) from hm.1 (20, 0, 1, 5, 1) (by decide)]) kz) ?_
      refine jx_of (fun _ _ kz => jw_getIe (1) fl_Y_137 d_Y_gate_54 rfl rfl (by simp [me_I_sI, me_I_sP, me_I_nx, me_P_sI, me_P_sP, me_P_nx, me_N_sI, me_N_sP, me_N_nx, me_L_sI, me_L_sP, me_L_nx, show me_I M 5 1 1 = 1 from hm.2.2 (5, 1, 1, 1) (by decide)]) kz) ?_
      refine jx_iret d_Y_gate_57 rfl ?_
      exact ⟨by first | (subst_vars; decide) | (rw [sw_res (sw_out t_12 (c := 5) (by decide))]), kp_rf⟩
    · skip
      refine jx_of (fun _ _ kz => jw_tabIn 58 d_Y_gate_12 (by rw [e_12]; decide) (by rw [e_12]; decide) (by rw [e_12]; rfl) (by decide) kz) ?_
      refine jx_of (fun _ _ kz => jw_aload_n 0 d_Y_gate_58 rfl rfl kz) ?_
      refine jx_of (fun _ _ kz => jw_getPe (some (20, 0)) fl_Y_55 d_Y_gate_59 rfl rfl (by simp [me_I_sI, me_I_sP, me_I_nx, me_P_sI, me_P_sP, me_P_nx, me_N_sI, me_N_sP, me_N_nx, me_L_sI, me_L_sP, me_L_nx, show me_P M 0 0 8 = some (20, 0) from hm.1 (0, 0, 8, 20, 0) (by decide)]) kz) ?_
      refine jx_of (fun _ _ kz => jw_iload_n 1 d_Y_gate_62 rfl rfl kz) ?_
      refine jx_of (fun _ _ kz => jw_aalde (some (5, 1)) d_Y_gate_63 rfl rfl (by rw [show me_L _ 20 0 = 2 from (by simp [me_I_sI, me_I_sP, me_I_nx, me_P_sI, me_P_sP, me_P_nx, me_N_sI, me_N_sP, me_N_nx, me_L_sI, me_L_sP, me_L_nx, show me_L M 20 0 = 2 from hm.2.1 (20, 0, 2) (by decide)])]; unfold vp_in; decide) (by simp [me_I_sI, me_I_sP, me_I_nx, me_P_sI, me_P_sP, me_P_nx, me_N_sI, me_N_sP, me_N_nx, me_L_sI, me_L_sP, me_L_nx, show me_P M 20 0 1 = some (5, 1) from hm.1 (20, 0, 1, 5, 1) (by decide)]) kz) ?_
      refine jx_of (fun _ _ kz => jw_getPe (some (4, 6)) fl_Y_175 d_Y_gate_64 rfl rfl (by simp [me_I_sI, me_I_sP, me_I_nx, me_P_sI, me_P_sP, me_P_nx, me_N_sI, me_N_sP, me_N_nx, me_L_sI, me_L_sP, me_L_nx, show me_P M 5 1 0 = some (4, 6) from hm.1 (5, 1, 0, 4, 6) (by decide)]) kz) ?_
      refine jx_of (fun _ _ kz => jw_getIe (0) fl_Y_168 d_Y_gate_67 rfl rfl (by simp [me_I_sI, me_I_sP, me_I_nx, me_P_sI, me_P_sP, me_P_nx, me_N_sI, me_N_sP, me_N_nx, me_L_sI, me_L_sP, me_L_nx, show me_I M 4 6 1 = 0 from hm.2.2 (4, 6, 1, 0) (by decide)]) kz) ?_
      refine jx_iret d_Y_gate_70 rfl ?_
      exact ⟨by first | (subst_vars; decide) | (rw [sw_res (sw_out t_12 (c := 5) (by decide))]), kp_rf⟩
    · skip
      refine jx_of (fun _ _ kz => jw_tabIn 71 d_Y_gate_12 (by rw [e_12]; decide) (by rw [e_12]; decide) (by rw [e_12]; rfl) (by decide) kz) ?_
      refine jx_of (fun _ _ kz => jw_aload_n 0 d_Y_gate_71 rfl rfl kz) ?_
      refine jx_of (fun _ _ kz => jw_aload_n 0 d_Y_gate_72 rfl rfl kz) ?_
      refine jx_of (fun _ _ kz => jw_getPe (some (20, 0)) fl_Y_55 d_Y_gate_73 rfl rfl (by simp [me_I_sI, me_I_sP, me_I_nx, me_P_sI, me_P_sP, me_P_nx, me_N_sI, me_N_sP, me_N_nx, me_L_sI, me_L_sP, me_L_nx, show me_P M 0 0 8 = some (20, 0) from hm.1 (0, 0, 8, 20, 0) (by decide)]) kz) ?_
      refine jx_of (fun _ _ kz => jw_iload_n 1 d_Y_gate_76 rfl rfl kz) ?_
      refine jx_of (fun _ _ kz => jw_aalde (some (5, 1)) d_Y_gate_77 rfl rfl (by rw [show me_L _ 20 0 = 2 from (by simp [me_I_sI, me_I_sP, me_I_nx, me_P_sI, me_P_sP, me_P_nx, me_N_sI, me_N_sP, me_N_nx, me_L_sI, me_L_sP, me_L_nx, show me_L M 20 0 = 2 from hm.2.1 (20, 0, 2) (by decide)])]; unfold vp_in; decide) (by simp [me_I_sI, me_I_sP, me_I_nx, me_P_sI, me_P_sP, me_P_nx, me_N_sI, me_N_sP, me_N_nx, me_L_sI, me_L_sP, me_L_nx, show me_P M 20 0 1 = some (5, 1) from hm.1 (20, 0, 1, 5, 1) (by decide)]) kz) ?_
      refine jx_callV (x_Y_gotByFirst_1 _  hm) mt_Y_gotByFirst cf_Y rfl rfl ml_Y_178 im_Y_gotByFirst se_Y_gotByFirst d_Y_gate_78 rfl rfl (Nat.le_of_ble_eq_true rfl) ?_
      rintro _ _ ⟨rfl, rfl⟩
      refine jx_eq (st2 := [.inl 0]) rfl rfl rfl ?_
      refine jx_iret d_Y_gate_81 rfl ?_
      exact ⟨by first | (subst_vars; decide) | (rw [sw_res (sw_out t_12 (c := 5) (by decide))]), kp_rf⟩
    · skip
      refine jx_of (fun _ _ kz => jw_tabIn 82 d_Y_gate_12 (by rw [e_12]; decide) (by rw [e_12]; decide) (by rw [e_12]; rfl) (by decide) kz) ?_
      refine jx_of (fun _ _ kz => jw_aload_n 0 d_Y_gate_82 rfl rfl kz) ?_
      refine jx_of (fun _ _ kz => jw_getPe (some (21, 0)) fl_Y_62 d_Y_gate_83 rfl rfl (by simp [me_I_sI, me_I_sP, me_I_nx, me_P_sI, me_P_sP, me_P_nx, me_N_sI, me_N_sP, me_N_nx, me_L_sI, me_L_sP, me_L_nx, show me_P M 0 0 9 = some (21, 0) from hm.1 (0, 0, 9, 21, 0) (by decide)]) kz) ?_
      refine jx_of (fun _ _ kz => jw_iload_n 1 d_Y_gate_86 rfl rfl kz) ?_
      refine jx_of (fun _ _ kz => jw_aalde (some (6, 1)) d_Y_gate_87 rfl rfl (by rw [show me_L _ 21 0 = 2 from (by simp [me_I_sI, me_I_sP, me_I_nx, me_P_sI, me_P_sP, me_P_nx, me_N_sI, me_N_sP, me_N_nx, me_L_sI, me_L_sP, me_L_nx, show me_L M 21 0 = 2 from hm.2.1 (21, 0, 2) (by decide)])]; unfold vp_in; decide) (by simp [me_I_sI, me_I_sP, me_I_nx, me_P_sI, me_P_sP, me_P_nx, me_N_sI, me_N_sP, me_N_nx, me_L_sI, me_L_sP, me_L_nx, show me_P M 21 0 1 = some (6, 1) from hm.1 (21, 0, 1, 6, 1) (by decide)]) kz) ?_
      refine jx_of (fun _ _ kz => jw_getIe (0) fl_Y_182 d_Y_gate_88 rfl rfl (by simp [me_I_sI, me_I_sP, me_I_nx, me_P_sI, me_P_sP, me_P_nx, me_N_sI, me_N_sP, me_N_nx, me_L_sI, me_L_sP, me_L_nx, show me_I M 6 1 1 = 0 from hm.2.2 (6, 1, 1, 0) (by decide)]) kz) ?_
      refine jx_if_eq 98 d_Y_gate_91 (by decide) (fun _ => ?_) (fun h => absurd h (by decide))
      refine jx_of (fun _ _ kz => jw_iconst 0 d_Y_gate_98 (by decide) kz) ?_
      refine jx_iret d_Y_gate_99 rfl ?_
      exact ⟨by first | (subst_vars; decide) | (rw [sw_res (sw_out t_12 (c := 5) (by decide))]), kp_rf⟩
    · skip
      refine jx_of (fun _ _ kz => jw_tabIn 100 d_Y_gate_12 (by rw [e_12]; decide) (by rw [e_12]; decide) (by rw [e_12]; rfl) (by decide) kz) ?_
      refine jx_of (fun _ _ kz => jw_aload_n 0 d_Y_gate_100 rfl rfl kz) ?_
      refine jx_of (fun _ _ kz => jw_getPe (some (21, 0)) fl_Y_62 d_Y_gate_101 rfl rfl (by simp [me_I_sI, me_I_sP, me_I_nx, me_P_sI, me_P_sP, me_P_nx, me_N_sI, me_N_sP, me_N_nx, me_L_sI, me_L_sP, me_L_nx, show me_P M 0 0 9 = some (21, 0) from hm.1 (0, 0, 9, 21, 0) (by decide)]) kz) ?_
      refine jx_of (fun _ _ kz => jw_iload_n 1 d_Y_gate_104 rfl rfl kz) ?_
      refine jx_of (fun _ _ kz => jw_aalde (some (6, 1)) d_Y_gate_105 rfl rfl (by rw [show me_L _ 21 0 = 2 from (by simp [me_I_sI, me_I_sP, me_I_nx, me_P_sI, me_P_sP, me_P_nx, me_N_sI, me_N_sP, me_N_nx, me_L_sI, me_L_sP, me_L_nx, show me_L M 21 0 = 2 from hm.2.1 (21, 0, 2) (by decide)])]; unfold vp_in; decide) (by simp [me_I_sI, me_I_sP, me_I_nx, me_P_sI, me_P_sP, me_P_nx, me_N_sI, me_N_sP, me_N_nx, me_L_sI, me_L_sP, me_L_nx, show me_P M 21 0 1 = some (6, 1) from hm.1 (21, 0, 1, 6, 1) (by decide)]) kz) ?_
      refine jx_of (fun _ _ kz => jw_getPe (some (4, 8)) fl_Y_186 d_Y_gate_106 rfl rfl (by simp [me_I_sI, me_I_sP, me_I_nx, me_P_sI, me_P_sP, me_P_nx, me_N_sI, me_N_sP, me_N_nx, me_L_sI, me_L_sP, me_L_nx, show me_P M 6 1 0 = some (4, 8) from hm.1 (6, 1, 0, 4, 8) (by decide)]) kz) ?_
      refine jx_of (fun _ _ kz => jw_getIe (0) fl_Y_168 d_Y_gate_109 rfl rfl (by simp [me_I_sI, me_I_sP, me_I_nx, me_P_sI, me_P_sP, me_P_nx, me_N_sI, me_N_sP, me_N_nx, me_L_sI, me_L_sP, me_L_nx, show me_I M 4 8 1 = 0 from hm.2.2 (4, 8, 1, 0) (by decide)]) kz) ?_
      refine jx_iret d_Y_gate_112 rfl ?_
      exact ⟨by first | (subst_vars; decide) | (rw [sw_res (sw_out t_12 (c := 5) (by decide))]), kp_rf⟩
set_option maxRecDepth 20000 in
set_option maxHeartbeats 4000000 in
theorem x_Y_gate_x {G : Gt} {M : Me} (d : Nat) (x : Int32) (y : Int32) (hm : cfr M) (hx : x < 0 ∨ 1 < x) : sx G yt_Y_gate yn_Y_gate (d + 3) [.inr (some (0, 0)), .inl x, .inl y] M (fun r M' => r = some (.inl (-1)) ∧ kpM M M') := by
  refine sx_of (k := 0) (lc := [some (.inr (some (0, 0))), some (.inl x), some (.inl y)]) mt_Y_gate (Nat.le_of_ble_eq_true rfl) rfl ?_
  refine jx_of (fun _ _ kz => jw_iload_n 1 d_Y_gate_0 rfl rfl kz) ?_
  refine jx_if_lt 9 d_Y_gate_1 (by decide) (fun b_1 => ?_) (fun b_1 => ?_)
  · skip
    refine jx_of (fun _ _ kz => jw_iconst (-1) d_Y_gate_9 (by decide) kz) ?_
    refine jx_iret d_Y_gate_10 rfl ?_
    exact ⟨rfl, kp_rf⟩
  · skip
    refine jx_of (fun _ _ kz => jw_iload_n 1 d_Y_gate_4 rfl rfl kz) ?_
    refine jx_of (fun _ _ kz => jw_iconst 1 d_Y_gate_5 (by decide) kz) ?_
    refine jx_icmp_le 11 d_Y_gate_6 (by decide) (fun h => absurd h (by rcases hx with q | q; exact absurd q b_1; exact Int32.not_le.mpr q)) (fun _ => ?_)
    refine jx_of (fun _ _ kz => jw_iconst (-1) d_Y_gate_9 (by decide) kz) ?_
    refine jx_iret d_Y_gate_10 rfl ?_
    exact ⟨rfl, kp_rf⟩
set_option maxRecDepth 20000 in
set_option maxHeartbeats 4000000 in
theorem x_Y_worker_0 {G : Gt} {M : Me} (d : Nat) (y : Int32) (hm : cfr M) : sx G yt_Y_worker yn_Y_worker (d + 2) [.inr (some (0, 0)), .inl 0, .inl y] M (fun r M' => r = some (.inl (if y < 0 then -1 else if 8 ≤ y then -1 else if y = 0 then -1 else if y < 3 then 0 else if y < 7 then -1 else 0)) ∧ kpM M M') := by
  refine sx_of (k := 1) (lc := [some (.inr (some (0, 0))), some (.inl 0), some (.inl y), none]) mt_Y_worker (Nat.le_of_ble_eq_true rfl) rfl ?_
  refine jx_of (fun _ _ kz => jw_iload_n 1 d_Y_worker_0 rfl rfl kz) ?_
  refine jx_if_lt 9 d_Y_worker_1 (by decide) (fun h => absurd h (by decide)) (fun _ => ?_)
  refine jx_of (fun _ _ kz => jw_iload_n 1 d_Y_worker_4 rfl rfl kz) ?_
  refine jx_of (fun _ _ kz => jw_iconst 3 d_Y_worker_5 (by decide) kz) ?_
  refine jx_icmp_lt 11 d_Y_worker_6 (by decide) (fun _ => ?_) (fun h => absurd h (by decide))
  refine jx_of (fun _ _ kz => jw_aload_n 0 d_Y_worker_11 rfl rfl kz) ?_
  refine jx_of (fun _ _ kz => jw_getPe (some (19, 0)) fl_Y_38 d_Y_worker_12 rfl rfl (by simp [me_I_sI, me_I_sP, me_I_nx, me_P_sI, me_P_sP, me_P_nx, me_N_sI, me_N_sP, me_N_nx, me_L_sI, me_L_sP, me_L_nx, show me_P M 0 0 5 = some (19, 0) from hm.1 (0, 0, 5, 19, 0) (by decide)]) kz) ?_
  refine jx_of (fun _ _ kz => jw_iload_n 1 d_Y_worker_15 rfl rfl kz) ?_
  refine jx_of (fun _ _ kz => jw_aalde (some (3, 0)) d_Y_worker_16 rfl rfl (by rw [show me_L _ 19 0 = 3 from (by simp [me_I_sI, me_I_sP, me_I_nx, me_P_sI, me_P_sP, me_P_nx, me_N_sI, me_N_sP, me_N_nx, me_L_sI, me_L_sP, me_L_nx, show me_L M 19 0 = 3 from hm.2.1 (19, 0, 3) (by decide)])]; unfold vp_in; decide) (by simp [me_I_sI, me_I_sP, me_I_nx, me_P_sI, me_P_sP, me_P_nx, me_N_sI, me_N_sP, me_N_nx, me_L_sI, me_L_sP, me_L_nx, show me_P M 19 0 0 = some (3, 0) from hm.1 (19, 0, 0, 3, 0) (by decide)]) kz) ?_
  refine jx_of (fun _ _ kz => jw_astore_n 3 d_Y_worker_17 rfl (Nat.le_of_ble_eq_true rfl) kz) ?_
  dsimp only [List.set]
  refine jx_of (fun _ _ kz => jw_iload_n 2 d_Y_worker_18 rfl rfl kz) ?_
  rcases sw_cases (y) 8 (by decide) with t_19 | t_19
  · skip
    refine jx_of (fun _ _ kz => jw_tabOut 98 d_Y_worker_19 (by simpa using t_19) (by decide) kz) ?_
    refine jx_of (fun _ _ kz => jw_iconst (-1) d_Y_worker_98 (by decide) kz) ?_
    refine jx_iret d_Y_worker_99 rfl ?_
    exact ⟨by first | (subst_vars; decide) | (rw [sw_res (sw_out t_19 (c := 8) (by decide))]), kp_rf⟩
  · skip
    obtain ⟨j_19, t_19, e_19⟩ := t_19
    rcases (show j_19 = 0 ∨ j_19 = 1 ∨ j_19 = 2 ∨ j_19 = 3 ∨ j_19 = 4 ∨ j_19 = 5 ∨ j_19 = 6 ∨ j_19 = 7 by omega) with rfl | rfl | rfl | rfl | rfl | rfl | rfl | rfl
    · skip
      refine jx_of (fun _ _ kz => jw_tabIn 64 d_Y_worker_19 (by rw [e_19]; decide) (by rw [e_19]; decide) (by rw [e_19]; rfl) (by decide) kz) ?_
      refine jx_of (fun _ _ kz => jw_aload_n 3 d_Y_worker_64 rfl rfl kz) ?_
      refine jx_of (fun _ _ kz => jw_getIe ((-1)) fl_Y_159 d_Y_worker_65 rfl rfl (by simp [me_I_sI, me_I_sP, me_I_nx, me_P_sI, me_P_sP, me_P_nx, me_N_sI, me_N_sP, me_N_nx, me_L_sI, me_L_sP, me_L_nx, show me_I M 3 0 2 = (-1) from hm.2.2 (3, 0, 2, (-1)) (by decide)]) kz) ?_
      refine jx_iret d_Y_worker_68 rfl ?_
      exact ⟨by first | (subst_vars; decide) | (rw [sw_res (sw_out t_19 (c := 8) (by decide))]), kp_rf⟩
    · skip
      refine jx_of (fun _ _ kz => jw_tabIn 69 d_Y_worker_19 (by rw [e_19]; decide) (by rw [e_19]; decide) (by rw [e_19]; rfl) (by decide) kz) ?_
      refine jx_of (fun _ _ kz => jw_aload_n 3 d_Y_worker_69 rfl rfl kz) ?_
      refine jx_of (fun _ _ kz => jw_getIe (0) fl_Y_162 d_Y_worker_70 rfl rfl (by simp [me_I_sI, me_I_sP, me_I_nx, me_P_sI, me_P_sP, me_P_nx, me_N_sI, me_N_sP, me_N_nx, me_L_sI, me_L_sP, me_L_nx, show me_I M 3 0 3 = 0 from hm.2.2 (3, 0, 3, 0) (by decide)]) kz) ?_
      refine jx_iret d_Y_worker_73 rfl ?_
      exact ⟨by first | (subst_vars; decide) | (rw [sw_res (sw_out t_19 (c := 8) (by decide))]), kp_rf⟩
    · skip
      refine jx_of (fun _ _ kz => jw_tabIn 74 d_Y_worker_19 (by rw [e_19]; decide) (by rw [e_19]; decide) (by rw [e_19]; rfl) (by decide) kz) ?_
      refine jx_of (fun _ _ kz => jw_aload_n 3 d_Y_worker_74 rfl rfl kz) ?_
      refine jx_of (fun _ _ kz => jw_getPe (some (4, 0)) fl_Y_165 d_Y_worker_75 rfl rfl (by simp [me_I_sI, me_I_sP, me_I_nx, me_P_sI, me_P_sP, me_P_nx, me_N_sI, me_N_sP, me_N_nx, me_L_sI, me_L_sP, me_L_nx, show me_P M 3 0 1 = some (4, 0) from hm.1 (3, 0, 1, 4, 0) (by decide)]) kz) ?_
      refine jx_of (fun _ _ kz => jw_getIe (0) fl_Y_168 d_Y_worker_78 rfl rfl (by simp [me_I_sI, me_I_sP, me_I_nx, me_P_sI, me_P_sP, me_P_nx, me_N_sI, me_N_sP, me_N_nx, me_L_sI, me_L_sP, me_L_nx, show me_I M 4 0 1 = 0 from hm.2.2 (4, 0, 1, 0) (by decide)]) kz) ?_
      refine jx_iret d_Y_worker_81 rfl ?_
      exact ⟨by first | (subst_vars; decide) | (rw [sw_res (sw_out t_19 (c := 8) (by decide))]), kp_rf⟩
    · skip
      refine jx_of (fun _ _ kz => jw_tabIn 82 d_Y_worker_19 (by rw [e_19]; decide) (by rw [e_19]; decide) (by rw [e_19]; rfl) (by decide) kz) ?_
      refine jx_of (fun _ _ kz => jw_aload_n 3 d_Y_worker_82 rfl rfl kz) ?_
      refine jx_of (fun _ _ kz => jw_getPe (some (4, 0)) fl_Y_165 d_Y_worker_83 rfl rfl (by simp [me_I_sI, me_I_sP, me_I_nx, me_P_sI, me_P_sP, me_P_nx, me_N_sI, me_N_sP, me_N_nx, me_L_sI, me_L_sP, me_L_nx, show me_P M 3 0 1 = some (4, 0) from hm.1 (3, 0, 1, 4, 0) (by decide)]) kz) ?_
      refine jx_of (fun _ _ kz => jw_iload_n 2 d_Y_worker_86 rfl rfl kz) ?_
      refine jx_of (fun _ _ kz => jw_iconst 3 d_Y_worker_87 (by decide) kz) ?_
      refine jx_of (fun _ _ kz => jw_isub d_Y_worker_88 kz) ?_
      refine jx_callV (x_R_at _ 0 ((y - 3)) (by simp [me_I_sI, me_I_sP, me_I_nx, me_P_sI, me_P_sP, me_P_nx, me_N_sI, me_N_sP, me_N_nx, me_L_sI, me_L_sP, me_L_nx, show me_I M 4 0 1 = 0 from hm.2.2 (4, 0, 1, 0) (by decide)])) mt_R_at cf_R rfl rfl ml_Y_169 im_R_at se_R_at d_Y_worker_89 rfl rfl (Nat.le_of_ble_eq_true rfl) ?_
      rintro _ _ ⟨rfl, rfl⟩
      refine jx_eq (st2 := [.inl ((-1))]) rfl rfl rfl ?_
      refine jx_iret d_Y_worker_92 rfl ?_
      exact ⟨by first | (subst_vars; decide) | (rw [sw_res (sw_out t_19 (c := 8) (by decide))]), kp_rf⟩
    · skip
      refine jx_of (fun _ _ kz => jw_tabIn 82 d_Y_worker_19 (by rw [e_19]; decide) (by rw [e_19]; decide) (by rw [e_19]; rfl) (by decide) kz) ?_
      refine jx_of (fun _ _ kz => jw_aload_n 3 d_Y_worker_82 rfl rfl kz) ?_
      refine jx_of (fun _ _ kz => jw_getPe (some (4, 0)) fl_Y_165 d_Y_worker_83 rfl rfl (by simp [me_I_sI, me_I_sP, me_I_nx, me_P_sI, me_P_sP, me_P_nx, me_N_sI, me_N_sP, me_N_nx, me_L_sI, me_L_sP, me_L_nx, show me_P M 3 0 1 = some (4, 0) from hm.1 (3, 0, 1, 4, 0) (by decide)]) kz) ?_
      refine jx_of (fun _ _ kz => jw_iload_n 2 d_Y_worker_86 rfl rfl kz) ?_
      refine jx_of (fun _ _ kz => jw_iconst 3 d_Y_worker_87 (by decide) kz) ?_
      refine jx_of (fun _ _ kz => jw_isub d_Y_worker_88 kz) ?_
      refine jx_callV (x_R_at _ 0 ((y - 3)) (by simp [me_I_sI, me_I_sP, me_I_nx, me_P_sI, me_P_sP, me_P_nx, me_N_sI, me_N_sP, me_N_nx, me_L_sI, me_L_sP, me_L_nx, show me_I M 4 0 1 = 0 from hm.2.2 (4, 0, 1, 0) (by decide)])) mt_R_at cf_R rfl rfl ml_Y_169 im_R_at se_R_at d_Y_worker_89 rfl rfl (Nat.le_of_ble_eq_true rfl) ?_
      rintro _ _ ⟨rfl, rfl⟩
      refine jx_eq (st2 := [.inl ((-1))]) rfl rfl rfl ?_
      refine jx_iret d_Y_worker_92 rfl ?_
      exact ⟨by first | (subst_vars; decide) | (rw [sw_res (sw_out t_19 (c := 8) (by decide))]), kp_rf⟩
    · skip
      refine jx_of (fun _ _ kz => jw_tabIn 82 d_Y_worker_19 (by rw [e_19]; decide) (by rw [e_19]; decide) (by rw [e_19]; rfl) (by decide) kz) ?_
      refine jx_of (fun _ _ kz => jw_aload_n 3 d_Y_worker_82 rfl rfl kz) ?_
      refine jx_of (fun _ _ kz => jw_getPe (some (4, 0)) fl_Y_165 d_Y_worker_83 rfl rfl (by simp [me_I_sI, me_I_sP, me_I_nx, me_P_sI, me_P_sP, me_P_nx, me_N_sI, me_N_sP, me_N_nx, me_L_sI, me_L_sP, me_L_nx, show me_P M 3 0 1 = some (4, 0) from hm.1 (3, 0, 1, 4, 0) (by decide)]) kz) ?_
      refine jx_of (fun _ _ kz => jw_iload_n 2 d_Y_worker_86 rfl rfl kz) ?_
      refine jx_of (fun _ _ kz => jw_iconst 3 d_Y_worker_87 (by decide) kz) ?_
      refine jx_of (fun _ _ kz => jw_isub d_Y_worker_88 kz) ?_
      refine jx_callV (x_R_at _ 0 ((y - 3)) (by simp [me_I_sI, me_I_sP, me_I_nx, me_P_sI, me_P_sP, me_P_nx, me_N_sI, me_N_sP, me_N_nx, me_L_sI, me_L_sP, me_L_nx, show me_I M 4 0 1 = 0 from hm.2.2 (4, 0, 1, 0) (by decide)])) mt_R_at cf_R rfl rfl ml_Y_169 im_R_at se_R_at d_Y_worker_89 rfl rfl (Nat.le_of_ble_eq_true rfl) ?_
      rintro _ _ ⟨rfl, rfl⟩
      refine jx_eq (st2 := [.inl ((-1))]) rfl rfl rfl ?_
      refine jx_iret d_Y_worker_92 rfl ?_
      exact ⟨by first | (subst_vars; decide) | (rw [sw_res (sw_out t_19 (c := 8) (by decide))]), kp_rf⟩
    · skip
      refine jx_of (fun _ _ kz => jw_tabIn 82 d_Y_worker_19 (by rw [e_19]; decide) (by rw [e_19]; decide) (by rw [e_19]; rfl) (by decide) kz) ?_
      refine jx_of (fun _ _ kz => jw_aload_n 3 d_Y_worker_82 rfl rfl kz) ?_
      refine jx_of (fun _ _ kz => jw_getPe (some (4, 0)) fl_Y_165 d_Y_worker_83 rfl rfl (by simp [me_I_sI, me_I_sP, me_I_nx, me_P_sI, me_P_sP, me_P_nx, me_N_sI, me_N_sP, me_N_nx, me_L_sI, me_L_sP, me_L_nx, show me_P M 3 0 1 = some (4, 0) from hm.1 (3, 0, 1, 4, 0) (by decide)]) kz) ?_
      refine jx_of (fun _ _ kz => jw_iload_n 2 d_Y_worker_86 rfl rfl kz) ?_
      refine jx_of (fun _ _ kz => jw_iconst 3 d_Y_worker_87 (by decide) kz) ?_
      refine jx_of (fun _ _ kz => jw_isub d_Y_worker_88 kz) ?_
      refine jx_callV (x_R_at _ 0 ((y - 3)) (by simp [me_I_sI, me_I_sP, me_I_nx, me_P_sI, me_P_sP, me_P_nx, me_N_sI, me_N_sP, me_N_nx, me_L_sI, me_L_sP, me_L_nx, show me_I M 4 0 1 = 0 from hm.2.2 (4, 0, 1, 0) (by decide)])) mt_R_at cf_R rfl rfl ml_Y_169 im_R_at se_R_at d_Y_worker_89 rfl rfl (Nat.le_of_ble_eq_true rfl) ?_
      rintro _ _ ⟨rfl, rfl⟩
      refine jx_eq (st2 := [.inl ((-1))]) rfl rfl rfl ?_
      refine jx_iret d_Y_worker_92 rfl ?_
      exact ⟨by first | (subst_vars; decide) | (rw [sw_res (sw_out t_19 (c := 8) (by decide))]), kp_rf⟩
    · skip
      refine jx_of (fun _ _ kz => jw_tabIn 93 d_Y_worker_19 (by rw [e_19]; decide) (by rw [e_19]; decide) (by rw [e_19]; rfl) (by decide) kz) ?_
      refine jx_of (fun _ _ kz => jw_aload_n 3 d_Y_worker_93 rfl rfl kz) ?_
      refine jx_of (fun _ _ kz => jw_getIe (0) fl_Y_172 d_Y_worker_94 rfl rfl (by simp [me_I_sI, me_I_sP, me_I_nx, me_P_sI, me_P_sP, me_P_nx, me_N_sI, me_N_sP, me_N_nx, me_L_sI, me_L_sP, me_L_nx, show me_I M 3 0 4 = 0 from hm.2.2 (3, 0, 4, 0) (by decide)]) kz) ?_
      refine jx_iret d_Y_worker_97 rfl ?_
      exact ⟨by first | (subst_vars; decide) | (rw [sw_res (sw_out t_19 (c := 8) (by decide))]), kp_rf⟩
set_option maxRecDepth 20000 in
set_option maxHeartbeats 4000000 in
theorem x_Y_worker_1 {G : Gt} {M : Me} (d : Nat) (y : Int32) (hm : cfr M) : sx G yt_Y_worker yn_Y_worker (d + 2) [.inr (some (0, 0)), .inl 1, .inl y] M (fun r M' => r = some (.inl (if y < 0 then -1 else if 8 ≤ y then -1 else if y = 0 then -1 else if y < 3 then 0 else if y < 7 then -1 else 0)) ∧ kpM M M') := by
  refine sx_of (k := 1) (lc := [some (.inr (some (0, 0))), some (.inl 1), some (.inl y), none]) mt_Y_worker (Nat.le_of_ble_eq_true rfl) rfl ?_
  refine jx_of (fun _ _ kz => jw_iload_n 1 d_Y_worker_0 rfl rfl kz) ?_
  refine jx_if_lt 9 d_Y_worker_1 (by decide) (fun h => absurd h (by decide)) (fun _ => ?_)
  refine jx_of (fun _ _ kz => jw_iload_n 1 d_Y_worker_4 rfl rfl kz) ?_
  refine jx_of (fun _ _ kz => jw_iconst 3 d_Y_worker_5 (by decide) kz) ?_
  refine jx_icmp_lt 11 d_Y_worker_6 (by decide) (fun _ => ?_) (fun h => absurd h (by decide))
  refine jx_of (fun _ _ kz => jw_aload_n 0 d_Y_worker_11 rfl rfl kz) ?_
  refine jx_of (fun _ _ kz => jw_getPe (some (19, 0)) fl_Y_38 d_Y_worker_12 rfl rfl (by simp [me_I_sI, me_I_sP, me_I_nx, me_P_sI, me_P_sP, me_P_nx, me_N_sI, me_N_sP, me_N_nx, me_L_sI, me_L_sP, me_L_nx, show me_P M 0 0 5 = some (19, 0) from hm.1 (0, 0, 5, 19, 0) (by decide)]) kz) ?_
  refine jx_of (fun _ _ kz => jw_iload_n 1 d_Y_worker_15 rfl rfl kz) ?_
  refine jx_of (fun _ _ kz => jw_aalde (some (3, 1)) d_Y_worker_16 rfl rfl (by rw [show me_L _ 19 0 = 3 from (by simp [me_I_sI, me_I_sP, me_I_nx, me_P_sI, me_P_sP, me_P_nx, me_N_sI, me_N_sP, me_N_nx, me_L_sI, me_L_sP, me_L_nx, show me_L M 19 0 = 3 from hm.2.1 (19, 0, 3) (by decide)])]; unfold vp_in; decide) (by simp [me_I_sI, me_I_sP, me_I_nx, me_P_sI, me_P_sP, me_P_nx, me_N_sI, me_N_sP, me_N_nx, me_L_sI, me_L_sP, me_L_nx, show me_P M 19 0 1 = some (3, 1) from hm.1 (19, 0, 1, 3, 1) (by decide)]) kz) ?_
  refine jx_of (fun _ _ kz => jw_astore_n 3 d_Y_worker_17 rfl (Nat.le_of_ble_eq_true rfl) kz) ?_
  dsimp only [List.set]
  refine jx_of (fun _ _ kz => jw_iload_n 2 d_Y_worker_18 rfl rfl kz) ?_
  rcases sw_cases (y) 8 (by decide) with t_19 | t_19
  · skip
    refine jx_of (fun _ _ kz => jw_tabOut 98 d_Y_worker_19 (by simpa using t_19) (by decide) kz) ?_
    refine jx_of (fun _ _ kz => jw_iconst (-1) d_Y_worker_98 (by decide) kz) ?_
    refine jx_iret d_Y_worker_99 rfl ?_
    exact ⟨by first | (subst_vars; decide) | (rw [sw_res (sw_out t_19 (c := 8) (by decide))]), kp_rf⟩
  · skip
    obtain ⟨j_19, t_19, e_19⟩ := t_19
    rcases (show j_19 = 0 ∨ j_19 = 1 ∨ j_19 = 2 ∨ j_19 = 3 ∨ j_19 = 4 ∨ j_19 = 5 ∨ j_19 = 6 ∨ j_19 = 7 by omega) with rfl | rfl | rfl | rfl | rfl | rfl | rfl | rfl
    · skip
      refine jx_of (fun _ _ kz => jw_tabIn 64 d_Y_worker_19 (by rw [e_19]; decide) (by rw [e_19]; decide) (by rw [e_19]; rfl) (by decide) kz) ?_
      refine jx_of (fun _ _ kz => jw_aload_n 3 d_Y_worker_64 rfl rfl kz) ?_
      refine jx_of (fun _ _ kz => jw_getIe ((-1)) fl_Y_159 d_Y_worker_65 rfl rfl (by simp [me_I_sI, me_I_sP, me_I_nx, me_P_sI, me_P_sP, me_P_nx, me_N_sI, me_N_sP, me_N_nx, me_L_sI, me_L_sP, me_L_nx, show me_I M 3 1 2 = (-1) from hm.2.2 (3, 1, 2, (-1)) (by decide)]) kz) ?_
      refine jx_iret d_Y_worker_68 rfl ?_
      exact ⟨by first | (subst_vars; decide) | (rw [sw_res (sw_out t_19 (c := 8) (by decide))]), kp_rf⟩
    · skip
      refine jx_of (fun _ _ kz => jw_tabIn 69 d_Y_worker_19 (by rw [e_19]; decide) (by rw [e_19]; decide) (by rw [e_19]; rfl) (by decide) kz) ?_
      refine jx_of (fun _ _ kz => jw_aload_n 3 d_Y_worker_69 rfl rfl kz) ?_
      refine jx_of (fun _ _ kz => jw_getIe (0) fl_Y_162 d_Y_worker_70 rfl rfl (by simp [me_I_sI, me_I_sP, me_I_nx, me_P_sI, me_P_sP, me_P_nx, me_N_sI, me_N_sP, me_N_nx, me_L_sI, me_L_sP, me_L_nx, show me_I M 3 1 3 = 0 from hm.2.2 (3, 1, 3, 0) (by decide)]) kz) ?_
      refine jx_iret d_Y_worker_73 rfl ?_
      exact ⟨by first | (subst_vars; decide) | (rw [sw_res (sw_out t_19 (c := 8) (by decide))]), kp_rf⟩
    · skip
      refine jx_of (fun _ _ kz => jw_tabIn 74 d_Y_worker_19 (by rw [e_19]; decide) (by rw [e_19]; decide) (by rw [e_19]; rfl) (by decide) kz) ?_
      refine jx_of (fun _ _ kz => jw_aload_n 3 d_Y_worker_74 rfl rfl kz) ?_
      refine jx_of (fun _ _ kz => jw_getPe (some (4, 1)) fl_Y_165 d_Y_worker_75 rfl rfl (by simp [me_I_sI, me_I_sP, me_I_nx, me_P_sI, me_P_sP, me_P_nx, me_N_sI, me_N_sP, me_N_nx, me_L_sI, me_L_sP, me_L_nx, show me_P M 3 1 1 = some (4, 1) from hm.1 (3, 1, 1, 4, 1) (by decide)]) kz) ?_
      refine jx_of (fun _ _ kz => jw_getIe (0) fl_Y_168 d_Y_worker_78 rfl rfl (by simp [me_I_sI, me_I_sP, me_I_nx, me_P_sI, me_P_sP, me_P_nx, me_N_sI, me_N_sP, me_N_nx, me_L_sI, me_L_sP, me_L_nx, show me_I M 4 1 1 = 0 from hm.2.2 (4, 1, 1, 0) (by decide)]) kz) ?_
      refine jx_iret d_Y_worker_81 rfl ?_
      exact ⟨by first | (subst_vars; decide) | (rw [sw_res (sw_out t_19 (c := 8) (by decide))]), kp_rf⟩
    · skip
      refine jx_of (fun _ _ kz => jw_tabIn 82 d_Y_worker_19 (by rw [e_19]; decide) (by rw [e_19]; decide) (by rw [e_19]; rfl) (by decide) kz) ?_
      refine jx_of (fun _ _ kz => jw_aload_n 3 d_Y_worker_82 rfl rfl kz) ?_
      refine jx_of (fun _ _ kz => jw_getPe (some (4, 1)) fl_Y_165 d_Y_worker_83 rfl rfl (by simp [me_I_sI, me_I_sP, me_I_nx, me_P_sI, me_P_sP, me_P_nx, me_N_sI, me_N_sP, me_N_nx, me_L_sI, me_L_sP, me_L_nx, show me_P M 3 1 1 = some (4, 1) from hm.1 (3, 1, 1, 4, 1) (by decide)]) kz) ?_
      refine jx_of (fun _ _ kz => jw_iload_n 2 d_Y_worker_86 rfl rfl kz) ?_
      refine jx_of (fun _ _ kz => jw_iconst 3 d_Y_worker_87 (by decide) kz) ?_
      refine jx_of (fun _ _ kz => jw_isub d_Y_worker_88 kz) ?_
      refine jx_callV (x_R_at _ 1 ((y - 3)) (by simp [me_I_sI, me_I_sP, me_I_nx, me_P_sI, me_P_sP, me_P_nx, me_N_sI, me_N_sP, me_N_nx, me_L_sI, me_L_sP, me_L_nx, show me_I M 4 1 1 = 0 from hm.2.2 (4, 1, 1, 0) (by decide)])) mt_R_at cf_R rfl rfl ml_Y_169 im_R_at se_R_at d_Y_worker_89 rfl rfl (Nat.le_of_ble_eq_true rfl) ?_
      rintro _ _ ⟨rfl, rfl⟩
      refine jx_eq (st2 := [.inl ((-1))]) rfl rfl rfl ?_
      refine jx_iret d_Y_worker_92 rfl ?_
      exact ⟨by first | (subst_vars; decide) | (rw [sw_res (sw_out t_19 (c := 8) (by decide))]), kp_rf⟩
    · skip
      refine jx_of (fun _ _ kz => jw_tabIn 82 d_Y_worker_19 (by rw [e_19]; decide) (by rw [e_19]; decide) (by rw [e_19]; rfl) (by decide) kz) ?_
      refine jx_of (fun _ _ kz => jw_aload_n 3 d_Y_worker_82 rfl rfl kz) ?_
      refine jx_of (fun _ _ kz => jw_getPe (some (4, 1)) fl_Y_165 d_Y_worker_83 rfl rfl (by simp [me_I_sI, me_I_sP, me_I_nx, me_P_sI, me_P_sP, me_P_nx, me_N_sI, me_N_sP, me_N_nx, me_L_sI, me_L_sP, me_L_nx, show me_P M 3 1 1 = some (4, 1) from hm.1 (3, 1, 1, 4, 1) (by decide)]) kz) ?_
      refine jx_of (fun _ _ kz => jw_iload_n 2 d_Y_worker_86 rfl rfl kz) ?_
      refine jx_of (fun _ _ kz => jw_iconst 3 d_Y_worker_87 (by decide) kz) ?_
      refine jx_of (fun _ _ kz => jw_isub d_Y_worker_88 kz) ?_
      refine jx_callV (x_R_at _ 1 ((y - 3)) (by simp [me_I_sI, me_I_sP, me_I_nx, me_P_sI, me_P_sP, me_P_nx, me_N_sI, me_N_sP, me_N_nx, me_L_sI, me_L_sP, me_L_nx, show me_I M 4 1 1 = 0 from hm.2.2 (4, 1, 1, 0) (by decide)])) mt_R_at cf_R rfl rfl ml_Y_169 im_R_at se_R_at d_Y_worker_89 rfl rfl (Nat.le_of_ble_eq_true rfl) ?_
      rintro _ _ ⟨rfl, rfl⟩
      refine jx_eq (st2 := [.inl ((-1))]) rfl rfl rfl ?_
      refine jx_iret d_Y_worker_92 rfl ?_
      exact ⟨by first | (subst_vars; decide) | (rw [sw_res (sw_out t_19 (c := 8) (by decide))]), kp_rf⟩
    · skip
      refine jx_of (fun _ _ kz => jw_tabIn 82 d_Y_worker_19 (by rw [e_19]; decide) (by rw [e_19]; decide) (by rw [e_19]; rfl) (by decide) kz) ?_
      refine jx_of (fun _ _ kz => jw_aload_n 3 d_Y_worker_82 rfl rfl kz) ?_
      refine jx_of (fun _ _ kz => jw_getPe (some (4, 1)) fl_Y_165 d_Y_worker_83 rfl rfl (by simp [me_I_sI, me_I_sP, me_I_nx, me_P_sI, me_P_sP, me_P_nx, me_N_sI, me_N_sP, me_N_nx, me_L_sI, me_L_sP, me_L_nx, show me_P M 3 1 1 = some (4, 1) from hm.1 (3, 1, 1, 4, 1) (by decide)]) kz) ?_
      refine jx_of (fun _ _ kz => jw_iload_n 2 d_Y_worker_86 rfl rfl kz) ?_
      refine jx_of (fun _ _ kz => jw_iconst 3 d_Y_worker_87 (by decide) kz) ?_
      refine jx_of (fun _ _ kz => jw_isub d_Y_worker_88 kz) ?_
      refine jx_callV (x_R_at _ 1 ((y - 3)) (by simp [me_I_sI, me_I_sP, me_I_nx, me_P_sI, me_P_sP, me_P_nx, me_N_sI, me_N_sP, me_N_nx, me_L_sI, me_L_sP, me_L_nx, show me_I M 4 1 1 = 0 from hm.2.2 (4, 1, 1, 0) (by decide)])) mt_R_at cf_R rfl rfl ml_Y_169 im_R_at se_R_at d_Y_worker_89 rfl rfl (Nat.le_of_ble_eq_true rfl) ?_
      rintro _ _ ⟨rfl, rfl⟩
      refine jx_eq (st2 := [.inl ((-1))]) rfl rfl rfl ?_
      refine jx_iret d_Y_worker_92 rfl ?_
      exact ⟨by first | (subst_vars; decide) | (rw [sw_res (sw_out t_19 (c := 8) (by decide))]), kp_rf⟩
    · skip
      refine jx_of (fun _ _ kz => jw_tabIn 82 d_Y_worker_19 (by rw [e_19]; decide) (by rw [e_19]; decide) (by rw [e_19]; rfl) (by decide) kz) ?_
      refine jx_of (fun _ _ kz => jw_aload_n 3 d_Y_worker_82 rfl rfl kz) ?_
      refine jx_of (fun _ _ kz => jw_getPe (some (4, 1)) fl_Y_165 d_Y_worker_83 rfl rfl (by simp [me_I_sI, me_I_sP, me_I_nx, me_P_sI, me_P_sP, me_P_nx, me_N_sI, me_N_sP, me_N_nx, me_L_sI, me_L_sP, me_L_nx, show me_P M 3 1 1 = some (4, 1) from hm.1 (3, 1, 1, 4, 1) (by decide)]) kz) ?_
      refine jx_of (fun _ _ kz => jw_iload_n 2 d_Y_worker_86 rfl rfl kz) ?_
      refine jx_of (fun _ _ kz => jw_iconst 3 d_Y_worker_87 (by decide) kz) ?_
      refine jx_of (fun _ _ kz => jw_isub d_Y_worker_88 kz) ?_
      refine jx_callV (x_R_at _ 1 ((y - 3)) (by simp [me_I_sI, me_I_sP, me_I_nx, me_P_sI, me_P_sP, me_P_nx, me_N_sI, me_N_sP, me_N_nx, me_L_sI, me_L_sP, me_L_nx, show me_I M 4 1 1 = 0 from hm.2.2 (4, 1, 1, 0) (by decide)])) mt_R_at cf_R rfl rfl ml_Y_169 im_R_at se_R_at d_Y_worker_89 rfl rfl (Nat.le_of_ble_eq_true rfl) ?_
      rintro _ _ ⟨rfl, rfl⟩
      refine jx_eq (st2 := [.inl ((-1))]) rfl rfl rfl ?_
      refine jx_iret d_Y_worker_92 rfl ?_
      exact ⟨by first | (subst_vars; decide) | (rw [sw_res (sw_out t_19 (c := 8) (by decide))]), kp_rf⟩
    · skip
      refine jx_of (fun _ _ kz => jw_tabIn 93 d_Y_worker_19 (by rw [e_19]; decide) (by rw [e_19]; decide) (by rw [e_19]; rfl) (by decide) kz) ?_
      refine jx_of (fun _ _ kz => jw_aload_n 3 d_Y_worker_93 rfl rfl kz) ?_
      refine jx_of (fun _ _ kz => jw_getIe (0) fl_Y_172 d_Y_worker_94 rfl rfl (by simp [me_I_sI, me_I_sP, me_I_nx, me_P_sI, me_P_sP, me_P_nx, me_N_sI, me_N_sP, me_N_nx, me_L_sI, me_L_sP, me_L_nx, show me_I M 3 1 4 = 0 from hm.2.2 (3, 1, 4, 0) (by decide)]) kz) ?_
      refine jx_iret d_Y_worker_97 rfl ?_
      exact ⟨by first | (subst_vars; decide) | (rw [sw_res (sw_out t_19 (c := 8) (by decide))]), kp_rf⟩
set_option maxRecDepth 20000 in
set_option maxHeartbeats 4000000 in
theorem x_Y_worker_2 {G : Gt} {M : Me} (d : Nat) (y : Int32) (hm : cfr M) : sx G yt_Y_worker yn_Y_worker (d + 2) [.inr (some (0, 0)), .inl 2, .inl y] M (fun r M' => r = some (.inl (if y < 0 then -1 else if 8 ≤ y then -1 else if y = 0 then -1 else if y < 3 then 0 else if y < 7 then -1 else 0)) ∧ kpM M M') := by
  refine sx_of (k := 1) (lc := [some (.inr (some (0, 0))), some (.inl 2), some (.inl y), none]) mt_Y_worker (Nat.le_of_ble_eq_true rfl) rfl ?_
  refine jx_of (fun _ _ kz => jw_iload_n 1 d_Y_worker_0 rfl rfl kz) ?_
  refine jx_if_lt 9 d_Y_worker_1 (by decide) (fun h => absurd h (by decide)) (fun _ => ?_)
  refine jx_of (fun _ _ kz => jw_iload_n 1 d_Y_worker_4 rfl rfl kz) ?_
  refine jx_of (fun _ _ kz => jw_iconst 3 d_Y_worker_5 (by decide) kz) ?_
  refine jx_icmp_lt 11 d_Y_worker_6 (by decide) (fun _ => ?_) (fun h => absurd h (by decide))
  refine jx_of (fun _ _ kz => jw_aload_n 0 d_Y_worker_11 rfl rfl kz) ?_
  refine jx_of (fun _ _ kz => jw_getPe (some (19, 0)) fl_Y_38 d_Y_worker_12 rfl rfl (by simp [me_I_sI, me_I_sP, me_I_nx, me_P_sI, me_P_sP, me_P_nx, me_N_sI, me_N_sP, me_N_nx, me_L_sI, me_L_sP, me_L_nx, show me_P M 0 0 5 = some (19, 0) from hm.1 (0, 0, 5, 19, 0) (by decide)]) kz) ?_
  refine jx_of (fun _ _ kz => jw_iload_n 1 d_Y_worker_15 rfl rfl kz) ?_
  refine jx_of (fun _ _ kz => jw_aalde (some (3, 2)) d_Y_worker_16 rfl rfl (by rw [show me_L _ 19 0 = 3 from (by simp [me_I_sI, me_I_sP, me_I_nx, me_P_sI, me_P_sP, me_P_nx, me_N_sI, me_N_sP, me_N_nx, me_L_sI, me_L_sP, me_L_nx, show me_L M 19 0 = 3 from hm.2.1 (19, 0, 3) (by decide)])]; unfold vp_in; decide) (by simp [me_I_sI, me_I_sP, me_I_nx, me_P_sI, me_P_sP, me_P_nx, me_N_sI, me_N_sP, me_N_nx, me_L_sI, me_L_sP, me_L_nx, show me_P M 19 0 2 = some (3, 2) from hm.1 (19, 0, 2, 3, 2) (by decide)]) kz) ?_
  refine jx_of (fun _ _ kz => jw_astore_n 3 d_Y_worker_17 rfl (Nat.le_of_ble_eq_true rfl) kz) ?_
  dsimp only [List.set]
  refine jx_of (fun _ _ kz => jw_iload_n 2 d_Y_worker_18 rfl rfl kz) ?_
  rcases sw_cases (y) 8 (by decide) with t_19 | t_19
  · skip
    refine jx_of (fun _ _ kz => jw_tabOut 98 d_Y_worker_19 (by simpa using t_19) (by decide) kz) ?_
    refine jx_of (fun _ _ kz => jw_iconst (-1) d_Y_worker_98 (by decide) kz) ?_
    refine jx_iret d_Y_worker_99 rfl ?_
    exact ⟨by first | (subst_vars; decide) | (rw [sw_res (sw_out t_19 (c := 8) (by decide))]), kp_rf⟩
  · skip
    obtain ⟨j_19, t_19, e_19⟩ := t_19
    rcases (show j_19 = 0 ∨ j_19 = 1 ∨ j_19 = 2 ∨ j_19 = 3 ∨ j_19 = 4 ∨ j_19 = 5 ∨ j_19 = 6 ∨ j_19 = 7 by omega) with rfl | rfl | rfl | rfl | rfl | rfl | rfl | rfl
    · skip
      refine jx_of (fun _ _ kz => jw_tabIn 64 d_Y_worker_19 (by rw [e_19]; decide) (by rw [e_19]; decide) (by rw [e_19]; rfl) (by decide) kz) ?_
      refine jx_of (fun _ _ kz => jw_aload_n 3 d_Y_worker_64 rfl rfl kz) ?_
      refine jx_of (fun _ _ kz => jw_getIe ((-1)) fl_Y_159 d_Y_worker_65 rfl rfl (by simp [me_I_sI, me_I_sP, me_I_nx, me_P_sI, me_P_sP, me_P_nx, me_N_sI, me_N_sP, me_N_nx, me_L_sI, me_L_sP, me_L_nx, show me_I M 3 2 2 = (-1) from hm.2.2 (3, 2, 2, (-1)) (by decide)]) kz) ?_
      refine jx_iret d_Y_worker_68 rfl ?_
      exact ⟨by first | (subst_vars; decide) | (rw [sw_res (sw_out t_19 (c := 8) (by decide))]), kp_rf⟩
    · skip
      refine jx_of (fun _ _ kz => jw_tabIn 69 d_Y_worker_19 (by rw [e_19]; decide) (by rw [e_19]; decide) (by rw [e_19]; rfl) (by decide) kz) ?_
      refine jx_of (fun _ _ kz => jw_aload_n 3 d_Y_worker_69 rfl rfl kz) ?_
      refine jx_of (fun _ _ kz => jw_getIe (0) fl_Y_162 d_Y_worker_70 rfl rfl (by simp [me_I_sI, me_I_sP, me_I_nx, me_P_sI, me_P_sP, me_P_nx, me_N_sI, me_N_sP, me_N_nx, me_L_sI, me_L_sP, me_L_nx, show me_I M 3 2 3 = 0 from hm.2.2 (3, 2, 3, 0) (by decide)]) kz) ?_
      refine jx_iret d_Y_worker_73 rfl ?_
      exact ⟨by first | (subst_vars; decide) | (rw [sw_res (sw_out t_19 (c := 8) (by decide))]), kp_rf⟩
    · skip
      refine jx_of (fun _ _ kz => jw_tabIn 74 d_Y_worker_19 (by rw [e_19]; decide) (by rw [e_19]; decide) (by rw [e_19]; rfl) (by decide) kz) ?_
      refine jx_of (fun _ _ kz => jw_aload_n 3 d_Y_worker_74 rfl rfl kz) ?_
      refine jx_of (fun _ _ kz => jw_getPe (some (4, 2)) fl_Y_165 d_Y_worker_75 rfl rfl (by simp [me_I_sI, me_I_sP, me_I_nx, me_P_sI, me_P_sP, me_P_nx, me_N_sI, me_N_sP, me_N_nx, me_L_sI, me_L_sP, me_L_nx, show me_P M 3 2 1 = some (4, 2) from hm.1 (3, 2, 1, 4, 2) (by decide)]) kz) ?_
      refine jx_of (fun _ _ kz => jw_getIe (0) fl_Y_168 d_Y_worker_78 rfl rfl (by simp [me_I_sI, me_I_sP, me_I_nx, me_P_sI, me_P_sP, me_P_nx, me_N_sI, me_N_sP, me_N_nx, me_L_sI, me_L_sP, me_L_nx, show me_I M 4 2 1 = 0 from hm.2.2 (4, 2, 1, 0) (by decide)]) kz) ?_
      refine jx_iret d_Y_worker_81 rfl ?_
      exact ⟨by first | (subst_vars; decide) | (rw [sw_res (sw_out t_19 (c := 8) (by decide))]), kp_rf⟩
    · skip
      refine jx_of (fun _ _ kz => jw_tabIn 82 d_Y_worker_19 (by rw [e_19]; decide) (by rw [e_19]; decide) (by rw [e_19]; rfl) (by decide) kz) ?_
      refine jx_of (fun _ _ kz => jw_aload_n 3 d_Y_worker_82 rfl rfl kz) ?_
      refine jx_of (fun _ _ kz => jw_getPe (some (4, 2)) fl_Y_165 d_Y_worker_83 rfl rfl (by simp [me_I_sI, me_I_sP, me_I_nx, me_P_sI, me_P_sP, me_P_nx, me_N_sI, me_N_sP, me_N_nx, me_L_sI, me_L_sP, me_L_nx, show me_P M 3 2 1 = some (4, 2) from hm.1 (3, 2, 1, 4, 2) (by decide)]) kz) ?_
      refine jx_of (fun _ _ kz => jw_iload_n 2 d_Y_worker_86 rfl rfl kz) ?_
      refine jx_of (fun _ _ kz => jw_iconst 3 d_Y_worker_87 (by decide) kz) ?_
      refine jx_of (fun _ _ kz => jw_isub d_Y_worker_88 kz) ?_
      refine jx_callV (x_R_at _ 2 ((y - 3)) (by simp [me_I_sI, me_I_sP, me_I_nx, me_P_sI, me_P_sP, me_P_nx, me_N_sI, me_N_sP, me_N_nx, me_L_sI, me_L_sP, me_L_nx, show me_I M 4 2 1 = 0 from hm.2.2 (4, 2, 1, 0) (by decide)])) mt_R_at cf_R rfl rfl ml_Y_169 im_R_at se_R_at d_Y_worker_89 rfl rfl (Nat.le_of_ble_eq_true rfl) ?_
      rintro _ _ ⟨rfl, rfl⟩
      refine jx_eq (st2 := [.inl ((-1))]) rfl rfl rfl ?_
      refine jx_iret d_Y_worker_92 rfl ?_
      exact ⟨by first | (subst_vars; decide) | (rw [sw_res (sw_out t_19 (c := 8) (by decide))]), kp_rf⟩
    · skip
      refine jx_of (fun _ _ kz => jw_tabIn 82 d_Y_worker_19 (by rw [e_19]; decide) (by rw [e_19]; decide) (by rw [e_19]; rfl) (by decide) kz) ?_
      refine jx_of (fun _ _ kz => jw_aload_n 3 d_Y_worker_82 rfl rfl kz) ?_
      refine jx_of (fun _ _ kz => jw_getPe (some (4, 2)) fl_Y_165 d_Y_worker_83 rfl rfl (by simp [me_I_sI, me_I_sP, me_I_nx, me_P_sI, me_P_sP, me_P_nx, me_N_sI, me_N_sP, me_N_nx, me_L_sI, me_L_sP, me_L_nx, show me_P M 3 2 1 = some (4, 2) from hm.1 (3, 2, 1, 4, 2) (by decide)]) kz) ?_
      refine jx_of (fun _ _ kz => jw_iload_n 2 d_Y_worker_86 rfl rfl kz) ?_
      refine jx_of (fun _ _ kz => jw_iconst 3 d_Y_worker_87 (by decide) kz) ?_
      refine jx_of (fun _ _ kz => jw_isub d_Y_worker_88 kz) ?_
      refine jx_callV (x_R_at _ 2 ((y - 3)) (by simp [me_I_sI, me_I_sP, me_I_nx, me_P_sI, me_P_sP, me_P_nx, me_N_sI, me_N_sP, me_N_nx, me_L_sI, me_L_sP, me_L_nx, show me_I M 4 2 1 = 0 from hm.2.2 (4, 2, 1, 0) (by decide)])) mt_R_at cf_R rfl rfl ml_Y_169 im_R_at se_R_at d_Y_worker_89 rfl rfl (Nat.le_of_ble_eq_true rfl) ?_
      rintro _ _ ⟨rfl, rfl⟩
      refine jx_eq (st2 := [.inl ((-1))]) rfl rfl rfl ?_
      refine jx_iret d_Y_worker_92 rfl ?_
      exact ⟨by first | (subst_vars; decide) | (rw [sw_res (sw_out t_19 (c := 8) (by decide))]), kp_rf⟩
    · skip
      refine jx_of (fun _ _ kz => jw_tabIn 82 d_Y_worker_19 (by rw [e_19]; decide) (by rw [e_19]; decide) (by rw [e_19]; rfl) (by decide) kz) ?_
      refine jx_of (fun _ _ kz => jw_aload_n 3 d_Y_worker_82 rfl rfl kz) ?_
      refine jx_of (fun _ _ kz => jw_getPe (some (4, 2)) fl_Y_165 d_Y_worker_83 rfl rfl (by simp [me_I_sI, me_I_sP, me_I_nx, me_P_sI, me_P_sP, me_P_nx, me_N_sI, me_N_sP, me_N_nx, me_L_sI, me_L_sP, me_L_nx, show me_P M 3 2 1 = some (4, 2) from hm.1 (3, 2, 1, 4, 2) (by decide)]) kz) ?_
      refine jx_of (fun _ _ kz => jw_iload_n 2 d_Y_worker_86 rfl rfl kz) ?_
      refine jx_of (fun _ _ kz => jw_iconst 3 d_Y_worker_87 (by decide) kz) ?_
      refine jx_of (fun _ _ kz => jw_isub d_Y_worker_88 kz) ?_
      refine jx_callV (x_R_at _ 2 ((y - 3)) (by simp [me_I_sI, me_I_sP, me_I_nx, me_P_sI, me_P_sP, me_P_nx, me_N_sI, me_N_sP, me_N_nx, me_L_sI, me_L_sP, me_L_nx, show me_I M 4 2 1 = 0 from hm.2.2 (4, 2, 1, 0) (by decide)])) mt_R_at cf_R rfl rfl ml_Y_169 im_R_at se_R_at d_Y_worker_89 rfl rfl (Nat.le_of_ble_eq_true rfl) ?_
      rintro _ _ ⟨rfl, rfl⟩
      refine jx_eq (st2 := [.inl ((-1))]) rfl rfl rfl ?_
      refine jx_iret d_Y_worker_92 rfl ?_
      exact ⟨by first | (subst_vars; decide) | (rw [sw_res (sw_out t_19 (c := 8) (by decide))]), kp_rf⟩
    · skip
      refine jx_of (fun _ _ kz => jw_tabIn 82 d_Y_worker_19 (by rw [e_19]; decide) (by rw [e_19]; decide) (by rw [e_19]; rfl) (by decide) kz) ?_
      refine jx_of (fun _ _ kz => jw_aload_n 3 d_Y_worker_82 rfl rfl kz) ?_
      refine jx_of (fun _ _ kz => jw_getPe (some (4, 2)) fl_Y_165 d_Y_worker_83 rfl rfl (by simp [me_I_sI, me_I_sP, me_I_nx, me_P_sI, me_P_sP, me_P_nx, me_N_sI, me_N_sP, me_N_nx, me_L_sI, me_L_sP, me_L_nx, show me_P M 3 2 1 = some (4, 2) from hm.1 (3, 2, 1, 4, 2) (by decide)]) kz) ?_
      refine jx_of (fun _ _ kz => jw_iload_n 2 d_Y_worker_86 rfl rfl kz) ?_
      refine jx_of (fun _ _ kz => jw_iconst 3 d_Y_worker_87 (by decide) kz) ?_
      refine jx_of (fun _ _ kz => jw_isub d_Y_worker_88 kz) ?_
      refine jx_callV (x_R_at _ 2 ((y - 3)) (by simp [me_I_sI, me_I_sP, me_I_nx, me_P_sI, me_P_sP, me_P_nx, me_N_sI, me_N_sP, me_N_nx, me_L_sI, me_L_sP, me_L_nx, show me_I M 4 2 1 = 0 from hm.2.2 (4, 2, 1, 0) (by decide)])) mt_R_at cf_R rfl rfl ml_Y_169 im_R_at se_R_at d_Y_worker_89 rfl rfl (Nat.le_of_ble_eq_true rfl) ?_
      rintro _ _ ⟨rfl, rfl⟩
      refine jx_eq (st2 := [.inl ((-1))]) rfl rfl rfl ?_
      refine jx_iret d_Y_worker_92 rfl ?_
      exact ⟨by first | (subst_vars; decide) | (rw [sw_res (sw_out t_19 (c := 8) (by decide))]), kp_rf⟩
    · skip
      refine jx_of (fun _ _ kz => jw_tabIn 93 d_Y_worker_19 (by rw [e_19]; decide) (by rw [e_19]; decide) (by rw [e_19]; rfl) (by decide) kz) ?_
      refine jx_of (fun _ _ kz => jw_aload_n 3 d_Y_worker_93 rfl rfl kz) ?_
      refine jx_of (fun _ _ kz => jw_getIe (0) fl_Y_172 d_Y_worker_94 rfl rfl (by simp [me_I_sI, me_I_sP, me_I_nx, me_P_sI, me_P_sP, me_P_nx, me_N_sI, me_N_sP, me_N_nx, me_L_sI, me_L_sP, me_L_nx, show me_I M 3 2 4 = 0 from hm.2.2 (3, 2, 4, 0) (by decide)]) kz) ?_
      refine jx_iret d_Y_worker_97 rfl ?_
      exact ⟨by first | (subst_vars; decide) | (rw [sw_res (sw_out t_19 (c := 8) (by decide))]), kp_rf⟩
set_option maxRecDepth 20000 in
set_option maxHeartbeats 4000000 in
theorem x_Y_worker_x {G : Gt} {M : Me} (d : Nat) (x : Int32) (y : Int32) (hm : cfr M) (hx : x < 0 ∨ 3 ≤ x) : sx G yt_Y_worker yn_Y_worker (d + 2) [.inr (some (0, 0)), .inl x, .inl y] M (fun r M' => r = some (.inl (-1)) ∧ kpM M M') := by
  refine sx_of (k := 1) (lc := [some (.inr (some (0, 0))), some (.inl x), some (.inl y), none]) mt_Y_worker (Nat.le_of_ble_eq_true rfl) rfl ?_
  refine jx_of (fun _ _ kz => jw_iload_n 1 d_Y_worker_0 rfl rfl kz) ?_
  refine jx_if_lt 9 d_Y_worker_1 (by decide) (fun b_1 => ?_) (fun b_1 => ?_)
  · skip
    refine jx_of (fun _ _ kz => jw_iconst (-1) d_Y_worker_9 (by decide) kz) ?_
    refine jx_iret d_Y_worker_10 rfl ?_
    exact ⟨rfl, kp_rf⟩
  · skip
    refine jx_of (fun _ _ kz => jw_iload_n 1 d_Y_worker_4 rfl rfl kz) ?_
    refine jx_of (fun _ _ kz => jw_iconst 3 d_Y_worker_5 (by decide) kz) ?_
    refine jx_icmp_lt 11 d_Y_worker_6 (by decide) (fun h => absurd h (by rcases hx with q | q; exact absurd q b_1; exact Int32.not_lt.mpr q)) (fun _ => ?_)
    refine jx_of (fun _ _ kz => jw_iconst (-1) d_Y_worker_9 (by decide) kz) ?_
    refine jx_iret d_Y_worker_10 rfl ?_
    exact ⟨rfl, kp_rf⟩
set_option maxRecDepth 20000 in
set_option maxHeartbeats 4000000 in
theorem x_Y_injectWoken {G : Gt} {M : Me} (d : Nat) (hm : cfr M) : sx G yt_Y_injectWoken yn_Y_injectWoken (d + 1) [.inr (some (0, 0))] M (fun r M' => r = none ∧ M' = (me_sI M 4 4 1 (0))) := by
  refine sx_of (k := 1) (lc := [some (.inr (some (0, 0))), none]) mt_Y_injectWoken (Nat.le_of_ble_eq_true rfl) rfl ?_
  refine jx_of (fun _ _ kz => jw_iconst 0 d_Y_injectWoken_0 (by decide) kz) ?_
  refine jx_of (fun _ _ kz => jw_istore_n 1 d_Y_injectWoken_1 rfl (Nat.le_of_ble_eq_true rfl) kz) ?_
  dsimp only [List.set]
  refine jx_of (fun _ _ kz => jw_iload_n 1 d_Y_injectWoken_2 rfl rfl kz) ?_
  refine jx_of (fun _ _ kz => jw_aload_n 0 d_Y_injectWoken_3 rfl rfl kz) ?_
  refine jx_of (fun _ _ kz => jw_getPe (some (4, 4)) fl_Y_49 d_Y_injectWoken_4 rfl rfl (by simp [me_I_sI, me_I_sP, me_I_nx, me_P_sI, me_P_sP, me_P_nx, me_N_sI, me_N_sP, me_N_nx, me_L_sI, me_L_sP, me_L_nx, show me_P M 0 0 7 = some (4, 4) from hm.1 (0, 0, 7, 4, 4) (by decide)]) kz) ?_
  refine jx_of (fun _ _ kz => jw_getIe (0) fl_Y_168 d_Y_injectWoken_7 rfl rfl (by simp [me_I_sI, me_I_sP, me_I_nx, me_P_sI, me_P_sP, me_P_nx, me_N_sI, me_N_sP, me_N_nx, me_L_sI, me_L_sP, me_L_nx, show me_I M 4 4 1 = 0 from hm.2.2 (4, 4, 1, 0) (by decide)]) kz) ?_
  refine jx_icmp_ge 34 d_Y_injectWoken_10 (by decide) (fun _ => ?_) (fun h => absurd h (by decide))
  refine jx_of (fun _ _ kz => jw_aload_n 0 d_Y_injectWoken_34 rfl rfl kz) ?_
  refine jx_of (fun _ _ kz => jw_getPe (some (4, 4)) fl_Y_49 d_Y_injectWoken_35 rfl rfl (by simp [me_I_sI, me_I_sP, me_I_nx, me_P_sI, me_P_sP, me_P_nx, me_N_sI, me_N_sP, me_N_nx, me_L_sI, me_L_sP, me_L_nx, show me_P M 0 0 7 = some (4, 4) from hm.1 (0, 0, 7, 4, 4) (by decide)]) kz) ?_
  refine jx_of (fun _ _ kz => jw_iconst 0 d_Y_injectWoken_38 (by decide) kz) ?_
  refine jx_of (fun _ _ kz => jw_putI fl_Y_168 (Or.inl rfl) rfl rfl d_Y_injectWoken_39 rfl rfl kz) ?_
  refine jx_vret d_Y_injectWoken_42 rfl ?_
  exact ⟨rfl, rfl⟩
set_option maxRecDepth 20000 in
set_option maxHeartbeats 4000000 in
theorem x_Y_injectWoken2 {G : Gt} {M : Me} (d : Nat) (f0 : me_P M 0 0 7 = (some (4, 4))) (f1 : me_I M 4 4 1 = 0) : sx G yt_Y_injectWoken yn_Y_injectWoken (d + 1) [.inr (some (0, 0))] M (fun r M' => r = none ∧ M' = (me_sI M 4 4 1 (0))) := by
  refine sx_of (k := 1) (lc := [some (.inr (some (0, 0))), none]) mt_Y_injectWoken (Nat.le_of_ble_eq_true rfl) rfl ?_
  refine jx_of (fun _ _ kz => jw_iconst 0 d_Y_injectWoken_0 (by decide) kz) ?_
  refine jx_of (fun _ _ kz => jw_istore_n 1 d_Y_injectWoken_1 rfl (Nat.le_of_ble_eq_true rfl) kz) ?_
  dsimp only [List.set]
  refine jx_of (fun _ _ kz => jw_iload_n 1 d_Y_injectWoken_2 rfl rfl kz) ?_
  refine jx_of (fun _ _ kz => jw_aload_n 0 d_Y_injectWoken_3 rfl rfl kz) ?_
  refine jx_of (fun _ _ kz => jw_getPe (some (4, 4)) fl_Y_49 d_Y_injectWoken_4 rfl rfl (by simp [me_I_sI, me_I_sP, me_I_nx, me_P_sI, me_P_sP, me_P_nx, me_N_sI, me_N_sP, me_N_nx, me_L_sI, me_L_sP, me_L_nx, f0, f1]) kz) ?_
  refine jx_of (fun _ _ kz => jw_getIe (0) fl_Y_168 d_Y_injectWoken_7 rfl rfl (by simp [me_I_sI, me_I_sP, me_I_nx, me_P_sI, me_P_sP, me_P_nx, me_N_sI, me_N_sP, me_N_nx, me_L_sI, me_L_sP, me_L_nx, f0, f1]) kz) ?_
  refine jx_icmp_ge 34 d_Y_injectWoken_10 (by decide) (fun _ => ?_) (fun h => absurd h (by decide))
  refine jx_of (fun _ _ kz => jw_aload_n 0 d_Y_injectWoken_34 rfl rfl kz) ?_
  refine jx_of (fun _ _ kz => jw_getPe (some (4, 4)) fl_Y_49 d_Y_injectWoken_35 rfl rfl (by simp [me_I_sI, me_I_sP, me_I_nx, me_P_sI, me_P_sP, me_P_nx, me_N_sI, me_N_sP, me_N_nx, me_L_sI, me_L_sP, me_L_nx, f0, f1]) kz) ?_
  refine jx_of (fun _ _ kz => jw_iconst 0 d_Y_injectWoken_38 (by decide) kz) ?_
  refine jx_of (fun _ _ kz => jw_putI fl_Y_168 (Or.inl rfl) rfl rfl d_Y_injectWoken_39 rfl rfl kz) ?_
  refine jx_vret d_Y_injectWoken_42 rfl ?_
  exact ⟨rfl, rfl⟩
set_option maxRecDepth 20000 in
set_option maxHeartbeats 4000000 in
theorem x_Y_addPermits_0 {G : Gt} {M : Me} (d : Nat) (y : Int32) (hm : cfr M) : sx G yt_Y_addPermits yn_Y_addPermits (d + 1) [.inr (some (0, 0)), .inr (some (5, 0)), .inl y] M (fun r M' => r = none ∧ M' = (me_sI M 5 0 1 (1 + y))) := by
  refine sx_of (k := 7) (lc := [some (.inr (some (0, 0))), some (.inr (some (5, 0))), some (.inl y), none, none, none, none, none, none, none]) mt_Y_addPermits (Nat.le_of_ble_eq_true rfl) rfl ?_
  refine jx_of (fun _ _ kz => jw_iload_n 2 d_Y_addPermits_0 rfl rfl kz) ?_
  refine jx_of (fun _ _ kz => jw_istore_n 3 d_Y_addPermits_1 rfl (Nat.le_of_ble_eq_true rfl) kz) ?_
  dsimp only [List.set]
  refine jx_of (fun _ _ kz => jw_aload_n 1 d_Y_addPermits_2 rfl rfl kz) ?_
  refine jx_of (fun _ _ kz => jw_getPe (some (4, 5)) fl_Y_175 d_Y_addPermits_3 rfl rfl (by simp [me_I_sI, me_I_sP, me_I_nx, me_P_sI, me_P_sP, me_P_nx, me_N_sI, me_N_sP, me_N_nx, me_L_sI, me_L_sP, me_L_nx, show me_P M 5 0 0 = some (4, 5) from hm.1 (5, 0, 0, 4, 5) (by decide)]) kz) ?_
  refine jx_of (fun _ _ kz => jw_getIe (0) fl_Y_168 d_Y_addPermits_6 rfl rfl (by simp [me_I_sI, me_I_sP, me_I_nx, me_P_sI, me_P_sP, me_P_nx, me_N_sI, me_N_sP, me_N_nx, me_L_sI, me_L_sP, me_L_nx, show me_I M 4 5 1 = 0 from hm.2.2 (4, 5, 1, 0) (by decide)]) kz) ?_
  refine jx_of (fun _ _ kz => jw_istore d_Y_addPermits_9 (Nat.le_of_ble_eq_true rfl) kz) ?_
  dsimp only [List.set]
  refine jx_of (fun _ _ kz => jw_iload d_Y_addPermits_11 rfl kz) ?_
  refine jx_if_le 137 d_Y_addPermits_13 (by decide) (fun _ => ?_) (fun h => absurd h (by decide))
  refine jx_of (fun _ _ kz => jw_aload_n 1 d_Y_addPermits_137 rfl rfl kz) ?_
  refine jx_of (fun _ _ kz => jw_dup d_Y_addPermits_138 kz) ?_
  refine jx_of (fun _ _ kz => jw_getIe (1) fl_Y_137 d_Y_addPermits_139 rfl rfl (by simp [me_I_sI, me_I_sP, me_I_nx, me_P_sI, me_P_sP, me_P_nx, me_N_sI, me_N_sP, me_N_nx, me_L_sI, me_L_sP, me_L_nx, show me_I M 5 0 1 = 1 from hm.2.2 (5, 0, 1, 1) (by decide)]) kz) ?_
  refine jx_of (fun _ _ kz => jw_iload_n 3 d_Y_addPermits_142 rfl rfl kz) ?_
  refine jx_of (fun _ _ kz => jw_iadd d_Y_addPermits_143 kz) ?_
  refine jx_of (fun _ _ kz => jw_putI fl_Y_137 (Or.inl rfl) rfl rfl d_Y_addPermits_144 rfl rfl kz) ?_
  refine jx_vret d_Y_addPermits_147 rfl ?_
  exact ⟨rfl, rfl⟩
set_option maxRecDepth 20000 in
set_option maxHeartbeats 4000000 in
theorem x_Y_put_0 {G : Gt} {M : Me} (d : Nat) (y : Int32) (hm : cfr M) : sx G yt_Y_put yn_Y_put (d + 2) [.inr (some (0, 0)), .inl 0, .inl y] M (fun r M' => r = some (.inl (if y < 1 then -1 else if 9 < y then -1 else 1 + y)) ∧ kpM M M') := by
  refine sx_of (k := 0) (lc := [some (.inr (some (0, 0))), some (.inl 0), some (.inl y)]) mt_Y_put (Nat.le_of_ble_eq_true rfl) rfl ?_
  refine jx_of (fun _ _ kz => jw_iload_n 1 d_Y_put_0 rfl rfl kz) ?_
  refine jx_if_lt 20 d_Y_put_1 (by decide) (fun h => absurd h (by decide)) (fun _ => ?_)
  refine jx_of (fun _ _ kz => jw_iload_n 1 d_Y_put_4 rfl rfl kz) ?_
  refine jx_of (fun _ _ kz => jw_iconst 1 d_Y_put_5 (by decide) kz) ?_
  refine jx_icmp_gt 20 d_Y_put_6 (by decide) (fun h => absurd h (by decide)) (fun _ => ?_)
  refine jx_of (fun _ _ kz => jw_iload_n 2 d_Y_put_9 rfl rfl kz) ?_
  refine jx_of (fun _ _ kz => jw_iconst 1 d_Y_put_10 (by decide) kz) ?_
  refine jx_icmp_lt 20 d_Y_put_11 (by decide) (fun b_11 => ?_) (fun b_11 => ?_)
  · skip
    refine jx_of (fun _ _ kz => jw_iconst (-1) d_Y_put_20 (by decide) kz) ?_
    refine jx_iret d_Y_put_21 rfl ?_
    exact ⟨by simp_all, kp_rf⟩
  · skip
    refine jx_of (fun _ _ kz => jw_iload_n 2 d_Y_put_14 rfl rfl kz) ?_
    refine jx_of (fun _ _ kz => jw_bipush 9 d_Y_put_15 (by decide) kz) ?_
    refine jx_icmp_le 22 d_Y_put_17 (by decide) (fun b_17 => ?_) (fun b_17 => ?_)
    · skip
      refine jx_of (fun _ _ kz => jw_aload_n 0 d_Y_put_22 rfl rfl kz) ?_
      refine jx_of (fun _ _ kz => jw_aload_n 0 d_Y_put_23 rfl rfl kz) ?_
      refine jx_of (fun _ _ kz => jw_getPe (some (20, 0)) fl_Y_55 d_Y_put_24 rfl rfl (by simp [me_I_sI, me_I_sP, me_I_nx, me_P_sI, me_P_sP, me_P_nx, me_N_sI, me_N_sP, me_N_nx, me_L_sI, me_L_sP, me_L_nx, show me_P M 0 0 8 = some (20, 0) from hm.1 (0, 0, 8, 20, 0) (by decide)]) kz) ?_
      refine jx_of (fun _ _ kz => jw_iload_n 1 d_Y_put_27 rfl rfl kz) ?_
      refine jx_of (fun _ _ kz => jw_aalde (some (5, 0)) d_Y_put_28 rfl rfl (by rw [show me_L _ 20 0 = 2 from (by simp [me_I_sI, me_I_sP, me_I_nx, me_P_sI, me_P_sP, me_P_nx, me_N_sI, me_N_sP, me_N_nx, me_L_sI, me_L_sP, me_L_nx, show me_L M 20 0 = 2 from hm.2.1 (20, 0, 2) (by decide)])]; unfold vp_in; decide) (by simp [me_I_sI, me_I_sP, me_I_nx, me_P_sI, me_P_sP, me_P_nx, me_N_sI, me_N_sP, me_N_nx, me_L_sI, me_L_sP, me_L_nx, show me_P M 20 0 0 = some (5, 0) from hm.1 (20, 0, 0, 5, 0) (by decide)]) kz) ?_
      refine jx_of (fun _ _ kz => jw_iload_n 2 d_Y_put_29 rfl rfl kz) ?_
      refine jx_callV (x_Y_addPermits_0 _ y hm) mt_Y_addPermits cf_Y rfl rfl ml_Y_133 im_Y_addPermits se_Y_addPermits d_Y_put_30 rfl rfl (Nat.le_of_ble_eq_true rfl) ?_
      rintro _ _ ⟨rfl, rfl⟩
      refine jx_eq (st2 := []) rfl rfl rfl ?_
      refine jx_of (fun _ _ kz => jw_aload_n 0 d_Y_put_33 rfl rfl kz) ?_
      refine jx_callV (x_Y_injectWoken2 _  (by simp [me_I_sI, me_I_sP, me_I_nx, me_P_sI, me_P_sP, me_P_nx, me_N_sI, me_N_sP, me_N_nx, me_L_sI, me_L_sP, me_L_nx, show me_P M 0 0 7 = some (4, 4) from hm.1 (0, 0, 7, 4, 4) (by decide)]) (by simp [me_I_sI, me_I_sP, me_I_nx, me_P_sI, me_P_sP, me_P_nx, me_N_sI, me_N_sP, me_N_nx, me_L_sI, me_L_sP, me_L_nx, show me_I M 4 4 1 = 0 from hm.2.2 (4, 4, 1, 0) (by decide)])) mt_Y_injectWoken cf_Y rfl rfl ml_Y_103 im_Y_injectWoken se_Y_injectWoken d_Y_put_34 rfl rfl (Nat.le_of_ble_eq_true rfl) ?_
      rintro _ _ ⟨rfl, rfl⟩
      refine jx_eq (st2 := []) rfl rfl rfl ?_
      refine jx_of (fun _ _ kz => jw_aload_n 0 d_Y_put_37 rfl rfl kz) ?_
      refine jx_of (fun _ _ kz => jw_getPe (some (20, 0)) fl_Y_55 d_Y_put_38 rfl rfl (by simp [me_I_sI, me_I_sP, me_I_nx, me_P_sI, me_P_sP, me_P_nx, me_N_sI, me_N_sP, me_N_nx, me_L_sI, me_L_sP, me_L_nx, show me_P M 0 0 8 = some (20, 0) from hm.1 (0, 0, 8, 20, 0) (by decide)]) kz) ?_
      refine jx_of (fun _ _ kz => jw_iload_n 1 d_Y_put_41 rfl rfl kz) ?_
      refine jx_of (fun _ _ kz => jw_aalde (some (5, 0)) d_Y_put_42 rfl rfl (by rw [show me_L _ 20 0 = 2 from (by simp [me_I_sI, me_I_sP, me_I_nx, me_P_sI, me_P_sP, me_P_nx, me_N_sI, me_N_sP, me_N_nx, me_L_sI, me_L_sP, me_L_nx, show me_L M 20 0 = 2 from hm.2.1 (20, 0, 2) (by decide)])]; unfold vp_in; decide) (by simp [me_I_sI, me_I_sP, me_I_nx, me_P_sI, me_P_sP, me_P_nx, me_N_sI, me_N_sP, me_N_nx, me_L_sI, me_L_sP, me_L_nx, show me_P M 20 0 0 = some (5, 0) from hm.1 (20, 0, 0, 5, 0) (by decide)]) kz) ?_
      refine jx_of (fun _ _ kz => jw_getIe (1 + y) fl_Y_137 d_Y_put_43 rfl rfl (by simp [me_I_sI, me_I_sP, me_I_nx, me_P_sI, me_P_sP, me_P_nx, me_N_sI, me_N_sP, me_N_nx, me_L_sI, me_L_sP, me_L_nx]) kz) ?_
      refine jx_iret d_Y_put_46 rfl ?_
      exact ⟨by rw [if_neg b_11, if_neg (Int32.not_lt.mpr b_17)], by repeat (first | exact kp_rf | refine kp_sI ?_ (by decide))⟩
    · skip
      refine jx_of (fun _ _ kz => jw_iconst (-1) d_Y_put_20 (by decide) kz) ?_
      refine jx_iret d_Y_put_21 rfl ?_
      exact ⟨by simp_all, kp_rf⟩
set_option maxRecDepth 20000 in
set_option maxHeartbeats 4000000 in
theorem x_Y_giveNotice_0 {G : Gt} {M : Me} (d : Nat) (hm : cfr M) : sx G yt_Y_giveNotice yn_Y_giveNotice (d + 2) [.inr (some (0, 0)), .inr (some (6, 0))] M (fun r M' => r = some (.inl 0) ∧ M' = (me_sI M 6 0 1 (1))) := by
  refine sx_of (k := 2) (lc := [some (.inr (some (0, 0))), some (.inr (some (6, 0))), none, none]) mt_Y_giveNotice (Nat.le_of_ble_eq_true rfl) rfl ?_
  refine jx_of (fun _ _ kz => jw_aload_n 1 d_Y_giveNotice_0 rfl rfl kz) ?_
  refine jx_of (fun _ _ kz => jw_getPe (some (4, 7)) fl_Y_186 d_Y_giveNotice_1 rfl rfl (by simp [me_I_sI, me_I_sP, me_I_nx, me_P_sI, me_P_sP, me_P_nx, me_N_sI, me_N_sP, me_N_nx, me_L_sI, me_L_sP, me_L_nx, show me_P M 6 0 0 = some (4, 7) from hm.1 (6, 0, 0, 4, 7) (by decide)]) kz) ?_
  refine jx_callV (x_R_isEmpty _ 7 (by simp [me_I_sI, me_I_sP, me_I_nx, me_P_sI, me_P_sP, me_P_nx, me_N_sI, me_N_sP, me_N_nx, me_L_sI, me_L_sP, me_L_nx, show me_I M 4 7 1 = 0 from hm.2.2 (4, 7, 1, 0) (by decide)])) mt_R_isEmpty cf_R rfl rfl ml_Y_198 im_R_isEmpty se_R_isEmpty d_Y_giveNotice_4 rfl rfl (Nat.le_of_ble_eq_true rfl) ?_
  rintro _ _ ⟨rfl, rfl⟩
  refine jx_eq (st2 := [.inl 1]) rfl rfl rfl ?_
  refine jx_if_eq 17 d_Y_giveNotice_7 (by decide) (fun h => absurd h (by decide)) (fun _ => ?_)
  refine jx_of (fun _ _ kz => jw_aload_n 1 d_Y_giveNotice_10 rfl rfl kz) ?_
  refine jx_of (fun _ _ kz => jw_iconst 1 d_Y_giveNotice_11 (by decide) kz) ?_
  refine jx_of (fun _ _ kz => jw_putI fl_Y_182 (Or.inl rfl) rfl rfl d_Y_giveNotice_12 rfl rfl kz) ?_
  refine jx_of (fun _ _ kz => jw_iconst 0 d_Y_giveNotice_15 (by decide) kz) ?_
  refine jx_zret d_Y_giveNotice_16 rfl (by decide) ?_
  exact ⟨rfl, rfl⟩
set_option maxRecDepth 20000 in
set_option maxHeartbeats 4000000 in
theorem x_Y_wake_0 {G : Gt} {M : Me} (d : Nat) (hm : cfr M) : sx G yt_Y_wake yn_Y_wake (d + 3) [.inr (some (0, 0)), .inl 0] M (fun r M' => r = some (.inl (0)) ∧ kpM M M') := by
  refine sx_of (k := 1) (lc := [some (.inr (some (0, 0))), some (.inl 0), none]) mt_Y_wake (Nat.le_of_ble_eq_true rfl) rfl ?_
  refine jx_of (fun _ _ kz => jw_iload_n 1 d_Y_wake_0 rfl rfl kz) ?_
  refine jx_if_lt 9 d_Y_wake_1 (by decide) (fun h => absurd h (by decide)) (fun _ => ?_)
  refine jx_of (fun _ _ kz => jw_iload_n 1 d_Y_wake_4 rfl rfl kz) ?_
  refine jx_of (fun _ _ kz => jw_iconst 1 d_Y_wake_5 (by decide) kz) ?_
  refine jx_icmp_le 11 d_Y_wake_6 (by decide) (fun _ => ?_) (fun h => absurd h (by decide))
  refine jx_of (fun _ _ kz => jw_aload_n 0 d_Y_wake_11 rfl rfl kz) ?_
  refine jx_of (fun _ _ kz => jw_aload_n 0 d_Y_wake_12 rfl rfl kz) ?_
  refine jx_of (fun _ _ kz => jw_getPe (some (21, 0)) fl_Y_62 d_Y_wake_13 rfl rfl (by simp [me_I_sI, me_I_sP, me_I_nx, me_P_sI, me_P_sP, me_P_nx, me_N_sI, me_N_sP, me_N_nx, me_L_sI, me_L_sP, me_L_nx, show me_P M 0 0 9 = some (21, 0) from hm.1 (0, 0, 9, 21, 0) (by decide)]) kz) ?_
  refine jx_of (fun _ _ kz => jw_iload_n 1 d_Y_wake_16 rfl rfl kz) ?_
  refine jx_of (fun _ _ kz => jw_aalde (some (6, 0)) d_Y_wake_17 rfl rfl (by rw [show me_L _ 21 0 = 2 from (by simp [me_I_sI, me_I_sP, me_I_nx, me_P_sI, me_P_sP, me_P_nx, me_N_sI, me_N_sP, me_N_nx, me_L_sI, me_L_sP, me_L_nx, show me_L M 21 0 = 2 from hm.2.1 (21, 0, 2) (by decide)])]; unfold vp_in; decide) (by simp [me_I_sI, me_I_sP, me_I_nx, me_P_sI, me_P_sP, me_P_nx, me_N_sI, me_N_sP, me_N_nx, me_L_sI, me_L_sP, me_L_nx, show me_P M 21 0 0 = some (6, 0) from hm.1 (21, 0, 0, 6, 0) (by decide)]) kz) ?_
  refine jx_callV (x_Y_giveNotice_0 _  hm) mt_Y_giveNotice cf_Y rfl rfl ml_Y_140 im_Y_giveNotice se_Y_giveNotice d_Y_wake_18 rfl rfl (Nat.le_of_ble_eq_true rfl) ?_
  rintro _ _ ⟨rfl, rfl⟩
  refine jx_eq (st2 := [.inl 0]) rfl rfl rfl ?_
  refine jx_of (fun _ _ kz => jw_istore_n 2 d_Y_wake_21 rfl (Nat.le_of_ble_eq_true rfl) kz) ?_
  dsimp only [List.set]
  refine jx_of (fun _ _ kz => jw_aload_n 0 d_Y_wake_22 rfl rfl kz) ?_
  refine jx_callV (x_Y_injectWoken2 _  (by simp [me_I_sI, me_I_sP, me_I_nx, me_P_sI, me_P_sP, me_P_nx, me_N_sI, me_N_sP, me_N_nx, me_L_sI, me_L_sP, me_L_nx, show me_P M 0 0 7 = some (4, 4) from hm.1 (0, 0, 7, 4, 4) (by decide)]) (by simp [me_I_sI, me_I_sP, me_I_nx, me_P_sI, me_P_sP, me_P_nx, me_N_sI, me_N_sP, me_N_nx, me_L_sI, me_L_sP, me_L_nx, show me_I M 4 4 1 = 0 from hm.2.2 (4, 4, 1, 0) (by decide)])) mt_Y_injectWoken cf_Y rfl rfl ml_Y_103 im_Y_injectWoken se_Y_injectWoken d_Y_wake_23 rfl rfl (Nat.le_of_ble_eq_true rfl) ?_
  rintro _ _ ⟨rfl, rfl⟩
  refine jx_eq (st2 := []) rfl rfl rfl ?_
  refine jx_of (fun _ _ kz => jw_iload_n 2 d_Y_wake_26 rfl rfl kz) ?_
  refine jx_if_eq 34 d_Y_wake_27 (by decide) (fun _ => ?_) (fun h => absurd h (by decide))
  refine jx_of (fun _ _ kz => jw_iconst 0 d_Y_wake_34 (by decide) kz) ?_
  refine jx_iret d_Y_wake_35 rfl ?_
  exact ⟨rfl, by repeat (first | exact kp_rf | refine kp_sI ?_ (by decide))⟩
set_option maxRecDepth 20000 in
set_option maxHeartbeats 4000000 in
theorem x_Y_addPermits_1 {G : Gt} {M : Me} (d : Nat) (y : Int32) (hm : cfr M) : sx G yt_Y_addPermits yn_Y_addPermits (d + 1) [.inr (some (0, 0)), .inr (some (5, 1)), .inl y] M (fun r M' => r = none ∧ M' = (me_sI M 5 1 1 (1 + y))) := by
  refine sx_of (k := 7) (lc := [some (.inr (some (0, 0))), some (.inr (some (5, 1))), some (.inl y), none, none, none, none, none, none, none]) mt_Y_addPermits (Nat.le_of_ble_eq_true rfl) rfl ?_
  refine jx_of (fun _ _ kz => jw_iload_n 2 d_Y_addPermits_0 rfl rfl kz) ?_
  refine jx_of (fun _ _ kz => jw_istore_n 3 d_Y_addPermits_1 rfl (Nat.le_of_ble_eq_true rfl) kz) ?_
  dsimp only [List.set]
  refine jx_of (fun _ _ kz => jw_aload_n 1 d_Y_addPermits_2 rfl rfl kz) ?_
  refine jx_of (fun _ _ kz => jw_getPe (some (4, 6)) fl_Y_175 d_Y_addPermits_3 rfl rfl (by simp [me_I_sI, me_I_sP, me_I_nx, me_P_sI, me_P_sP, me_P_nx, me_N_sI, me_N_sP, me_N_nx, me_L_sI, me_L_sP, me_L_nx, show me_P M 5 1 0 = some (4, 6) from hm.1 (5, 1, 0, 4, 6) (by decide)]) kz) ?_
  refine jx_of (fun _ _ kz => jw_getIe (0) fl_Y_168 d_Y_addPermits_6 rfl rfl (by simp [me_I_sI, me_I_sP, me_I_nx, me_P_sI, me_P_sP, me_P_nx, me_N_sI, me_N_sP, me_N_nx, me_L_sI, me_L_sP, me_L_nx, show me_I M 4 6 1 = 0 from hm.2.2 (4, 6, 1, 0) (by decide)]) kz) ?_
  refine jx_of (fun _ _ kz => jw_istore d_Y_addPermits_9 (Nat.le_of_ble_eq_true rfl) kz) ?_
  dsimp only [List.set]
  refine jx_of (fun _ _ kz => jw_iload d_Y_addPermits_11 rfl kz) ?_
  refine jx_if_le 137 d_Y_addPermits_13 (by decide) (fun _ => ?_) (fun h => absurd h (by decide))
  refine jx_of (fun _ _ kz => jw_aload_n 1 d_Y_addPermits_137 rfl rfl kz) ?_
  refine jx_of (fun _ _ kz => jw_dup d_Y_addPermits_138 kz) ?_
  refine jx_of (fun _ _ kz => jw_getIe (1) fl_Y_137 d_Y_addPermits_139 rfl rfl (by simp [me_I_sI, me_I_sP, me_I_nx, me_P_sI, me_P_sP, me_P_nx, me_N_sI, me_N_sP, me_N_nx, me_L_sI, me_L_sP, me_L_nx, show me_I M 5 1 1 = 1 from hm.2.2 (5, 1, 1, 1) (by decide)]) kz) ?_
  refine jx_of (fun _ _ kz => jw_iload_n 3 d_Y_addPermits_142 rfl rfl kz) ?_
  refine jx_of (fun _ _ kz => jw_iadd d_Y_addPermits_143 kz) ?_
  refine jx_of (fun _ _ kz => jw_putI fl_Y_137 (Or.inl rfl) rfl rfl d_Y_addPermits_144 rfl rfl kz) ?_
  refine jx_vret d_Y_addPermits_147 rfl ?_
  exact ⟨rfl, rfl⟩
set_option maxRecDepth 20000 in
set_option maxHeartbeats 4000000 in
theorem x_Y_put_1 {G : Gt} {M : Me} (d : Nat) (y : Int32) (hm : cfr M) : sx G yt_Y_put yn_Y_put (d + 2) [.inr (some (0, 0)), .inl 1, .inl y] M (fun r M' => r = some (.inl (if y < 1 then -1 else if 9 < y then -1 else 1 + y)) ∧ kpM M M') := by
  refine sx_of (k := 0) (lc := [some (.inr (some (0, 0))), some (.inl 1), some (.inl y)]) mt_Y_put (Nat.le_of_ble_eq_true rfl) rfl ?_
  refine jx_of (fun _ _ kz => jw_iload_n 1 d_Y_put_0 rfl rfl kz) ?_
  refine jx_if_lt 20 d_Y_put_1 (by decide) (fun h => absurd h (by decide)) (fun _ => ?_)
  refine jx_of (fun _ _ kz => jw_iload_n 1 d_Y_put_4 rfl rfl kz) ?_
  refine jx_of (fun _ _ kz => jw_iconst 1 d_Y_put_5 (by decide) kz) ?_
  refine jx_icmp_gt 20 d_Y_put_6 (by decide) (fun h => absurd h (by decide)) (fun _ => ?_)
  refine jx_of (fun _ _ kz => jw_iload_n 2 d_Y_put_9 rfl rfl kz) ?_
  refine jx_of (fun _ _ kz => jw_iconst 1 d_Y_put_10 (by decide) kz) ?_
  refine jx_icmp_lt 20 d_Y_put_11 (by decide) (fun b_11 => ?_) (fun b_11 => ?_)
  · skip
    refine jx_of (fun _ _ kz => jw_iconst (-1) d_Y_put_20 (by decide) kz) ?_
    refine jx_iret d_Y_put_21 rfl ?_
    exact ⟨by simp_all, kp_rf⟩
  · skip
    refine jx_of (fun _ _ kz => jw_iload_n 2 d_Y_put_14 rfl rfl kz) ?_
    refine jx_of (fun _ _ kz => jw_bipush 9 d_Y_put_15 (by decide) kz) ?_
    refine jx_icmp_le 22 d_Y_put_17 (by decide) (fun b_17 => ?_) (fun b_17 => ?_)
    · skip
      refine jx_of (fun _ _ kz => jw_aload_n 0 d_Y_put_22 rfl rfl kz) ?_
      refine jx_of (fun _ _ kz => jw_aload_n 0 d_Y_put_23 rfl rfl kz) ?_
      refine jx_of (fun _ _ kz => jw_getPe (some (20, 0)) fl_Y_55 d_Y_put_24 rfl rfl (by simp [me_I_sI, me_I_sP, me_I_nx, me_P_sI, me_P_sP, me_P_nx, me_N_sI, me_N_sP, me_N_nx, me_L_sI, me_L_sP, me_L_nx, show me_P M 0 0 8 = some (20, 0) from hm.1 (0, 0, 8, 20, 0) (by decide)]) kz) ?_
      refine jx_of (fun _ _ kz => jw_iload_n 1 d_Y_put_27 rfl rfl kz) ?_
      refine jx_of (fun _ _ kz => jw_aalde (some (5, 1)) d_Y_put_28 rfl rfl (by rw [show me_L _ 20 0 = 2 from (by simp [me_I_sI, me_I_sP, me_I_nx, me_P_sI, me_P_sP, me_P_nx, me_N_sI, me_N_sP, me_N_nx, me_L_sI, me_L_sP, me_L_nx, show me_L M 20 0 = 2 from hm.2.1 (20, 0, 2) (by decide)])]; unfold vp_in; decide) (by simp [me_I_sI, me_I_sP, me_I_nx, me_P_sI, me_P_sP, me_P_nx, me_N_sI, me_N_sP, me_N_nx, me_L_sI, me_L_sP, me_L_nx, show me_P M 20 0 1 = some (5, 1) from hm.1 (20, 0, 1, 5, 1) (by decide)]) kz) ?_
      refine jx_of (fun _ _ kz => jw_iload_n 2 d_Y_put_29 rfl rfl kz) ?_
      refine jx_callV (x_Y_addPermits_1 _ y hm) mt_Y_addPermits cf_Y rfl rfl ml_Y_133 im_Y_addPermits se_Y_addPermits d_Y_put_30 rfl rfl (Nat.le_of_ble_eq_true rfl) ?_
      rintro _ _ ⟨rfl, rfl⟩
      refine jx_eq (st2 := []) rfl rfl rfl ?_
      refine jx_of (fun _ _ kz => jw_aload_n 0 d_Y_put_33 rfl rfl kz) ?_
      refine jx_callV (x_Y_injectWoken2 _  (by simp [me_I_sI, me_I_sP, me_I_nx, me_P_sI, me_P_sP, me_P_nx, me_N_sI, me_N_sP, me_N_nx, me_L_sI, me_L_sP, me_L_nx, show me_P M 0 0 7 = some (4, 4) from hm.1 (0, 0, 7, 4, 4) (by decide)]) (by simp [me_I_sI, me_I_sP, me_I_nx, me_P_sI, me_P_sP, me_P_nx, me_N_sI, me_N_sP, me_N_nx, me_L_sI, me_L_sP, me_L_nx, show me_I M 4 4 1 = 0 from hm.2.2 (4, 4, 1, 0) (by decide)])) mt_Y_injectWoken cf_Y rfl rfl ml_Y_103 im_Y_injectWoken se_Y_injectWoken d_Y_put_34 rfl rfl (Nat.le_of_ble_eq_true rfl) ?_
      rintro _ _ ⟨rfl, rfl⟩
      refine jx_eq (st2 := []) rfl rfl rfl ?_
      refine jx_of (fun _ _ kz => jw_aload_n 0 d_Y_put_37 rfl rfl kz) ?_
      refine jx_of (fun _ _ kz => jw_getPe (some (20, 0)) fl_Y_55 d_Y_put_38 rfl rfl (by simp [me_I_sI, me_I_sP, me_I_nx, me_P_sI, me_P_sP, me_P_nx, me_N_sI, me_N_sP, me_N_nx, me_L_sI, me_L_sP, me_L_nx, show me_P M 0 0 8 = some (20, 0) from hm.1 (0, 0, 8, 20, 0) (by decide)]) kz) ?_
      refine jx_of (fun _ _ kz => jw_iload_n 1 d_Y_put_41 rfl rfl kz) ?_
      refine jx_of (fun _ _ kz => jw_aalde (some (5, 1)) d_Y_put_42 rfl rfl (by rw [show me_L _ 20 0 = 2 from (by simp [me_I_sI, me_I_sP, me_I_nx, me_P_sI, me_P_sP, me_P_nx, me_N_sI, me_N_sP, me_N_nx, me_L_sI, me_L_sP, me_L_nx, show me_L M 20 0 = 2 from hm.2.1 (20, 0, 2) (by decide)])]; unfold vp_in; decide) (by simp [me_I_sI, me_I_sP, me_I_nx, me_P_sI, me_P_sP, me_P_nx, me_N_sI, me_N_sP, me_N_nx, me_L_sI, me_L_sP, me_L_nx, show me_P M 20 0 1 = some (5, 1) from hm.1 (20, 0, 1, 5, 1) (by decide)]) kz) ?_
      refine jx_of (fun _ _ kz => jw_getIe (1 + y) fl_Y_137 d_Y_put_43 rfl rfl (by simp [me_I_sI, me_I_sP, me_I_nx, me_P_sI, me_P_sP, me_P_nx, me_N_sI, me_N_sP, me_N_nx, me_L_sI, me_L_sP, me_L_nx]) kz) ?_
      refine jx_iret d_Y_put_46 rfl ?_
      exact ⟨by rw [if_neg b_11, if_neg (Int32.not_lt.mpr b_17)], by repeat (first | exact kp_rf | refine kp_sI ?_ (by decide))⟩
    · skip
      refine jx_of (fun _ _ kz => jw_iconst (-1) d_Y_put_20 (by decide) kz) ?_
      refine jx_iret d_Y_put_21 rfl ?_
      exact ⟨by simp_all, kp_rf⟩
set_option maxRecDepth 20000 in
set_option maxHeartbeats 4000000 in
theorem x_Y_giveNotice_1 {G : Gt} {M : Me} (d : Nat) (hm : cfr M) : sx G yt_Y_giveNotice yn_Y_giveNotice (d + 2) [.inr (some (0, 0)), .inr (some (6, 1))] M (fun r M' => r = some (.inl 0) ∧ M' = (me_sI M 6 1 1 (1))) := by
  refine sx_of (k := 2) (lc := [some (.inr (some (0, 0))), some (.inr (some (6, 1))), none, none]) mt_Y_giveNotice (Nat.le_of_ble_eq_true rfl) rfl ?_
  refine jx_of (fun _ _ kz => jw_aload_n 1 d_Y_giveNotice_0 rfl rfl kz) ?_
  refine jx_of (fun _ _ kz => jw_getPe (some (4, 8)) fl_Y_186 d_Y_giveNotice_1 rfl rfl (by simp [me_I_sI, me_I_sP, me_I_nx, me_P_sI, me_P_sP, me_P_nx, me_N_sI, me_N_sP, me_N_nx, me_L_sI, me_L_sP, me_L_nx, show me_P M 6 1 0 = some (4, 8) from hm.1 (6, 1, 0, 4, 8) (by decide)]) kz) ?_
  refine jx_callV (x_R_isEmpty _ 8 (by simp [me_I_sI, me_I_sP, me_I_nx, me_P_sI, me_P_sP, me_P_nx, me_N_sI, me_N_sP, me_N_nx, me_L_sI, me_L_sP, me_L_nx, show me_I M 4 8 1 = 0 from hm.2.2 (4, 8, 1, 0) (by decide)])) mt_R_isEmpty cf_R rfl rfl ml_Y_198 im_R_isEmpty se_R_isEmpty d_Y_giveNotice_4 rfl rfl (Nat.le_of_ble_eq_true rfl) ?_
  rintro _ _ ⟨rfl, rfl⟩
  refine jx_eq (st2 := [.inl 1]) rfl rfl rfl ?_
  refine jx_if_eq 17 d_Y_giveNotice_7 (by decide) (fun h => absurd h (by decide)) (fun _ => ?_)
  refine jx_of (fun _ _ kz => jw_aload_n 1 d_Y_giveNotice_10 rfl rfl kz) ?_
  refine jx_of (fun _ _ kz => jw_iconst 1 d_Y_giveNotice_11 (by decide) kz) ?_
  refine jx_of (fun _ _ kz => jw_putI fl_Y_182 (Or.inl rfl) rfl rfl d_Y_giveNotice_12 rfl rfl kz) ?_
  refine jx_of (fun _ _ kz => jw_iconst 0 d_Y_giveNotice_15 (by decide) kz) ?_
  refine jx_zret d_Y_giveNotice_16 rfl (by decide) ?_
  exact ⟨rfl, rfl⟩
set_option maxRecDepth 20000 in
set_option maxHeartbeats 4000000 in
theorem x_Y_wake_1 {G : Gt} {M : Me} (d : Nat) (hm : cfr M) : sx G yt_Y_wake yn_Y_wake (d + 3) [.inr (some (0, 0)), .inl 1] M (fun r M' => r = some (.inl (0)) ∧ kpM M M') := by
  refine sx_of (k := 1) (lc := [some (.inr (some (0, 0))), some (.inl 1), none]) mt_Y_wake (Nat.le_of_ble_eq_true rfl) rfl ?_
  refine jx_of (fun _ _ kz => jw_iload_n 1 d_Y_wake_0 rfl rfl kz) ?_
  refine jx_if_lt 9 d_Y_wake_1 (by decide) (fun h => absurd h (by decide)) (fun _ => ?_)
  refine jx_of (fun _ _ kz => jw_iload_n 1 d_Y_wake_4 rfl rfl kz) ?_
  refine jx_of (fun _ _ kz => jw_iconst 1 d_Y_wake_5 (by decide) kz) ?_
  refine jx_icmp_le 11 d_Y_wake_6 (by decide) (fun _ => ?_) (fun h => absurd h (by decide))
  refine jx_of (fun _ _ kz => jw_aload_n 0 d_Y_wake_11 rfl rfl kz) ?_
  refine jx_of (fun _ _ kz => jw_aload_n 0 d_Y_wake_12 rfl rfl kz) ?_
  refine jx_of (fun _ _ kz => jw_getPe (some (21, 0)) fl_Y_62 d_Y_wake_13 rfl rfl (by simp [me_I_sI, me_I_sP, me_I_nx, me_P_sI, me_P_sP, me_P_nx, me_N_sI, me_N_sP, me_N_nx, me_L_sI, me_L_sP, me_L_nx, show me_P M 0 0 9 = some (21, 0) from hm.1 (0, 0, 9, 21, 0) (by decide)]) kz) ?_
  refine jx_of (fun _ _ kz => jw_iload_n 1 d_Y_wake_16 rfl rfl kz) ?_
  refine jx_of (fun _ _ kz => jw_aalde (some (6, 1)) d_Y_wake_17 rfl rfl (by rw [show me_L _ 21 0 = 2 from (by simp [me_I_sI, me_I_sP, me_I_nx, me_P_sI, me_P_sP, me_P_nx, me_N_sI, me_N_sP, me_N_nx, me_L_sI, me_L_sP, me_L_nx, show me_L M 21 0 = 2 from hm.2.1 (21, 0, 2) (by decide)])]; unfold vp_in; decide) (by simp [me_I_sI, me_I_sP, me_I_nx, me_P_sI, me_P_sP, me_P_nx, me_N_sI, me_N_sP, me_N_nx, me_L_sI, me_L_sP, me_L_nx, show me_P M 21 0 1 = some (6, 1) from hm.1 (21, 0, 1, 6, 1) (by decide)]) kz) ?_
  refine jx_callV (x_Y_giveNotice_1 _  hm) mt_Y_giveNotice cf_Y rfl rfl ml_Y_140 im_Y_giveNotice se_Y_giveNotice d_Y_wake_18 rfl rfl (Nat.le_of_ble_eq_true rfl) ?_
  rintro _ _ ⟨rfl, rfl⟩
  refine jx_eq (st2 := [.inl 0]) rfl rfl rfl ?_
  refine jx_of (fun _ _ kz => jw_istore_n 2 d_Y_wake_21 rfl (Nat.le_of_ble_eq_true rfl) kz) ?_
  dsimp only [List.set]
  refine jx_of (fun _ _ kz => jw_aload_n 0 d_Y_wake_22 rfl rfl kz) ?_
  refine jx_callV (x_Y_injectWoken2 _  (by simp [me_I_sI, me_I_sP, me_I_nx, me_P_sI, me_P_sP, me_P_nx, me_N_sI, me_N_sP, me_N_nx, me_L_sI, me_L_sP, me_L_nx, show me_P M 0 0 7 = some (4, 4) from hm.1 (0, 0, 7, 4, 4) (by decide)]) (by simp [me_I_sI, me_I_sP, me_I_nx, me_P_sI, me_P_sP, me_P_nx, me_N_sI, me_N_sP, me_N_nx, me_L_sI, me_L_sP, me_L_nx, show me_I M 4 4 1 = 0 from hm.2.2 (4, 4, 1, 0) (by decide)])) mt_Y_injectWoken cf_Y rfl rfl ml_Y_103 im_Y_injectWoken se_Y_injectWoken d_Y_wake_23 rfl rfl (Nat.le_of_ble_eq_true rfl) ?_
  rintro _ _ ⟨rfl, rfl⟩
  refine jx_eq (st2 := []) rfl rfl rfl ?_
  refine jx_of (fun _ _ kz => jw_iload_n 2 d_Y_wake_26 rfl rfl kz) ?_
  refine jx_if_eq 34 d_Y_wake_27 (by decide) (fun _ => ?_) (fun h => absurd h (by decide))
  refine jx_of (fun _ _ kz => jw_iconst 0 d_Y_wake_34 (by decide) kz) ?_
  refine jx_iret d_Y_wake_35 rfl ?_
  exact ⟨rfl, by repeat (first | exact kp_rf | refine kp_sI ?_ (by decide))⟩
set_option maxRecDepth 20000 in
set_option maxHeartbeats 4000000 in
theorem x_Y_put_x {G : Gt} {M : Me} (d : Nat) (x : Int32) (y : Int32) (hm : cfr M) (hx : x < 0 ∨ 1 < x) : sx G yt_Y_put yn_Y_put (d + 2) [.inr (some (0, 0)), .inl x, .inl y] M (fun r M' => r = some (.inl (-1)) ∧ kpM M M') := by
  refine sx_of (k := 0) (lc := [some (.inr (some (0, 0))), some (.inl x), some (.inl y)]) mt_Y_put (Nat.le_of_ble_eq_true rfl) rfl ?_
  refine jx_of (fun _ _ kz => jw_iload_n 1 d_Y_put_0 rfl rfl kz) ?_
  refine jx_if_lt 20 d_Y_put_1 (by decide) (fun b_1 => ?_) (fun b_1 => ?_)
  · skip
    refine jx_of (fun _ _ kz => jw_iconst (-1) d_Y_put_20 (by decide) kz) ?_
    refine jx_iret d_Y_put_21 rfl ?_
    exact ⟨rfl, kp_rf⟩
  · skip
    refine jx_of (fun _ _ kz => jw_iload_n 1 d_Y_put_4 rfl rfl kz) ?_
    refine jx_of (fun _ _ kz => jw_iconst 1 d_Y_put_5 (by decide) kz) ?_
    refine jx_icmp_gt 20 d_Y_put_6 (by decide) (fun _ => ?_) (fun h => absurd (hx.resolve_left b_1) h)
    refine jx_of (fun _ _ kz => jw_iconst (-1) d_Y_put_20 (by decide) kz) ?_
    refine jx_iret d_Y_put_21 rfl ?_
    exact ⟨rfl, kp_rf⟩
set_option maxRecDepth 20000 in
set_option maxHeartbeats 4000000 in
theorem x_Y_wake_x {G : Gt} {M : Me} (d : Nat) (x : Int32) (hm : cfr M) (hx : x < 0 ∨ 1 < x) : sx G yt_Y_wake yn_Y_wake (d + 3) [.inr (some (0, 0)), .inl x] M (fun r M' => r = some (.inl (-1)) ∧ kpM M M') := by
  refine sx_of (k := 1) (lc := [some (.inr (some (0, 0))), some (.inl x), none]) mt_Y_wake (Nat.le_of_ble_eq_true rfl) rfl ?_
  refine jx_of (fun _ _ kz => jw_iload_n 1 d_Y_wake_0 rfl rfl kz) ?_
  refine jx_if_lt 9 d_Y_wake_1 (by decide) (fun b_1 => ?_) (fun b_1 => ?_)
  · skip
    refine jx_of (fun _ _ kz => jw_iconst (-1) d_Y_wake_9 (by decide) kz) ?_
    refine jx_iret d_Y_wake_10 rfl ?_
    exact ⟨rfl, kp_rf⟩
  · skip
    refine jx_of (fun _ _ kz => jw_iload_n 1 d_Y_wake_4 rfl rfl kz) ?_
    refine jx_of (fun _ _ kz => jw_iconst 1 d_Y_wake_5 (by decide) kz) ?_
    refine jx_icmp_le 11 d_Y_wake_6 (by decide) (fun h => absurd h (Int32.not_le.mpr (hx.resolve_left b_1))) (fun _ => ?_)
    refine jx_of (fun _ _ kz => jw_iconst (-1) d_Y_wake_9 (by decide) kz) ?_
    refine jx_iret d_Y_wake_10 rfl ?_
    exact ⟨rfl, kp_rf⟩
end
