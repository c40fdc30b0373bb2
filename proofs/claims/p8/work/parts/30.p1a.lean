def cq_P : List (Nat × Nat × Nat × Nat × Nat) := [(0, 0, 0, 1, 0), (0, 0, 1, 17, 0), (0, 0, 3, 18, 0), (0, 0, 5, 19, 0), (0, 0, 6, 4, 3), (0, 0, 7, 4, 4), (0, 0, 8, 20, 0), (0, 0, 9, 21, 0), (19, 0, 0, 3, 0), (3, 0, 1, 4, 0), (19, 0, 1, 3, 1), (3, 1, 1, 4, 1), (19, 0, 2, 3, 2), (3, 2, 1, 4, 2), (20, 0, 0, 5, 0), (21, 0, 0, 6, 0), (5, 0, 0, 4, 5), (6, 0, 0, 4, 7), (20, 0, 1, 5, 1), (21, 0, 1, 6, 1), (5, 1, 0, 4, 6), (6, 1, 0, 4, 8), (4, 0, 0, 10, 0), (4, 1, 0, 10, 1), (4, 2, 0, 10, 2), (4, 3, 0, 10, 3), (4, 4, 0, 10, 4), (4, 5, 0, 10, 5), (4, 6, 0, 10, 6), (4, 7, 0, 10, 7), (4, 8, 0, 10, 8), (1, 0, 0, 11, 0), (1, 0, 1, 12, 0), (1, 0, 2, 13, 0)]
def cq_L : List (Nat × Nat × Nat) := [(17, 0, 6), (18, 0, 12), (19, 0, 3), (20, 0, 2), (21, 0, 2), (11, 0, 12), (12, 0, 12), (13, 0, 12), (10, 0, 4), (10, 1, 4), (10, 2, 4), (10, 3, 12), (10, 4, 12), (10, 5, 72), (10, 6, 72), (10, 7, 72), (10, 8, 72)]
def cq_I : List (Nat × Nat × Nat × Int32) := [(0, 0, 2, 0), (0, 0, 4, 0), (0, 0, 10, 0), (0, 0, 11, 0), (0, 0, 12, 0), (0, 0, 13, 0), (3, 0, 0, 0), (3, 0, 2, (-1)), (3, 0, 3, 0), (3, 0, 4, 0), (3, 1, 0, 1), (3, 1, 2, (-1)), (3, 1, 3, 0), (3, 1, 4, 0), (3, 2, 0, 2), (3, 2, 2, (-1)), (3, 2, 3, 0), (3, 2, 4, 0), (4, 0, 1, 0), (4, 1, 1, 0), (4, 2, 1, 0), (4, 3, 1, 0), (4, 4, 1, 0), (4, 5, 1, 0), (4, 6, 1, 0), (4, 7, 1, 0), (4, 8, 1, 0), (5, 0, 1, 1), (6, 0, 1, 0), (5, 1, 1, 1), (6, 1, 1, 0), (1, 0, 3, 0)]
def cfr (M : Me) : Prop := (∀ q ∈ cq_P, me_P M q.1 q.2.1 q.2.2.1 = some (q.2.2.2.1, q.2.2.2.2)) ∧ (∀ q ∈ cq_L, me_L M q.1 q.2.1 = q.2.2) ∧ (∀ q ∈ cq_I, me_I M q.1 q.2.1 q.2.2.1 = q.2.2.2)
set_option maxRecDepth 20000 in
set_option maxHeartbeats 4000000 in
theorem x_R_isEmpty {G : Gt} {M : Me} (d : Nat) (i : Nat) (f0 : me_I M 4 i 1 = 0) : sx G yt_R_isEmpty yn_R_isEmpty (d + 1) [.inr (some (4, i))] M (fun r M' => r = some (.inl 1) ∧ M = M') := by
  refine sx_of (k := 0) (lc := [some (.inr (some (4, i)))]) mt_R_isEmpty (Nat.le_of_ble_eq_true rfl) rfl ?_
  refine jx_of (fun _ _ kz => jw_aload_n 0 d_R_isEmpty_0 rfl rfl kz) ?_
  refine jx_of (fun _ _ kz => jw_getIe (0) fl_R_9 d_R_isEmpty_1 rfl rfl (by simp [me_I_sI, me_I_sP, me_I_nx, me_P_sI, me_P_sP, me_P_nx, me_N_sI, me_N_sP, me_N_nx, me_L_sI, me_L_sP, me_L_nx, f0]) kz) ?_
  refine jx_if_ne 11 d_R_isEmpty_4 (by decide) (fun h => absurd h (by decide)) (fun _ => ?_)
  refine jx_of (fun _ _ kz => jw_iconst 1 d_R_isEmpty_7 (by decide) kz) ?_
  refine jx_of (fun _ _ kz => jw_goto 12 d_R_isEmpty_8 (by decide) kz) ?_
  refine jx_zret d_R_isEmpty_12 rfl (by decide) ?_
  exact ⟨rfl, rfl⟩
set_option maxRecDepth 20000 in
set_option maxHeartbeats 4000000 in
theorem x_R_at {G : Gt} {M : Me} (d : Nat) (i : Nat) (x : Int32) (f0 : me_I M 4 i 1 = 0) : sx G yt_R_at yn_R_at (d + 1) [.inr (some (4, i)), .inl x] M (fun r M' => r = some (.inl ((-1))) ∧ M = M') := by
  refine sx_of (k := 0) (lc := [some (.inr (some (4, i))), some (.inl x)]) mt_R_at (Nat.le_of_ble_eq_true rfl) rfl ?_
  refine jx_of (fun _ _ kz => jw_iload_n 1 d_R_at_0 rfl rfl kz) ?_
  refine jx_if_lt 12 d_R_at_1 (by decide) (fun b_1 => ?_) (fun b_1 => ?_)
  · skip
    refine jx_of (fun _ _ kz => jw_iconst (-1) d_R_at_12 (by decide) kz) ?_
    refine jx_of (fun _ _ kz => jw_goto 22 d_R_at_13 (by decide) kz) ?_
    refine jx_iret d_R_at_22 rfl ?_
    first | exact ⟨rfl, rfl⟩ | exact ⟨by simp [b_1], rfl⟩ | exact ⟨by simp_all, by simp_all⟩
  · skip
    refine jx_of (fun _ _ kz => jw_iload_n 1 d_R_at_4 rfl rfl kz) ?_
    refine jx_of (fun _ _ kz => jw_aload_n 0 d_R_at_5 rfl rfl kz) ?_
    refine jx_of (fun _ _ kz => jw_getIe (0) fl_R_9 d_R_at_6 rfl rfl (by simp [me_I_sI, me_I_sP, me_I_nx, me_P_sI, me_P_sP, me_P_nx, me_N_sI, me_N_sP, me_N_nx, me_L_sI, me_L_sP, me_L_nx, f0]) kz) ?_
    refine jx_icmp_lt 16 d_R_at_9 (by decide) (fun h => absurd h b_1) (fun _ => ?_)
    refine jx_of (fun _ _ kz => jw_iconst (-1) d_R_at_12 (by decide) kz) ?_
    refine jx_of (fun _ _ kz => jw_goto 22 d_R_at_13 (by decide) kz) ?_
    refine jx_iret d_R_at_22 rfl ?_
    first | exact ⟨rfl, rfl⟩ | exact ⟨by simp [b_1], rfl⟩ | exact ⟨by simp_all, by simp_all⟩
set_option maxRecDepth 20000 in
set_option maxHeartbeats 4000000 in
theorem x_Y_clear {G : Gt} {M : Me} (d : Nat) (hm : cfr M) : sx G yt_Y_clear yn_Y_clear (d + 1) [.inr (some (0, 0))] M (fun r M' => r = some (.inl 0) ∧ (me_sI M 1 0 3 (0)) = M') := by
  refine sx_of (k := 1) (lc := [some (.inr (some (0, 0))), none]) mt_Y_clear (Nat.le_of_ble_eq_true rfl) rfl ?_
  refine jx_of (fun _ _ kz => jw_aload_n 0 d_Y_clear_0 rfl rfl kz) ?_
  refine jx_of (fun _ _ kz => jw_getPe (some (1, 0)) fl_Y_12 d_Y_clear_1 rfl rfl (by simp [me_I_sI, me_I_sP, me_I_nx, me_P_sI, me_P_sP, me_P_nx, me_N_sI, me_N_sP, me_N_nx, me_L_sI, me_L_sP, me_L_nx, show me_P M 0 0 0 = some (1, 0) from hm.1 (0, 0, 0, 1, 0) (by decide)]) kz) ?_
  refine jx_of (fun _ _ kz => jw_getIe (0) fl_Y_89 d_Y_clear_4 rfl rfl (by simp [me_I_sI, me_I_sP, me_I_nx, me_P_sI, me_P_sP, me_P_nx, me_N_sI, me_N_sP, me_N_nx, me_L_sI, me_L_sP, me_L_nx, show me_I M 1 0 3 = 0 from hm.2.2 (1, 0, 3, 0) (by decide)]) kz) ?_
  refine jx_of (fun _ _ kz => jw_istore_n 1 d_Y_clear_7 rfl (Nat.le_of_ble_eq_true rfl) kz) ?_
  dsimp only [List.set]
  refine jx_of (fun _ _ kz => jw_aload_n 0 d_Y_clear_8 rfl rfl kz) ?_
  refine jx_of (fun _ _ kz => jw_getPe (some (1, 0)) fl_Y_12 d_Y_clear_9 rfl rfl (by simp [me_I_sI, me_I_sP, me_I_nx, me_P_sI, me_P_sP, me_P_nx, me_N_sI, me_N_sP, me_N_nx, me_L_sI, me_L_sP, me_L_nx, show me_P M 0 0 0 = some (1, 0) from hm.1 (0, 0, 0, 1, 0) (by decide)]) kz) ?_
  refine jx_of (fun _ _ kz => jw_iconst 0 d_Y_clear_12 (by decide) kz) ?_
  refine jx_of (fun _ _ kz => jw_putI fl_Y_89 (Or.inl rfl) rfl rfl d_Y_clear_13 rfl rfl kz) ?_
  refine jx_of (fun _ _ kz => jw_iload_n 1 d_Y_clear_16 rfl rfl kz) ?_
  refine jx_iret d_Y_clear_17 rfl ?_
  exact ⟨rfl, rfl⟩
set_option maxRecDepth 20000 in
set_option maxHeartbeats 4000000 in
theorem x_P_isOneFuture {G : Gt} {M : Me} (d : Nat) (i : Nat) (f0 : me_I M 1 i 3 = 0) : sx G yt_P_isOneFuture yn_P_isOneFuture (d + 1) [.inr (some (1, i))] M (fun r M' => r = some (.inl 0) ∧ M = M') := by
  refine sx_of (k := 2) (lc := [some (.inr (some (1, i))), none, none]) mt_P_isOneFuture (Nat.le_of_ble_eq_true rfl) rfl ?_
  refine jx_of (fun _ _ kz => jw_iconst 1 d_P_isOneFuture_0 (by decide) kz) ?_
  refine jx_of (fun _ _ kz => jw_istore_n 1 d_P_isOneFuture_1 rfl (Nat.le_of_ble_eq_true rfl) kz) ?_
  dsimp only [List.set]
  refine jx_of (fun _ _ kz => jw_iconst 0 d_P_isOneFuture_2 (by decide) kz) ?_
  refine jx_of (fun _ _ kz => jw_istore_n 2 d_P_isOneFuture_3 rfl (Nat.le_of_ble_eq_true rfl) kz) ?_
  dsimp only [List.set]
  refine jx_of (fun _ _ kz => jw_iload_n 2 d_P_isOneFuture_4 rfl rfl kz) ?_
  refine jx_of (fun _ _ kz => jw_aload_n 0 d_P_isOneFuture_5 rfl rfl kz) ?_
  refine jx_of (fun _ _ kz => jw_getIe (0) fl_P_21 d_P_isOneFuture_6 rfl rfl (by simp [me_I_sI, me_I_sP, me_I_nx, me_P_sI, me_P_sP, me_P_nx, me_N_sI, me_N_sP, me_N_nx, me_L_sI, me_L_sP, me_L_nx, f0]) kz) ?_
  refine jx_icmp_ge 39 d_P_isOneFuture_9 (by decide) (fun _ => ?_) (fun h => absurd h (by decide))
  refine jx_of (fun _ _ kz => jw_iload_n 1 d_P_isOneFuture_39 rfl rfl kz) ?_
  refine jx_if_ne 47 d_P_isOneFuture_40 (by decide) (fun _ => ?_) (fun h => absurd h (by decide))
  refine jx_of (fun _ _ kz => jw_iconst 0 d_P_isOneFuture_47 (by decide) kz) ?_
  refine jx_zret d_P_isOneFuture_48 rfl (by decide) ?_
  exact ⟨rfl, rfl⟩
set_option maxRecDepth 20000 in
set_option maxHeartbeats 4000000 in
theorem x_Y_define {G : Gt} {M : Me} (d : Nat) (hm : cfr M) : sx G yt_Y_define yn_Y_define (d + 2) [.inr (some (0, 0))] M (fun r M' => r = some (.inl ((-1))) ∧ M = M') := by
  refine sx_of (k := 0) (lc := [some (.inr (some (0, 0)))]) mt_Y_define (Nat.le_of_ble_eq_true rfl) rfl ?_
  refine jx_of (fun _ _ kz => jw_aload_n 0 d_Y_define_0 rfl rfl kz) ?_
  refine jx_of (fun _ _ kz => jw_getPe (some (1, 0)) fl_Y_12 d_Y_define_1 rfl rfl (by simp [me_I_sI, me_I_sP, me_I_nx, me_P_sI, me_P_sP, me_P_nx, me_N_sI, me_N_sP, me_N_nx, me_L_sI, me_L_sP, me_L_nx, show me_P M 0 0 0 = some (1, 0) from hm.1 (0, 0, 0, 1, 0) (by decide)]) kz) ?_
  refine jx_callV (x_P_isOneFuture _ 0 (by simp [me_I_sI, me_I_sP, me_I_nx, me_P_sI, me_P_sP, me_P_nx, me_N_sI, me_N_sP, me_N_nx, me_L_sI, me_L_sP, me_L_nx, show me_I M 1 0 3 = 0 from hm.2.2 (1, 0, 3, 0) (by decide)])) mt_P_isOneFuture cf_P rfl rfl ml_Y_92 im_P_isOneFuture se_P_isOneFuture d_Y_define_4 rfl rfl (Nat.le_of_ble_eq_true rfl) ?_
  rintro _ _ ⟨rfl, rfl⟩
  refine jx_eq (st2 := [.inl 0]) rfl rfl rfl ?_
  refine jx_if_ne 12 d_Y_define_7 (by decide) (fun h => absurd h (by decide)) (fun _ => ?_)
  refine jx_of (fun _ _ kz => jw_iconst (-1) d_Y_define_10 (by decide) kz) ?_
  refine jx_iret d_Y_define_11 rfl ?_
  exact ⟨rfl, rfl⟩
set_option maxRecDepth 20000 in
set_option maxHeartbeats 4000000 in
theorem x_Y_spawn {G : Gt} {M : Me} (d : Nat) (x : Int32) (hm : cfr M) : sx G yt_Y_spawn yn_Y_spawn (d + 1) [.inr (some (0, 0)), .inl x] M (fun r M' => r = some (.inl ((-1))) ∧ M = M') := by
  refine sx_of (k := 1) (lc := [some (.inr (some (0, 0))), some (.inl x), none]) mt_Y_spawn (Nat.le_of_ble_eq_true rfl) rfl ?_
  refine jx_of (fun _ _ kz => jw_iload_n 1 d_Y_spawn_0 rfl rfl kz) ?_
  refine jx_if_lt 12 d_Y_spawn_1 (by decide) (fun b_1 => ?_) (fun b_1 => ?_)
  · skip
    refine jx_of (fun _ _ kz => jw_iconst (-1) d_Y_spawn_12 (by decide) kz) ?_
    refine jx_iret d_Y_spawn_13 rfl ?_
    first | exact ⟨rfl, rfl⟩ | exact ⟨by simp [b_1], rfl⟩ | exact ⟨by simp_all, by simp_all⟩
  · skip
    refine jx_of (fun _ _ kz => jw_iload_n 1 d_Y_spawn_4 rfl rfl kz) ?_
    refine jx_of (fun _ _ kz => jw_aload_n 0 d_Y_spawn_5 rfl rfl kz) ?_
    refine jx_of (fun _ _ kz => jw_getIe (0) fl_Y_20 d_Y_spawn_6 rfl rfl (by simp [me_I_sI, me_I_sP, me_I_nx, me_P_sI, me_P_sP, me_P_nx, me_N_sI, me_N_sP, me_N_nx, me_L_sI, me_L_sP, me_L_nx, show me_I M 0 0 2 = 0 from hm.2.2 (0, 0, 2, 0) (by decide)]) kz) ?_
    refine jx_icmp_lt 14 d_Y_spawn_9 (by decide) (fun h => absurd h b_1) (fun _ => ?_)
    refine jx_of (fun _ _ kz => jw_iconst (-1) d_Y_spawn_12 (by decide) kz) ?_
    refine jx_iret d_Y_spawn_13 rfl ?_
    first | exact ⟨rfl, rfl⟩ | exact ⟨by simp [b_1], rfl⟩ | exact ⟨by simp_all, by simp_all⟩
set_option maxRecDepth 20000 in
set_option maxHeartbeats 4000000 in
theorem x_Y_taskAt {G : Gt} {M : Me} (d : Nat) (x : Int32) (hm : cfr M) : sx G yt_Y_taskAt yn_Y_taskAt (d + 1) [.inr (some (0, 0)), .inl x] M (fun r M' => r = some (.inr none) ∧ M = M') := by
  refine sx_of (k := 0) (lc := [some (.inr (some (0, 0))), some (.inl x)]) mt_Y_taskAt (Nat.le_of_ble_eq_true rfl) rfl ?_
  refine jx_of (fun _ _ kz => jw_iload_n 1 d_Y_taskAt_0 rfl rfl kz) ?_
  refine jx_if_lt 18 d_Y_taskAt_1 (by decide) (fun b_1 => ?_) (fun b_1 => ?_)
  · skip
    refine jx_of (fun _ _ kz => jw_null d_Y_taskAt_18 kz) ?_
    refine jx_of (fun _ _ kz => jw_goto 28 d_Y_taskAt_19 (by decide) kz) ?_
    refine jx_aret d_Y_taskAt_28 rfl ?_
    first | exact ⟨rfl, rfl⟩ | exact ⟨by simp [b_1], rfl⟩ | exact ⟨by simp_all, by simp_all⟩
  · skip
    refine jx_of (fun _ _ kz => jw_iload_n 1 d_Y_taskAt_4 rfl rfl kz) ?_
    refine jx_of (fun _ _ kz => jw_aload_n 0 d_Y_taskAt_5 rfl rfl kz) ?_
    refine jx_of (fun _ _ kz => jw_getIe (0) fl_Y_30 d_Y_taskAt_6 rfl rfl (by simp [me_I_sI, me_I_sP, me_I_nx, me_P_sI, me_P_sP, me_P_nx, me_N_sI, me_N_sP, me_N_nx, me_L_sI, me_L_sP, me_L_nx, show me_I M 0 0 4 = 0 from hm.2.2 (0, 0, 4, 0) (by decide)]) kz) ?_
    refine jx_icmp_ge 18 d_Y_taskAt_9 (by decide) (fun _ => ?_) (fun h => absurd (Int32.not_lt.mp b_1) h)
    refine jx_of (fun _ _ kz => jw_null d_Y_taskAt_18 kz) ?_
    refine jx_of (fun _ _ kz => jw_goto 28 d_Y_taskAt_19 (by decide) kz) ?_
    refine jx_aret d_Y_taskAt_28 rfl ?_
    first | exact ⟨rfl, rfl⟩ | exact ⟨by simp [b_1], rfl⟩ | exact ⟨by simp_all, by simp_all⟩
set_option maxRecDepth 20000 in
set_option maxHeartbeats 4000000 in
theorem x_Y_task {G : Gt} {M : Me} (d : Nat) (x : Int32) (y : Int32) (hm : cfr M) : sx G yt_Y_task yn_Y_task (d + 2) [.inr (some (0, 0)), .inl x, .inl y] M (fun r M' => r = some (.inl ((-1))) ∧ M = M') := by
  refine sx_of (k := 1) (lc := [some (.inr (some (0, 0))), some (.inl x), some (.inl y), none]) mt_Y_task (Nat.le_of_ble_eq_true rfl) rfl ?_
  refine jx_of (fun _ _ kz => jw_aload_n 0 d_Y_task_0 rfl rfl kz) ?_
  refine jx_of (fun _ _ kz => jw_iload_n 1 d_Y_task_1 rfl rfl kz) ?_
  refine jx_callV (x_Y_taskAt _ x hm) mt_Y_taskAt cf_Y rfl rfl ml_Y_113 im_Y_taskAt se_Y_taskAt d_Y_task_2 rfl rfl (Nat.le_of_ble_eq_true rfl) ?_
  rintro _ _ ⟨rfl, rfl⟩
  refine jx_eq (st2 := [.inr none]) rfl rfl rfl ?_
  refine jx_of (fun _ _ kz => jw_astore_n 3 d_Y_task_5 rfl (Nat.le_of_ble_eq_true rfl) kz) ?_
  dsimp only [List.set]
  refine jx_of (fun _ _ kz => jw_aload_n 3 d_Y_task_6 rfl rfl kz) ?_
  refine jx_ifnonnull 12 d_Y_task_7 (by decide) (fun _ h => by cases h) (fun _ => ?_)
  refine jx_of (fun _ _ kz => jw_iconst (-1) d_Y_task_10 (by decide) kz) ?_
  refine jx_iret d_Y_task_11 rfl ?_
  exact ⟨rfl, rfl⟩
set_option maxRecDepth 20000 in
set_option maxHeartbeats 4000000 in
theorem x_Y_abort {G : Gt} {M : Me} (d : Nat) (x : Int32) (hm : cfr M) : sx G yt_Y_abort yn_Y_abort (d + 2) [.inr (some (0, 0)), .inl x] M (fun r M' => r = some (.inl 0) ∧ M = M') := by
  refine sx_of (k := 1) (lc := [some (.inr (some (0, 0))), some (.inl x), none]) mt_Y_abort (Nat.le_of_ble_eq_true rfl) rfl ?_
  refine jx_of (fun _ _ kz => jw_aload_n 0 d_Y_abort_0 rfl rfl kz) ?_
  refine jx_of (fun _ _ kz => jw_iload_n 1 d_Y_abort_1 rfl rfl kz) ?_
  refine jx_callV (x_Y_taskAt _ x hm) mt_Y_taskAt cf_Y rfl rfl ml_Y_113 im_Y_taskAt se_Y_taskAt d_Y_abort_2 rfl rfl (Nat.le_of_ble_eq_true rfl) ?_
  rintro _ _ ⟨rfl, rfl⟩
  refine jx_eq (st2 := [.inr none]) rfl rfl rfl ?_
  refine jx_of (fun _ _ kz => jw_astore_n 2 d_Y_abort_5 rfl (Nat.le_of_ble_eq_true rfl) kz) ?_
  dsimp only [List.set]
  refine jx_of (fun _ _ kz => jw_aload_n 2 d_Y_abort_6 rfl rfl kz) ?_
  refine jx_ifnull 17 d_Y_abort_7 (by decide) (fun _ => ?_) (fun _ h => by cases h)
  refine jx_of (fun _ _ kz => jw_iconst 0 d_Y_abort_17 (by decide) kz) ?_
  refine jx_zret d_Y_abort_18 rfl (by decide) ?_
  exact ⟨rfl, rfl⟩
set_option maxRecDepth 20000 in
set_option maxHeartbeats 4000000 in
theorem x_Y_injected {G : Gt} {M : Me} (d : Nat) (x : Int32) (hm : cfr M) : sx G yt_Y_injected yn_Y_injected (d + 2) [.inr (some (0, 0)), .inl x] M (fun r M' => r = some (.inl ((-1))) ∧ M = M') := by
  refine sx_of (k := 0) (lc := [some (.inr (some (0, 0))), some (.inl x)]) mt_Y_injected (Nat.le_of_ble_eq_true rfl) rfl ?_
  refine jx_of (fun _ _ kz => jw_iload_n 1 d_Y_injected_0 rfl rfl kz) ?_
  refine jx_if_lt 15 d_Y_injected_1 (by decide) (fun b_1 => ?_) (fun b_1 => ?_)
  · skip
    refine jx_of (fun _ _ kz => jw_iconst (-1) d_Y_injected_15 (by decide) kz) ?_
    refine jx_of (fun _ _ kz => jw_goto 27 d_Y_injected_16 (by decide) kz) ?_
    refine jx_iret d_Y_injected_27 rfl ?_
    first | exact ⟨rfl, rfl⟩ | exact ⟨by simp [b_1], rfl⟩ | exact ⟨by simp_all, by simp_all⟩
  · skip
    refine jx_of (fun _ _ kz => jw_iload_n 1 d_Y_injected_4 rfl rfl kz) ?_
    refine jx_of (fun _ _ kz => jw_aload_n 0 d_Y_injected_5 rfl rfl kz) ?_
    refine jx_of (fun _ _ kz => jw_getPe (some (4, 3)) fl_Y_45 d_Y_injected_6 rfl rfl (by simp [me_I_sI, me_I_sP, me_I_nx, me_P_sI, me_P_sP, me_P_nx, me_N_sI, me_N_sP, me_N_nx, me_L_sI, me_L_sP, me_L_nx, show me_P M 0 0 6 = some (4, 3) from hm.1 (0, 0, 6, 4, 3) (by decide)]) kz) ?_
    refine jx_of (fun _ _ kz => jw_getIe (0) fl_Y_168 d_Y_injected_9 rfl rfl (by simp [me_I_sI, me_I_sP, me_I_nx, me_P_sI, me_P_sP, me_P_nx, me_N_sI, me_N_sP, me_N_nx, me_L_sI, me_L_sP, me_L_nx, show me_I M 4 3 1 = 0 from hm.2.2 (4, 3, 1, 0) (by decide)]) kz) ?_
    refine jx_icmp_lt 19 d_Y_injected_12 (by decide) (fun h => absurd h b_1) (fun _ => ?_)
    refine jx_of (fun _ _ kz => jw_iconst (-1) d_Y_injected_15 (by decide) kz) ?_
    refine jx_of (fun _ _ kz => jw_goto 27 d_Y_injected_16 (by decide) kz) ?_
    refine jx_iret d_Y_injected_27 rfl ?_
    first | exact ⟨rfl, rfl⟩ | exact ⟨by simp [b_1], rfl⟩ | exact ⟨by simp_all, by simp_all⟩
