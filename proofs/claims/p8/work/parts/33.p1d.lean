def mq_P : List (Nat × Nat × Nat × Nat × Nat) := [(7, 0, 0, 30, 0), (7, 0, 1, 31, 0), (7, 0, 2, 32, 0), (7, 0, 4, 33, 0), (7, 0, 5, 34, 0), (7, 0, 6, 35, 0), (7, 0, 7, 36, 0), (7, 0, 8, 37, 0), (7, 0, 9, 38, 0), (7, 0, 10, 39, 0), (7, 0, 11, 40, 0), (7, 0, 12, 41, 0), (7, 0, 13, 42, 0), (7, 0, 14, 43, 0), (7, 0, 15, 44, 0), (7, 0, 16, 45, 0), (7, 0, 17, 46, 0), (7, 0, 18, 47, 0), (7, 0, 19, 48, 0), (7, 0, 20, 49, 0), (7, 0, 21, 50, 0), (7, 0, 22, 51, 0), (7, 0, 23, 52, 0), (7, 0, 24, 53, 0), (7, 0, 25, 54, 0), (7, 0, 26, 55, 0)]
def mq_L : List (Nat × Nat × Nat) := [(30, 0, 84), (31, 0, 84), (32, 0, 7), (33, 0, 12), (34, 0, 12), (35, 0, 12), (36, 0, 12), (37, 0, 12), (38, 0, 12), (39, 0, 12), (40, 0, 144), (41, 0, 144), (42, 0, 144), (43, 0, 144), (44, 0, 144), (45, 0, 144), (46, 0, 13), (47, 0, 13), (48, 0, 3), (49, 0, 3), (50, 0, 3), (51, 0, 12), (52, 0, 3), (53, 0, 12), (54, 0, 2), (55, 0, 2)]
def mq_I : List (Nat × Nat × Nat × Int32) := [(7, 0, 3, 0), (7, 0, 27, 0), (7, 0, 28, 0), (7, 0, 29, 0), (7, 0, 30, 0), (7, 0, 31, 0), (7, 0, 32, 0), (32, 0, 6, 0), (48, 0, 0, (-1)), (49, 0, 0, 0), (50, 0, 0, 0), (52, 0, 0, 0), (48, 0, 1, (-1)), (49, 0, 1, 0), (50, 0, 1, 0), (52, 0, 1, 0), (48, 0, 2, (-1)), (49, 0, 2, 0), (50, 0, 2, 0), (52, 0, 2, 0), (54, 0, 0, 1), (55, 0, 0, 0), (54, 0, 1, 1), (55, 0, 1, 0)]
def mi_I : List (Nat × Nat × Nat × Int32) := [(7, 0, 3, 0), (7, 0, 27, 0), (7, 0, 28, 0), (7, 0, 30, 0), (7, 0, 31, 0), (32, 0, 6, 0), (48, 0, 0, (-1)), (50, 0, 0, 0), (52, 0, 0, 0), (48, 0, 1, (-1)), (50, 0, 1, 0), (52, 0, 1, 0), (48, 0, 2, (-1)), (50, 0, 2, 0), (52, 0, 2, 0), (54, 0, 0, 1), (55, 0, 0, 0), (54, 0, 1, 1), (55, 0, 1, 0)]
def mfr (M : Me) : Prop := (∀ q ∈ mq_P, me_P M q.1 q.2.1 q.2.2.1 = some (q.2.2.2.1, q.2.2.2.2)) ∧ (∀ q ∈ mq_L, me_L M q.1 q.2.1 = q.2.2) ∧ (∀ q ∈ mq_I, me_I M q.1 q.2.1 q.2.2.1 = q.2.2.2)
def mid (M : Me) : Prop := (∀ q ∈ mq_P, me_P M q.1 q.2.1 q.2.2.1 = some (q.2.2.2.1, q.2.2.2.2)) ∧ (∀ q ∈ mq_L, me_L M q.1 q.2.1 = q.2.2) ∧ (∀ q ∈ mi_I, me_I M q.1 q.2.1 q.2.2.1 = q.2.2.2)
theorem mid_sI {M : Me} {s i k : Nat} {v : Int32} (h : mid M) (hn : ∀ q ∈ mi_I, (q.1 = s ∧ q.2.1 = i ∧ q.2.2.1 = k) → q.2.2.2 = v) : mid (me_sI M s i k v) := by
  refine ⟨h.1, h.2.1, fun q hq => ?_⟩
  rw [me_I_sI]
  split
  · rename_i e; exact (hn q hq e).symm
  · exact h.2.2 q hq
theorem mid_sN {M : Me} {s i k : Nat} {v : Int32} (h : mid M) (hn : ∀ q ∈ mi_I, ¬ (q.1 = s ∧ q.2.1 = i ∧ q.2.2.1 = k)) : mid (me_sI M s i k v) := mid_sI h (fun q hq e => absurd e (hn q hq))
theorem mid_of {M : Me} (h : mfr M) : mid M := ⟨h.1, h.2.1, fun q hq => h.2.2 q ((by decide : ∀ q ∈ mi_I, q ∈ mq_I) q hq)⟩
theorem em1 (x : Int32) : x < 0 ∨ (-1) < x := by
  rcases Int32.lt_or_le x 0 with h | h
  · exact Or.inl h
  · refine Or.inr (Int32.lt_iff_toInt_lt.mpr ?_)
    have := Int32.le_iff_toInt_le.mp h
    have e : (-1 : Int32).toInt = -1 := by decide
    have e0 : (0 : Int32).toInt = 0 := by decide
    rw [e0] at this; rw [e]; omega
theorem sw_ne {x : Int32} {n : Nat} (h : x.toInt < 0 ∨ (n : Int) - 1 < x.toInt) (hn : 1 ≤ n := by decide) : ¬ x = 0 := by
  intro e; subst e
  have e0 : (0 : Int32).toInt = 0 := by decide
  rw [e0] at h; omega
theorem sw_no {y : Int32} (h : y.toInt < 0 ∨ ((8 : Nat) : Int) - 1 < y.toInt) (h1 : ¬ y < 0) (h2 : ¬ 7 < y) : False := by
  rcases h with h | h
  · exact h1 (sw_lt h)
  · refine h2 (Int32.lt_iff_toInt_lt.mpr ?_)
    have e : (7 : Int32).toInt = 7 := by decide
    rw [e]; omega
set_option maxRecDepth 20000 in
set_option maxHeartbeats 4000000 in
theorem x_M_is_t {G : Gt} {M : Me} (d : Nat) (x : Int32) (lo : Int32) (hi : Int32) (h1 : ¬ x < lo) (h2 : ¬ hi < x) : sx G yt_M_is yn_M_is (d + 1) [.inl x, .inl lo, .inl hi] M (fun r M' => r = some (.inl 1) ∧ M = M') := by
  refine sx_of (k := 0) (lc := [some (.inl x), some (.inl lo), some (.inl hi)]) mt_M_is (Nat.le_of_ble_eq_true rfl) rfl ?_
  refine jx_of (fun _ _ kz => jw_iload_n 0 d_M_is_0 rfl rfl kz) ?_
  refine jx_of (fun _ _ kz => jw_iload_n 1 d_M_is_1 rfl rfl kz) ?_
  refine jx_icmp_lt 14 d_M_is_2 (by decide) (fun h => absurd h h1) (fun _ => ?_)
  refine jx_of (fun _ _ kz => jw_iload_n 0 d_M_is_5 rfl rfl kz) ?_
  refine jx_of (fun _ _ kz => jw_iload_n 2 d_M_is_6 rfl rfl kz) ?_
  refine jx_icmp_gt 14 d_M_is_7 (by decide) (fun h => absurd h h2) (fun _ => ?_)
  refine jx_of (fun _ _ kz => jw_iconst 1 d_M_is_10 (by decide) kz) ?_
  refine jx_of (fun _ _ kz => jw_goto 15 d_M_is_11 (by decide) kz) ?_
  refine jx_zret d_M_is_15 rfl (by decide) ?_
  exact ⟨rfl, rfl⟩
set_option maxRecDepth 20000 in
set_option maxHeartbeats 4000000 in
theorem x_M_is_f {G : Gt} {M : Me} (d : Nat) (x : Int32) (lo : Int32) (hi : Int32) (h1 : x < lo ∨ hi < x) : sx G yt_M_is yn_M_is (d + 1) [.inl x, .inl lo, .inl hi] M (fun r M' => r = some (.inl 0) ∧ M = M') := by
  refine sx_of (k := 0) (lc := [some (.inl x), some (.inl lo), some (.inl hi)]) mt_M_is (Nat.le_of_ble_eq_true rfl) rfl ?_
  refine jx_of (fun _ _ kz => jw_iload_n 0 d_M_is_0 rfl rfl kz) ?_
  refine jx_of (fun _ _ kz => jw_iload_n 1 d_M_is_1 rfl rfl kz) ?_
  refine jx_icmp_lt 14 d_M_is_2 (by decide) (fun b_2 => ?_) (fun b_2 => ?_)
  · skip
    refine jx_of (fun _ _ kz => jw_iconst 0 d_M_is_14 (by decide) kz) ?_
    refine jx_zret d_M_is_15 rfl (by decide) ?_
    first | exact ⟨rfl, rfl⟩ | exact ⟨by simp [b_2], rfl⟩ | exact ⟨by simp_all, by simp_all⟩
  · skip
    refine jx_of (fun _ _ kz => jw_iload_n 0 d_M_is_5 rfl rfl kz) ?_
    refine jx_of (fun _ _ kz => jw_iload_n 2 d_M_is_6 rfl rfl kz) ?_
    refine jx_icmp_gt 14 d_M_is_7 (by decide) (fun _ => ?_) (fun h => absurd (h1.resolve_left b_2) h)
    refine jx_of (fun _ _ kz => jw_iconst 0 d_M_is_14 (by decide) kz) ?_
    refine jx_zret d_M_is_15 rfl (by decide) ?_
    first | exact ⟨rfl, rfl⟩ | exact ⟨by simp [b_2], rfl⟩ | exact ⟨by simp_all, by simp_all⟩
set_option maxRecDepth 20000 in
set_option maxHeartbeats 4000000 in
theorem x_M_is {G : Gt} {M : Me} (d : Nat) (x : Int32) (lo : Int32) (hi : Int32) : sx G yt_M_is yn_M_is (d + 1) [.inl x, .inl lo, .inl hi] M (fun r M' => r = some (.inl (if x < lo then 0 else if hi < x then 0 else 1)) ∧ M = M') := by
  refine sx_of (k := 0) (lc := [some (.inl x), some (.inl lo), some (.inl hi)]) mt_M_is (Nat.le_of_ble_eq_true rfl) rfl ?_
  refine jx_of (fun _ _ kz => jw_iload_n 0 d_M_is_0 rfl rfl kz) ?_
  refine jx_of (fun _ _ kz => jw_iload_n 1 d_M_is_1 rfl rfl kz) ?_
  refine jx_icmp_lt 14 d_M_is_2 (by decide) (fun b_2 => ?_) (fun b_2 => ?_)
  · skip
    refine jx_of (fun _ _ kz => jw_iconst 0 d_M_is_14 (by decide) kz) ?_
    refine jx_zret d_M_is_15 rfl (by decide) ?_
    first | exact ⟨rfl, rfl⟩ | exact ⟨by simp [b_2], rfl⟩ | exact ⟨by simp_all, by simp_all⟩
  · skip
    refine jx_of (fun _ _ kz => jw_iload_n 0 d_M_is_5 rfl rfl kz) ?_
    refine jx_of (fun _ _ kz => jw_iload_n 2 d_M_is_6 rfl rfl kz) ?_
    refine jx_icmp_gt 14 d_M_is_7 (by decide) (fun b_7 => ?_) (fun b_7 => ?_)
    · skip
      refine jx_of (fun _ _ kz => jw_iconst 0 d_M_is_14 (by decide) kz) ?_
      refine jx_zret d_M_is_15 rfl (by decide) ?_
      first | exact ⟨rfl, rfl⟩ | exact ⟨by simp [b_2, b_7], rfl⟩ | exact ⟨by simp_all, by simp_all⟩
    · skip
      refine jx_of (fun _ _ kz => jw_iconst 1 d_M_is_10 (by decide) kz) ?_
      refine jx_of (fun _ _ kz => jw_goto 15 d_M_is_11 (by decide) kz) ?_
      refine jx_zret d_M_is_15 rfl (by decide) ?_
      first | exact ⟨rfl, rfl⟩ | exact ⟨by simp [b_2, b_7], rfl⟩ | exact ⟨by simp_all, by simp_all⟩
set_option maxRecDepth 20000 in
set_option maxHeartbeats 4000000 in
theorem x_M_clear {G : Gt} {M : Me} (d : Nat) (hm : mfr M) : sx G yt_M_clear yn_M_clear (d + 1) [.inr (some (7, 0))] M (fun r M' => r = some (.inl 0) ∧ (me_sI M 32 0 6 (0)) = M') := by
  refine sx_of (k := 1) (lc := [some (.inr (some (7, 0))), none]) mt_M_clear (Nat.le_of_ble_eq_true rfl) rfl ?_
  refine jx_of (fun _ _ kz => jw_aload_n 0 d_M_clear_0 rfl rfl kz) ?_
  refine jx_of (fun _ _ kz => jw_getPe (some (32, 0)) fl_M_16 d_M_clear_1 rfl rfl (by simp [me_I_sI, me_I_sP, me_I_nx, me_P_sI, me_P_sP, me_P_nx, me_N_sI, me_N_sP, me_N_nx, me_L_sI, me_L_sP, me_L_nx, show me_P M 7 0 2 = some (32, 0) from hm.1 (7, 0, 2, 32, 0) (by decide)]) kz) ?_
  refine jx_of (fun _ _ kz => jw_bipush 6 d_M_clear_4 (by decide) kz) ?_
  refine jx_of (fun _ _ kz => jw_ialde (0) d_M_clear_6 rfl rfl (by rw [show me_L _ 32 0 = 7 from (by simp [me_I_sI, me_I_sP, me_I_nx, me_P_sI, me_P_sP, me_P_nx, me_N_sI, me_N_sP, me_N_nx, me_L_sI, me_L_sP, me_L_nx, show me_L M 32 0 = 7 from hm.2.1 (32, 0, 7) (by decide)])]; unfold vp_in; decide) (by simp [me_I_sI, me_I_sP, me_I_nx, me_P_sI, me_P_sP, me_P_nx, me_N_sI, me_N_sP, me_N_nx, me_L_sI, me_L_sP, me_L_nx, show me_I M 32 0 6 = 0 from hm.2.2 (32, 0, 6, 0) (by decide)]) kz) ?_
  refine jx_of (fun _ _ kz => jw_istore_n 1 d_M_clear_7 rfl (Nat.le_of_ble_eq_true rfl) kz) ?_
  dsimp only [List.set]
  refine jx_of (fun _ _ kz => jw_aload_n 0 d_M_clear_8 rfl rfl kz) ?_
  refine jx_of (fun _ _ kz => jw_getPe (some (32, 0)) fl_M_16 d_M_clear_9 rfl rfl (by simp [me_I_sI, me_I_sP, me_I_nx, me_P_sI, me_P_sP, me_P_nx, me_N_sI, me_N_sP, me_N_nx, me_L_sI, me_L_sP, me_L_nx, show me_P M 7 0 2 = some (32, 0) from hm.1 (7, 0, 2, 32, 0) (by decide)]) kz) ?_
  refine jx_of (fun _ _ kz => jw_bipush 6 d_M_clear_12 (by decide) kz) ?_
  refine jx_of (fun _ _ kz => jw_iconst 0 d_M_clear_14 (by decide) kz) ?_
  refine jx_of (fun _ _ kz => jw_iast d_M_clear_15 rfl rfl (by rw [show me_L _ 32 0 = 7 from (by simp [me_I_sI, me_I_sP, me_I_nx, me_P_sI, me_P_sP, me_P_nx, me_N_sI, me_N_sP, me_N_nx, me_L_sI, me_L_sP, me_L_nx, show me_L M 32 0 = 7 from hm.2.1 (32, 0, 7) (by decide)])]; unfold vp_in; decide) kz) ?_
  rw [show Int32.toNatClampNeg 6 = 6 from by decide]
  refine jx_of (fun _ _ kz => jw_iload_n 1 d_M_clear_16 rfl rfl kz) ?_
  refine jx_iret d_M_clear_17 rfl ?_
  exact ⟨rfl, rfl⟩
set_option maxRecDepth 20000 in
set_option maxHeartbeats 4000000 in
theorem x_M_define {G : Gt} {M : Me} (d : Nat) (hm : mfr M) : sx G yt_M_define yn_M_define (d + 1) [.inr (some (7, 0))] M (fun r M' => r = some (.inl ((-1))) ∧ M = M') := by
  refine sx_of (k := 2) (lc := [some (.inr (some (7, 0))), none, none]) mt_M_define (Nat.le_of_ble_eq_true rfl) rfl ?_
  refine jx_of (fun _ _ kz => jw_iconst 1 d_M_define_0 (by decide) kz) ?_
  refine jx_of (fun _ _ kz => jw_istore_n 1 d_M_define_1 rfl (Nat.le_of_ble_eq_true rfl) kz) ?_
  dsimp only [List.set]
  refine jx_of (fun _ _ kz => jw_iconst 0 d_M_define_2 (by decide) kz) ?_
  refine jx_of (fun _ _ kz => jw_istore_n 2 d_M_define_3 rfl (Nat.le_of_ble_eq_true rfl) kz) ?_
  dsimp only [List.set]
  refine jx_of (fun _ _ kz => jw_iload_n 2 d_M_define_4 rfl rfl kz) ?_
  refine jx_of (fun _ _ kz => jw_aload_n 0 d_M_define_5 rfl rfl kz) ?_
  refine jx_of (fun _ _ kz => jw_getPe (some (32, 0)) fl_M_16 d_M_define_6 rfl rfl (by simp [me_I_sI, me_I_sP, me_I_nx, me_P_sI, me_P_sP, me_P_nx, me_N_sI, me_N_sP, me_N_nx, me_L_sI, me_L_sP, me_L_nx, show me_P M 7 0 2 = some (32, 0) from hm.1 (7, 0, 2, 32, 0) (by decide)]) kz) ?_
  refine jx_of (fun _ _ kz => jw_bipush 6 d_M_define_9 (by decide) kz) ?_
  refine jx_of (fun _ _ kz => jw_ialde (0) d_M_define_11 rfl rfl (by rw [show me_L _ 32 0 = 7 from (by simp [me_I_sI, me_I_sP, me_I_nx, me_P_sI, me_P_sP, me_P_nx, me_N_sI, me_N_sP, me_N_nx, me_L_sI, me_L_sP, me_L_nx, show me_L M 32 0 = 7 from hm.2.1 (32, 0, 7) (by decide)])]; unfold vp_in; decide) (by simp [me_I_sI, me_I_sP, me_I_nx, me_P_sI, me_P_sP, me_P_nx, me_N_sI, me_N_sP, me_N_nx, me_L_sI, me_L_sP, me_L_nx, show me_I M 32 0 6 = 0 from hm.2.2 (32, 0, 6, 0) (by decide)]) kz) ?_
  refine jx_icmp_ge 44 d_M_define_12 (by decide) (fun _ => ?_) (fun h => absurd h (by decide))
  refine jx_of (fun _ _ kz => jw_iload_n 1 d_M_define_44 rfl rfl kz) ?_
  refine jx_if_le 50 d_M_define_45 (by decide) (fun h => absurd h (by decide)) (fun _ => ?_)
  refine jx_of (fun _ _ kz => jw_iconst (-1) d_M_define_48 (by decide) kz) ?_
  refine jx_iret d_M_define_49 rfl ?_
  exact ⟨rfl, rfl⟩
set_option maxRecDepth 20000 in
set_option maxHeartbeats 4000000 in
theorem x_M_spawn {G : Gt} {M : Me} (d : Nat) (x : Int32) (hm : mfr M) : sx G yt_M_spawn yn_M_spawn (d + 2) [.inr (some (7, 0)), .inl x] M (fun r M' => r = some (.inl ((-1))) ∧ M = M') := by
  refine sx_of (k := 0) (lc := [some (.inr (some (7, 0))), some (.inl x)]) mt_M_spawn (Nat.le_of_ble_eq_true rfl) rfl ?_
  refine jx_of (fun _ _ kz => jw_iload_n 1 d_M_spawn_0 rfl rfl kz) ?_
  refine jx_of (fun _ _ kz => jw_iconst 0 d_M_spawn_1 (by decide) kz) ?_
  refine jx_of (fun _ _ kz => jw_aload_n 0 d_M_spawn_2 rfl rfl kz) ?_
  refine jx_of (fun _ _ kz => jw_getIe (0) fl_M_105 d_M_spawn_3 rfl rfl (by simp [me_I_sI, me_I_sP, me_I_nx, me_P_sI, me_P_sP, me_P_nx, me_N_sI, me_N_sP, me_N_nx, me_L_sI, me_L_sP, me_L_nx, show me_I M 7 0 3 = 0 from hm.2.2 (7, 0, 3, 0) (by decide)]) kz) ?_
  refine jx_of (fun _ _ kz => jw_iconst 1 d_M_spawn_6 (by decide) kz) ?_
  refine jx_of (fun _ _ kz => jw_isub d_M_spawn_7 kz) ?_
  rw [show (0 - 1 : Int32) = (-1) from by decide]
  refine jx_callS (x_M_is_f _ x 0 (((-1)))  (em1 x)) mt_M_is ml_M_93 sm_M_is d_M_spawn_8 rfl rfl (Nat.le_of_ble_eq_true rfl) ?_
  rintro _ _ ⟨rfl, rfl⟩
  refine jx_eq (st2 := [.inl 0]) rfl rfl rfl ?_
  refine jx_if_ne 16 d_M_spawn_11 (by decide) (fun h => absurd h (by decide)) (fun _ => ?_)
  refine jx_of (fun _ _ kz => jw_iconst (-1) d_M_spawn_14 (by decide) kz) ?_
  refine jx_iret d_M_spawn_15 rfl ?_
  exact ⟨rfl, rfl⟩
set_option maxRecDepth 20000 in
set_option maxHeartbeats 4000000 in
theorem x_M_task {G : Gt} {M : Me} (d : Nat) (x : Int32) (y : Int32) (hm : mfr M) : sx G yt_M_task yn_M_task (d + 2) [.inr (some (7, 0)), .inl x, .inl y] M (fun r M' => r = some (.inl ((-1))) ∧ M = M') := by
  refine sx_of (k := 0) (lc := [some (.inr (some (7, 0))), some (.inl x), some (.inl y)]) mt_M_task (Nat.le_of_ble_eq_true rfl) rfl ?_
  refine jx_of (fun _ _ kz => jw_iload_n 1 d_M_task_0 rfl rfl kz) ?_
  refine jx_of (fun _ _ kz => jw_iconst 0 d_M_task_1 (by decide) kz) ?_
  refine jx_of (fun _ _ kz => jw_aload_n 0 d_M_task_2 rfl rfl kz) ?_
  refine jx_of (fun _ _ kz => jw_getIe (0) fl_M_112 d_M_task_3 rfl rfl (by simp [me_I_sI, me_I_sP, me_I_nx, me_P_sI, me_P_sP, me_P_nx, me_N_sI, me_N_sP, me_N_nx, me_L_sI, me_L_sP, me_L_nx, show me_I M 7 0 27 = 0 from hm.2.2 (7, 0, 27, 0) (by decide)]) kz) ?_
  refine jx_of (fun _ _ kz => jw_iconst 1 d_M_task_6 (by decide) kz) ?_
  refine jx_of (fun _ _ kz => jw_isub d_M_task_7 kz) ?_
  rw [show (0 - 1 : Int32) = (-1) from by decide]
  refine jx_callS (x_M_is_f _ x 0 (((-1)))  (em1 x)) mt_M_is ml_M_93 sm_M_is d_M_task_8 rfl rfl (Nat.le_of_ble_eq_true rfl) ?_
  rintro _ _ ⟨rfl, rfl⟩
  refine jx_eq (st2 := [.inl 0]) rfl rfl rfl ?_
  refine jx_if_ne 16 d_M_task_11 (by decide) (fun h => absurd h (by decide)) (fun _ => ?_)
  refine jx_of (fun _ _ kz => jw_iconst (-1) d_M_task_14 (by decide) kz) ?_
  refine jx_iret d_M_task_15 rfl ?_
  exact ⟨rfl, rfl⟩
set_option maxRecDepth 20000 in
set_option maxHeartbeats 4000000 in
theorem x_M_abort {G : Gt} {M : Me} (d : Nat) (x : Int32) (hm : mfr M) : sx G yt_M_abort yn_M_abort (d + 2) [.inr (some (7, 0)), .inl x] M (fun r M' => r = some (.inl 0) ∧ M = M') := by
  refine sx_of (k := 0) (lc := [some (.inr (some (7, 0))), some (.inl x)]) mt_M_abort (Nat.le_of_ble_eq_true rfl) rfl ?_
  refine jx_of (fun _ _ kz => jw_iload_n 1 d_M_abort_0 rfl rfl kz) ?_
  refine jx_of (fun _ _ kz => jw_iconst 0 d_M_abort_1 (by decide) kz) ?_
  refine jx_of (fun _ _ kz => jw_aload_n 0 d_M_abort_2 rfl rfl kz) ?_
  refine jx_of (fun _ _ kz => jw_getIe (0) fl_M_112 d_M_abort_3 rfl rfl (by simp [me_I_sI, me_I_sP, me_I_nx, me_P_sI, me_P_sP, me_P_nx, me_N_sI, me_N_sP, me_N_nx, me_L_sI, me_L_sP, me_L_nx, show me_I M 7 0 27 = 0 from hm.2.2 (7, 0, 27, 0) (by decide)]) kz) ?_
  refine jx_of (fun _ _ kz => jw_iconst 1 d_M_abort_6 (by decide) kz) ?_
  refine jx_of (fun _ _ kz => jw_isub d_M_abort_7 kz) ?_
  rw [show (0 - 1 : Int32) = (-1) from by decide]
  refine jx_callS (x_M_is_f _ x 0 (((-1)))  (em1 x)) mt_M_is ml_M_93 sm_M_is d_M_abort_8 rfl rfl (Nat.le_of_ble_eq_true rfl) ?_
  rintro _ _ ⟨rfl, rfl⟩
  refine jx_eq (st2 := [.inl 0]) rfl rfl rfl ?_
  refine jx_if_eq 28 d_M_abort_11 (by decide) (fun _ => ?_) (fun h => absurd h (by decide))
  refine jx_of (fun _ _ kz => jw_iconst 0 d_M_abort_28 (by decide) kz) ?_
  refine jx_zret d_M_abort_29 rfl (by decide) ?_
  exact ⟨rfl, rfl⟩
set_option maxRecDepth 20000 in
set_option maxHeartbeats 4000000 in
theorem x_M_injected {G : Gt} {M : Me} (d : Nat) (x : Int32) (hm : mfr M) : sx G yt_M_injected yn_M_injected (d + 2) [.inr (some (7, 0)), .inl x] M (fun r M' => r = some (.inl ((-1))) ∧ M = M') := by
  refine sx_of (k := 0) (lc := [some (.inr (some (7, 0))), some (.inl x)]) mt_M_injected (Nat.le_of_ble_eq_true rfl) rfl ?_
  refine jx_of (fun _ _ kz => jw_iload_n 1 d_M_injected_0 rfl rfl kz) ?_
  refine jx_of (fun _ _ kz => jw_iconst 0 d_M_injected_1 (by decide) kz) ?_
  refine jx_of (fun _ _ kz => jw_aload_n 0 d_M_injected_2 rfl rfl kz) ?_
  refine jx_of (fun _ _ kz => jw_getIe (0) fl_M_119 d_M_injected_3 rfl rfl (by simp [me_I_sI, me_I_sP, me_I_nx, me_P_sI, me_P_sP, me_P_nx, me_N_sI, me_N_sP, me_N_nx, me_L_sI, me_L_sP, me_L_nx, show me_I M 7 0 28 = 0 from hm.2.2 (7, 0, 28, 0) (by decide)]) kz) ?_
  refine jx_of (fun _ _ kz => jw_iconst 1 d_M_injected_6 (by decide) kz) ?_
  refine jx_of (fun _ _ kz => jw_isub d_M_injected_7 kz) ?_
  rw [show (0 - 1 : Int32) = (-1) from by decide]
  refine jx_callS (x_M_is_f _ x 0 (((-1)))  (em1 x)) mt_M_is ml_M_93 sm_M_is d_M_injected_8 rfl rfl (Nat.le_of_ble_eq_true rfl) ?_
  rintro _ _ ⟨rfl, rfl⟩
  refine jx_eq (st2 := [.inl 0]) rfl rfl rfl ?_
  refine jx_if_eq 23 d_M_injected_11 (by decide) (fun _ => ?_) (fun h => absurd h (by decide))
  refine jx_of (fun _ _ kz => jw_iconst (-1) d_M_injected_23 (by decide) kz) ?_
  refine jx_iret d_M_injected_24 rfl ?_
  exact ⟨rfl, rfl⟩
set_option maxRecDepth 20000 in
set_option maxHeartbeats 4000000 in
theorem x_M_firstAt {G : Gt} {M : Me} (d : Nat) (x : Int32) (y : Int32) (f0 : me_I M 7 0 27 = 0) : sx G yt_M_firstAt yn_M_firstAt (d + 1) [.inr (some (7, 0)), .inl x, .inl y] M (fun r M' => r = some (.inl ((-1))) ∧ M = M') := by
  refine sx_of (k := 4) (lc := [some (.inr (some (7, 0))), some (.inl x), some (.inl y), none, none, none, none]) mt_M_firstAt (Nat.le_of_ble_eq_true rfl) rfl ?_
  refine jx_of (fun _ _ kz => jw_iconst (-1) d_M_firstAt_0 (by decide) kz) ?_
  refine jx_of (fun _ _ kz => jw_istore_n 3 d_M_firstAt_1 rfl (Nat.le_of_ble_eq_true rfl) kz) ?_
  dsimp only [List.set]
  refine jx_of (fun _ _ kz => jw_iconst 0 d_M_firstAt_2 (by decide) kz) ?_
  refine jx_of (fun _ _ kz => jw_istore d_M_firstAt_3 (Nat.le_of_ble_eq_true rfl) kz) ?_
  dsimp only [List.set]
  refine jx_of (fun _ _ kz => jw_iload d_M_firstAt_5 rfl kz) ?_
  refine jx_of (fun _ _ kz => jw_bipush 12 d_M_firstAt_7 (by decide) kz) ?_
  refine jx_of (fun _ _ kz => jw_aload_n 0 d_M_firstAt_9 rfl rfl kz) ?_
  refine jx_of (fun _ _ kz => jw_getIe (0) fl_M_112 d_M_firstAt_10 rfl rfl (by simp [me_I_sI, me_I_sP, me_I_nx, me_P_sI, me_P_sP, me_P_nx, me_N_sI, me_N_sP, me_N_nx, me_L_sI, me_L_sP, me_L_nx, f0]) kz) ?_
  refine jx_of (fun _ _ kz => jw_imul d_M_firstAt_13 kz) ?_
  rw [show (12 * 0 : Int32) = 0 from by decide]
  refine jx_icmp_ge 99 d_M_firstAt_14 (by decide) (fun _ => ?_) (fun h => absurd h (by decide))
  refine jx_of (fun _ _ kz => jw_iload_n 3 d_M_firstAt_99 rfl rfl kz) ?_
  refine jx_iret d_M_firstAt_100 rfl ?_
  exact ⟨rfl, rfl⟩
set_option maxRecDepth 20000 in
set_option maxHeartbeats 4000000 in
theorem x_M_waiting {G : Gt} {M : Me} (d : Nat) (x : Int32) (y : Int32) (f0 : me_I M 7 0 27 = 0) : sx G yt_M_waiting yn_M_waiting (d + 1) [.inr (some (7, 0)), .inl x, .inl y] M (fun r M' => r = some (.inl 0) ∧ M = M') := by
  refine sx_of (k := 2) (lc := [some (.inr (some (7, 0))), some (.inl x), some (.inl y), none, none]) mt_M_waiting (Nat.le_of_ble_eq_true rfl) rfl ?_
  refine jx_of (fun _ _ kz => jw_iconst 0 d_M_waiting_0 (by decide) kz) ?_
  refine jx_of (fun _ _ kz => jw_istore_n 3 d_M_waiting_1 rfl (Nat.le_of_ble_eq_true rfl) kz) ?_
  dsimp only [List.set]
  refine jx_of (fun _ _ kz => jw_iconst 0 d_M_waiting_2 (by decide) kz) ?_
  refine jx_of (fun _ _ kz => jw_istore d_M_waiting_3 (Nat.le_of_ble_eq_true rfl) kz) ?_
  dsimp only [List.set]
  refine jx_of (fun _ _ kz => jw_iload d_M_waiting_5 rfl kz) ?_
  refine jx_of (fun _ _ kz => jw_bipush 12 d_M_waiting_7 (by decide) kz) ?_
  refine jx_of (fun _ _ kz => jw_aload_n 0 d_M_waiting_9 rfl rfl kz) ?_
  refine jx_of (fun _ _ kz => jw_getIe (0) fl_M_112 d_M_waiting_10 rfl rfl (by simp [me_I_sI, me_I_sP, me_I_nx, me_P_sI, me_P_sP, me_P_nx, me_N_sI, me_N_sP, me_N_nx, me_L_sI, me_L_sP, me_L_nx, f0]) kz) ?_
  refine jx_of (fun _ _ kz => jw_imul d_M_waiting_13 kz) ?_
  rw [show (12 * 0 : Int32) = 0 from by decide]
  refine jx_icmp_ge 74 d_M_waiting_14 (by decide) (fun _ => ?_) (fun h => absurd h (by decide))
  refine jx_of (fun _ _ kz => jw_iload_n 3 d_M_waiting_74 rfl rfl kz) ?_
  refine jx_iret d_M_waiting_75 rfl ?_
  exact ⟨rfl, rfl⟩
set_option maxRecDepth 20000 in
set_option maxHeartbeats 4000000 in
theorem x_M_add_0 {G : Gt} {M : Me} (d : Nat) (y : Int32) (hm : mfr M) : sx G yt_M_add yn_M_add (d + 2) [.inr (some (7, 0)), .inl 0, .inl y] M (fun r M' => r = none ∧ (me_sI M 54 0 0 (1 + y)) = M') := by
  refine sx_of (k := 4) (lc := [some (.inr (some (7, 0))), some (.inl 0), some (.inl y), none, none, none, none]) mt_M_add (Nat.le_of_ble_eq_true rfl) rfl ?_
  refine jx_of (fun _ _ kz => jw_iload_n 2 d_M_add_0 rfl rfl kz) ?_
  refine jx_of (fun _ _ kz => jw_istore_n 3 d_M_add_1 rfl (Nat.le_of_ble_eq_true rfl) kz) ?_
  dsimp only [List.set]
  refine jx_of (fun _ _ kz => jw_aload_n 0 d_M_add_2 rfl rfl kz) ?_
  refine jx_of (fun _ _ kz => jw_iconst 3 d_M_add_3 (by decide) kz) ?_
  refine jx_of (fun _ _ kz => jw_iload_n 1 d_M_add_4 rfl rfl kz) ?_
  refine jx_callV (x_M_firstAt _ 3 0 (by simp [me_I_sI, me_I_sP, me_I_nx, me_P_sI, me_P_sP, me_P_nx, me_N_sI, me_N_sP, me_N_nx, me_L_sI, me_L_sP, me_L_nx, show me_I M 7 0 27 = 0 from hm.2.2 (7, 0, 27, 0) (by decide)])) mt_M_firstAt cf_M rfl rfl ml_M_135 im_M_firstAt se_M_firstAt d_M_add_5 rfl rfl (Nat.le_of_ble_eq_true rfl) ?_
  rintro _ _ ⟨rfl, rfl⟩
  refine jx_eq (st2 := [.inl ((-1))]) rfl rfl rfl ?_
  refine jx_of (fun _ _ kz => jw_istore d_M_add_8 (Nat.le_of_ble_eq_true rfl) kz) ?_
  dsimp only [List.set]
  refine jx_of (fun _ _ kz => jw_iload_n 3 d_M_add_10 rfl rfl kz) ?_
  refine jx_if_le 128 d_M_add_11 (by decide) (fun b_11 => ?_) (fun b_11 => ?_)
  · skip
    refine jx_of (fun _ _ kz => jw_aload_n 0 d_M_add_128 rfl rfl kz) ?_
    refine jx_of (fun _ _ kz => jw_getPe (some (54, 0)) fl_M_83 d_M_add_129 rfl rfl (by simp [me_I_sI, me_I_sP, me_I_nx, me_P_sI, me_P_sP, me_P_nx, me_N_sI, me_N_sP, me_N_nx, me_L_sI, me_L_sP, me_L_nx, show me_P M 7 0 25 = some (54, 0) from hm.1 (7, 0, 25, 54, 0) (by decide)]) kz) ?_
    refine jx_of (fun _ _ kz => jw_iload_n 1 d_M_add_132 rfl rfl kz) ?_
    refine jx_of (fun _ _ kz => jw_dup2 d_M_add_133 kz) ?_
    refine jx_of (fun _ _ kz => jw_ialde (1) d_M_add_134 rfl rfl (by rw [show me_L _ 54 0 = 2 from (by simp [me_I_sI, me_I_sP, me_I_nx, me_P_sI, me_P_sP, me_P_nx, me_N_sI, me_N_sP, me_N_nx, me_L_sI, me_L_sP, me_L_nx, show me_L M 54 0 = 2 from hm.2.1 (54, 0, 2) (by decide)])]; unfold vp_in; decide) (by simp [me_I_sI, me_I_sP, me_I_nx, me_P_sI, me_P_sP, me_P_nx, me_N_sI, me_N_sP, me_N_nx, me_L_sI, me_L_sP, me_L_nx, show me_I M 54 0 0 = 1 from hm.2.2 (54, 0, 0, 1) (by decide)]) kz) ?_
    refine jx_of (fun _ _ kz => jw_iload_n 3 d_M_add_135 rfl rfl kz) ?_
    refine jx_of (fun _ _ kz => jw_iadd d_M_add_136 kz) ?_
    refine jx_of (fun _ _ kz => jw_iast d_M_add_137 rfl rfl (by rw [show me_L _ 54 0 = 2 from (by simp [me_I_sI, me_I_sP, me_I_nx, me_P_sI, me_P_sP, me_P_nx, me_N_sI, me_N_sP, me_N_nx, me_L_sI, me_L_sP, me_L_nx, show me_L M 54 0 = 2 from hm.2.1 (54, 0, 2) (by decide)])]; unfold vp_in; decide) kz) ?_
    rw [show Int32.toNatClampNeg 0 = 0 from by decide]
    refine jx_vret d_M_add_138 rfl ?_
    first | exact ⟨rfl, rfl⟩ | exact ⟨by simp [b_11], rfl⟩ | exact ⟨by simp_all, by simp_all⟩
  · skip
    refine jx_of (fun _ _ kz => jw_iload d_M_add_14 rfl kz) ?_
    refine jx_if_lt 128 d_M_add_16 (by decide) (fun _ => ?_) (fun h => absurd h (by decide))
    refine jx_of (fun _ _ kz => jw_aload_n 0 d_M_add_128 rfl rfl kz) ?_
    refine jx_of (fun _ _ kz => jw_getPe (some (54, 0)) fl_M_83 d_M_add_129 rfl rfl (by simp [me_I_sI, me_I_sP, me_I_nx, me_P_sI, me_P_sP, me_P_nx, me_N_sI, me_N_sP, me_N_nx, me_L_sI, me_L_sP, me_L_nx, show me_P M 7 0 25 = some (54, 0) from hm.1 (7, 0, 25, 54, 0) (by decide)]) kz) ?_
    refine jx_of (fun _ _ kz => jw_iload_n 1 d_M_add_132 rfl rfl kz) ?_
    refine jx_of (fun _ _ kz => jw_dup2 d_M_add_133 kz) ?_
    refine jx_of (fun _ _ kz => jw_ialde (1) d_M_add_134 rfl rfl (by rw [show me_L _ 54 0 = 2 from (by simp [me_I_sI, me_I_sP, me_I_nx, me_P_sI, me_P_sP, me_P_nx, me_N_sI, me_N_sP, me_N_nx, me_L_sI, me_L_sP, me_L_nx, show me_L M 54 0 = 2 from hm.2.1 (54, 0, 2) (by decide)])]; unfold vp_in; decide) (by simp [me_I_sI, me_I_sP, me_I_nx, me_P_sI, me_P_sP, me_P_nx, me_N_sI, me_N_sP, me_N_nx, me_L_sI, me_L_sP, me_L_nx, show me_I M 54 0 0 = 1 from hm.2.2 (54, 0, 0, 1) (by decide)]) kz) ?_
    refine jx_of (fun _ _ kz => jw_iload_n 3 d_M_add_135 rfl rfl kz) ?_
    refine jx_of (fun _ _ kz => jw_iadd d_M_add_136 kz) ?_
    refine jx_of (fun _ _ kz => jw_iast d_M_add_137 rfl rfl (by rw [show me_L _ 54 0 = 2 from (by simp [me_I_sI, me_I_sP, me_I_nx, me_P_sI, me_P_sP, me_P_nx, me_N_sI, me_N_sP, me_N_nx, me_L_sI, me_L_sP, me_L_nx, show me_L M 54 0 = 2 from hm.2.1 (54, 0, 2) (by decide)])]; unfold vp_in; decide) kz) ?_
    rw [show Int32.toNatClampNeg 0 = 0 from by decide]
    refine jx_vret d_M_add_138 rfl ?_
    first | exact ⟨rfl, rfl⟩ | exact ⟨by simp [b_11], rfl⟩ | exact ⟨by simp_all, by simp_all⟩
set_option maxRecDepth 20000 in
set_option maxHeartbeats 4000000 in
theorem x_M_put_0 {G : Gt} {M : Me} (d : Nat) (y : Int32) (hm : mfr M) (h1 : ¬ y < 1) (h2 : ¬ 9 < y) : sx G yt_M_put yn_M_put (d + 3) [.inr (some (7, 0)), .inl 0, .inl y] M (fun r M' => r = some (.inl (1 + y)) ∧ nC M M') := by
  refine sx_of (k := 0) (lc := [some (.inr (some (7, 0))), some (.inl 0), some (.inl y)]) mt_M_put (Nat.le_of_ble_eq_true rfl) rfl ?_
  refine jx_of (fun _ _ kz => jw_iload_n 1 d_M_put_0 rfl rfl kz) ?_
  refine jx_of (fun _ _ kz => jw_iconst 0 d_M_put_1 (by decide) kz) ?_
  refine jx_of (fun _ _ kz => jw_iconst 1 d_M_put_2 (by decide) kz) ?_
  refine jx_callS (x_M_is_t (d + 1) 0 0 1  (by decide) (by decide)) mt_M_is ml_M_93 sm_M_is d_M_put_3 rfl rfl (Nat.le_of_ble_eq_true rfl) ?_
  rintro _ _ ⟨rfl, rfl⟩
  refine jx_eq (st2 := [.inl 1]) rfl rfl rfl ?_
  refine jx_if_eq 19 d_M_put_6 (by decide) (fun h => absurd h (by decide)) (fun _ => ?_)
  refine jx_of (fun _ _ kz => jw_iload_n 2 d_M_put_9 rfl rfl kz) ?_
  refine jx_of (fun _ _ kz => jw_iconst 1 d_M_put_10 (by decide) kz) ?_
  refine jx_of (fun _ _ kz => jw_bipush 9 d_M_put_11 (by decide) kz) ?_
  refine jx_callS (x_M_is_t (d + 1) y 1 9  h1 h2) mt_M_is ml_M_93 sm_M_is d_M_put_13 rfl rfl (Nat.le_of_ble_eq_true rfl) ?_
  rintro _ _ ⟨rfl, rfl⟩
  refine jx_eq (st2 := [.inl 1]) rfl rfl rfl ?_
  refine jx_if_ne 21 d_M_put_16 (by decide) (fun _ => ?_) (fun h => absurd h (by decide))
  refine jx_of (fun _ _ kz => jw_aload_n 0 d_M_put_21 rfl rfl kz) ?_
  refine jx_of (fun _ _ kz => jw_iload_n 1 d_M_put_22 rfl rfl kz) ?_
  refine jx_of (fun _ _ kz => jw_iload_n 2 d_M_put_23 rfl rfl kz) ?_
  refine jx_callV (x_M_add_0 _ y hm) mt_M_add cf_M rfl rfl ml_M_144 im_M_add se_M_add d_M_put_24 rfl rfl (Nat.le_of_ble_eq_true rfl) ?_
  rintro _ _ ⟨rfl, rfl⟩
  refine jx_eq (st2 := []) rfl rfl rfl ?_
  refine jx_of (fun _ _ kz => jw_aload_n 0 d_M_put_27 rfl rfl kz) ?_
  refine jx_of (fun _ _ kz => jw_getPe (some (54, 0)) fl_M_83 d_M_put_28 rfl rfl (by simp [me_I_sI, me_I_sP, me_I_nx, me_P_sI, me_P_sP, me_P_nx, me_N_sI, me_N_sP, me_N_nx, me_L_sI, me_L_sP, me_L_nx, show me_P M 7 0 25 = some (54, 0) from hm.1 (7, 0, 25, 54, 0) (by decide)]) kz) ?_
  refine jx_of (fun _ _ kz => jw_iload_n 1 d_M_put_31 rfl rfl kz) ?_
  refine jx_of (fun _ _ kz => jw_ialde (1 + y) d_M_put_32 rfl rfl (by rw [show me_L _ 54 0 = 2 from (by simp [me_I_sI, me_I_sP, me_I_nx, me_P_sI, me_P_sP, me_P_nx, me_N_sI, me_N_sP, me_N_nx, me_L_sI, me_L_sP, me_L_nx, show me_L M 54 0 = 2 from hm.2.1 (54, 0, 2) (by decide)])]; unfold vp_in; decide) (by simp [me_I_sI, me_I_sP, me_I_nx, me_P_sI, me_P_sP, me_P_nx, me_N_sI, me_N_sP, me_N_nx, me_L_sI, me_L_sP, me_L_nx]) kz) ?_
  refine jx_iret d_M_put_33 rfl ?_
  exact ⟨rfl, rfl, rfl⟩
set_option maxRecDepth 20000 in
set_option maxHeartbeats 4000000 in
theorem x_M_put_0_x {G : Gt} {M : Me} (d : Nat) (y : Int32) (hm : mfr M) (h1 : y < 1 ∨ 9 < y) : sx G yt_M_put yn_M_put (d + 3) [.inr (some (7, 0)), .inl 0, .inl y] M (fun r M' => r = some (.inl (-1)) ∧ nC M M') := by
  refine sx_of (k := 0) (lc := [some (.inr (some (7, 0))), some (.inl 0), some (.inl y)]) mt_M_put (Nat.le_of_ble_eq_true rfl) rfl ?_
  refine jx_of (fun _ _ kz => jw_iload_n 1 d_M_put_0 rfl rfl kz) ?_
  refine jx_of (fun _ _ kz => jw_iconst 0 d_M_put_1 (by decide) kz) ?_
  refine jx_of (fun _ _ kz => jw_iconst 1 d_M_put_2 (by decide) kz) ?_
  refine jx_callS (x_M_is_t (d + 1) 0 0 1  (by decide) (by decide)) mt_M_is ml_M_93 sm_M_is d_M_put_3 rfl rfl (Nat.le_of_ble_eq_true rfl) ?_
  rintro _ _ ⟨rfl, rfl⟩
  refine jx_eq (st2 := [.inl 1]) rfl rfl rfl ?_
  refine jx_if_eq 19 d_M_put_6 (by decide) (fun h => absurd h (by decide)) (fun _ => ?_)
  refine jx_of (fun _ _ kz => jw_iload_n 2 d_M_put_9 rfl rfl kz) ?_
  refine jx_of (fun _ _ kz => jw_iconst 1 d_M_put_10 (by decide) kz) ?_
  refine jx_of (fun _ _ kz => jw_bipush 9 d_M_put_11 (by decide) kz) ?_
  refine jx_callS (x_M_is_f (d + 1) y 1 9  h1) mt_M_is ml_M_93 sm_M_is d_M_put_13 rfl rfl (Nat.le_of_ble_eq_true rfl) ?_
  rintro _ _ ⟨rfl, rfl⟩
  refine jx_eq (st2 := [.inl 0]) rfl rfl rfl ?_
  refine jx_if_ne 21 d_M_put_16 (by decide) (fun h => absurd h (by decide)) (fun _ => ?_)
  refine jx_of (fun _ _ kz => jw_iconst (-1) d_M_put_19 (by decide) kz) ?_
  refine jx_iret d_M_put_20 rfl ?_
  exact ⟨rfl, rfl, rfl⟩
set_option maxRecDepth 20000 in
set_option maxHeartbeats 4000000 in
theorem x_M_give_0 {G : Gt} {M : Me} (d : Nat) (hm : mfr M) : sx G yt_M_give yn_M_give (d + 2) [.inr (some (7, 0)), .inl 0] M (fun r M' => r = some (.inl 0) ∧ (me_sI M 55 0 0 (1)) = M') := by
  refine sx_of (k := 1) (lc := [some (.inr (some (7, 0))), some (.inl 0), none]) mt_M_give (Nat.le_of_ble_eq_true rfl) rfl ?_
  refine jx_of (fun _ _ kz => jw_aload_n 0 d_M_give_0 rfl rfl kz) ?_
  refine jx_of (fun _ _ kz => jw_iconst 5 d_M_give_1 (by decide) kz) ?_
  refine jx_of (fun _ _ kz => jw_iload_n 1 d_M_give_2 rfl rfl kz) ?_
  refine jx_callV (x_M_firstAt _ 5 0 (by simp [me_I_sI, me_I_sP, me_I_nx, me_P_sI, me_P_sP, me_P_nx, me_N_sI, me_N_sP, me_N_nx, me_L_sI, me_L_sP, me_L_nx, show me_I M 7 0 27 = 0 from hm.2.2 (7, 0, 27, 0) (by decide)])) mt_M_firstAt cf_M rfl rfl ml_M_135 im_M_firstAt se_M_firstAt d_M_give_3 rfl rfl (Nat.le_of_ble_eq_true rfl) ?_
  rintro _ _ ⟨rfl, rfl⟩
  refine jx_eq (st2 := [.inl ((-1))]) rfl rfl rfl ?_
  refine jx_of (fun _ _ kz => jw_istore_n 2 d_M_give_6 rfl (Nat.le_of_ble_eq_true rfl) kz) ?_
  dsimp only [List.set]
  refine jx_of (fun _ _ kz => jw_iload_n 2 d_M_give_7 rfl rfl kz) ?_
  refine jx_if_ge 21 d_M_give_8 (by decide) (fun h => absurd h (by decide)) (fun _ => ?_)
  refine jx_of (fun _ _ kz => jw_aload_n 0 d_M_give_11 rfl rfl kz) ?_
  refine jx_of (fun _ _ kz => jw_getPe (some (55, 0)) fl_M_86 d_M_give_12 rfl rfl (by simp [me_I_sI, me_I_sP, me_I_nx, me_P_sI, me_P_sP, me_P_nx, me_N_sI, me_N_sP, me_N_nx, me_L_sI, me_L_sP, me_L_nx, show me_P M 7 0 26 = some (55, 0) from hm.1 (7, 0, 26, 55, 0) (by decide)]) kz) ?_
  refine jx_of (fun _ _ kz => jw_iload_n 1 d_M_give_15 rfl rfl kz) ?_
  refine jx_of (fun _ _ kz => jw_iconst 1 d_M_give_16 (by decide) kz) ?_
  refine jx_of (fun _ _ kz => jw_zast d_M_give_17 rfl rfl (by rw [show me_L _ 55 0 = 2 from (by simp [me_I_sI, me_I_sP, me_I_nx, me_P_sI, me_P_sP, me_P_nx, me_N_sI, me_N_sP, me_N_nx, me_L_sI, me_L_sP, me_L_nx, show me_L M 55 0 = 2 from hm.2.1 (55, 0, 2) (by decide)])]; unfold vp_in; decide) (by decide) kz) ?_
  rw [show Int32.toNatClampNeg 0 = 0 from by decide]
  refine jx_of (fun _ _ kz => jw_goto 43 d_M_give_18 (by decide) kz) ?_
  refine jx_of (fun _ _ kz => jw_iload_n 2 d_M_give_43 rfl rfl kz) ?_
  refine jx_if_lt 51 d_M_give_44 (by decide) (fun _ => ?_) (fun h => absurd h (by decide))
  refine jx_of (fun _ _ kz => jw_iconst 0 d_M_give_51 (by decide) kz) ?_
  refine jx_zret d_M_give_52 rfl (by decide) ?_
  exact ⟨rfl, rfl⟩
set_option maxRecDepth 20000 in
set_option maxHeartbeats 4000000 in
theorem x_M_wake_0 {G : Gt} {M : Me} (d : Nat) (hm : mfr M) : sx G yt_M_wake yn_M_wake (d + 3) [.inr (some (7, 0)), .inl 0] M (fun r M' => r = some (.inl 0) ∧ nC M M') := by
  refine sx_of (k := 1) (lc := [some (.inr (some (7, 0))), some (.inl 0), none]) mt_M_wake (Nat.le_of_ble_eq_true rfl) rfl ?_
  refine jx_of (fun _ _ kz => jw_iload_n 1 d_M_wake_0 rfl rfl kz) ?_
  refine jx_of (fun _ _ kz => jw_iconst 0 d_M_wake_1 (by decide) kz) ?_
  refine jx_of (fun _ _ kz => jw_iconst 1 d_M_wake_2 (by decide) kz) ?_
  refine jx_callS (x_M_is_t (d + 1) 0 0 1  (by decide) (by decide)) mt_M_is ml_M_93 sm_M_is d_M_wake_3 rfl rfl (Nat.le_of_ble_eq_true rfl) ?_
  rintro _ _ ⟨rfl, rfl⟩
  refine jx_eq (st2 := [.inl 1]) rfl rfl rfl ?_
  refine jx_if_ne 11 d_M_wake_6 (by decide) (fun _ => ?_) (fun h => absurd h (by decide))
  refine jx_of (fun _ _ kz => jw_aload_n 0 d_M_wake_11 rfl rfl kz) ?_
  refine jx_of (fun _ _ kz => jw_iload_n 1 d_M_wake_12 rfl rfl kz) ?_
  refine jx_callV (x_M_give_0 _  hm) mt_M_give cf_M rfl rfl ml_M_147 im_M_give se_M_give d_M_wake_13 rfl rfl (Nat.le_of_ble_eq_true rfl) ?_
  rintro _ _ ⟨rfl, rfl⟩
  refine jx_eq (st2 := [.inl 0]) rfl rfl rfl ?_
  refine jx_of (fun _ _ kz => jw_istore_n 2 d_M_wake_16 rfl (Nat.le_of_ble_eq_true rfl) kz) ?_
  dsimp only [List.set]
  refine jx_of (fun _ _ kz => jw_iload_n 2 d_M_wake_17 rfl rfl kz) ?_
  refine jx_if_eq 25 d_M_wake_18 (by decide) (fun _ => ?_) (fun h => absurd h (by decide))
  refine jx_of (fun _ _ kz => jw_iconst 0 d_M_wake_25 (by decide) kz) ?_
  refine jx_iret d_M_wake_26 rfl ?_
  exact ⟨rfl, rfl, rfl⟩
set_option maxRecDepth 20000 in
set_option maxHeartbeats 4000000 in
theorem x_M_gate_0 {G : Gt} {M : Me} (d : Nat) (y : Int32) (hm : mfr M) (h1 : ¬ y < 0) (h2 : ¬ 4 < y) : sx G yt_M_gate yn_M_gate (d + 2) [.inr (some (7, 0)), .inl 0, .inl y] M (fun r M' => r = some (.inl (if y = 0 then 1 else 0)) ∧ nC M M') := by
  refine sx_of (k := 1) (lc := [some (.inr (some (7, 0))), some (.inl 0), some (.inl y), none]) mt_M_gate (Nat.le_of_ble_eq_true rfl) rfl ?_
  refine jx_of (fun _ _ kz => jw_iload_n 1 d_M_gate_0 rfl rfl kz) ?_
  refine jx_of (fun _ _ kz => jw_iconst 0 d_M_gate_1 (by decide) kz) ?_
  refine jx_of (fun _ _ kz => jw_iconst 1 d_M_gate_2 (by decide) kz) ?_
  refine jx_callS (x_M_is_t _ 0 0 1  (by decide) (by decide)) mt_M_is ml_M_93 sm_M_is d_M_gate_3 rfl rfl (Nat.le_of_ble_eq_true rfl) ?_
  rintro _ _ ⟨rfl, rfl⟩
  refine jx_eq (st2 := [.inl 1]) rfl rfl rfl ?_
  refine jx_if_eq 18 d_M_gate_6 (by decide) (fun h => absurd h (by decide)) (fun _ => ?_)
  refine jx_of (fun _ _ kz => jw_iload_n 2 d_M_gate_9 rfl rfl kz) ?_
  refine jx_of (fun _ _ kz => jw_iconst 0 d_M_gate_10 (by decide) kz) ?_
  refine jx_of (fun _ _ kz => jw_iconst 4 d_M_gate_11 (by decide) kz) ?_
  refine jx_callS (x_M_is_t _ y 0 4  h1 h2) mt_M_is ml_M_93 sm_M_is d_M_gate_12 rfl rfl (Nat.le_of_ble_eq_true rfl) ?_
  rintro _ _ ⟨rfl, rfl⟩
  refine jx_eq (st2 := [.inl 1]) rfl rfl rfl ?_
  refine jx_if_ne 20 d_M_gate_15 (by decide) (fun _ => ?_) (fun h => absurd h (by decide))
  refine jx_of (fun _ _ kz => jw_aload_n 0 d_M_gate_20 rfl rfl kz) ?_
  refine jx_of (fun _ _ kz => jw_iconst 3 d_M_gate_21 (by decide) kz) ?_
  refine jx_of (fun _ _ kz => jw_iload_n 1 d_M_gate_22 rfl rfl kz) ?_
  refine jx_callV (x_M_firstAt _ 3 0 (by simp [me_I_sI, me_I_sP, me_I_nx, me_P_sI, me_P_sP, me_P_nx, me_N_sI, me_N_sP, me_N_nx, me_L_sI, me_L_sP, me_L_nx, show me_I M 7 0 27 = 0 from hm.2.2 (7, 0, 27, 0) (by decide)])) mt_M_firstAt cf_M rfl rfl ml_M_135 im_M_firstAt se_M_firstAt d_M_gate_23 rfl rfl (Nat.le_of_ble_eq_true rfl) ?_
  rintro _ _ ⟨rfl, rfl⟩
  refine jx_eq (st2 := [.inl ((-1))]) rfl rfl rfl ?_
  refine jx_of (fun _ _ kz => jw_istore_n 3 d_M_gate_26 rfl (Nat.le_of_ble_eq_true rfl) kz) ?_
  dsimp only [List.set]
  refine jx_of (fun _ _ kz => jw_iload_n 2 d_M_gate_27 rfl rfl kz) ?_
  rcases sw_cases (y) 4 (by decide) with t_28 | t_28
  · skip
    refine jx_of (fun _ _ kz => jw_tabOut 104 d_M_gate_28 (by simpa using t_28) (by decide) kz) ?_
    refine jx_of (fun _ _ kz => jw_aload_n 0 d_M_gate_104 rfl rfl kz) ?_
    refine jx_of (fun _ _ kz => jw_iconst 5 d_M_gate_105 (by decide) kz) ?_
    refine jx_of (fun _ _ kz => jw_iload_n 1 d_M_gate_106 rfl rfl kz) ?_
    refine jx_callV (x_M_waiting _ 5 0 (by simp [me_I_sI, me_I_sP, me_I_nx, me_P_sI, me_P_sP, me_P_nx, me_N_sI, me_N_sP, me_N_nx, me_L_sI, me_L_sP, me_L_nx, show me_I M 7 0 27 = 0 from hm.2.2 (7, 0, 27, 0) (by decide)])) mt_M_waiting cf_M rfl rfl ml_M_229 im_M_waiting se_M_waiting d_M_gate_107 rfl rfl (Nat.le_of_ble_eq_true rfl) ?_
    rintro _ _ ⟨rfl, rfl⟩
    refine jx_eq (st2 := [.inl 0]) rfl rfl rfl ?_
    refine jx_iret d_M_gate_110 rfl ?_
    refine ⟨?_, rfl, rfl⟩; first | (subst_vars; rfl) | (rw [if_neg (sw_ne t_28)])
  · skip
    obtain ⟨j_28, t_28, e_28⟩ := t_28
    rcases (show j_28 = 0 ∨ j_28 = 1 ∨ j_28 = 2 ∨ j_28 = 3 by omega) with rfl | rfl | rfl | rfl
    · skip
      refine jx_of (fun _ _ kz => jw_tabIn 60 d_M_gate_28 (by rw [e_28]; decide) (by rw [e_28]; decide) (by rw [e_28]; rfl) (by decide) kz) ?_
      refine jx_of (fun _ _ kz => jw_aload_n 0 d_M_gate_60 rfl rfl kz) ?_
      refine jx_of (fun _ _ kz => jw_getPe (some (54, 0)) fl_M_83 d_M_gate_61 rfl rfl (by simp [me_I_sI, me_I_sP, me_I_nx, me_P_sI, me_P_sP, me_P_nx, me_N_sI, me_N_sP, me_N_nx, me_L_sI, me_L_sP, me_L_nx, show me_P M 7 0 25 = some (54, 0) from hm.1 (7, 0, 25, 54, 0) (by decide)]) kz) ?_
      refine jx_of (fun _ _ kz => jw_iload_n 1 d_M_gate_64 rfl rfl kz) ?_
      refine jx_of (fun _ _ kz => jw_ialde (1) d_M_gate_65 rfl rfl (by rw [show me_L _ 54 0 = 2 from (by simp [me_I_sI, me_I_sP, me_I_nx, me_P_sI, me_P_sP, me_P_nx, me_N_sI, me_N_sP, me_N_nx, me_L_sI, me_L_sP, me_L_nx, show me_L M 54 0 = 2 from hm.2.1 (54, 0, 2) (by decide)])]; unfold vp_in; decide) (by simp [me_I_sI, me_I_sP, me_I_nx, me_P_sI, me_P_sP, me_P_nx, me_N_sI, me_N_sP, me_N_nx, me_L_sI, me_L_sP, me_L_nx, show me_I M 54 0 0 = 1 from hm.2.2 (54, 0, 0, 1) (by decide)]) kz) ?_
      refine jx_iret d_M_gate_66 rfl ?_
      refine ⟨?_, rfl, rfl⟩; first | (subst_vars; rfl) | (rw [if_neg (sw_ne t_28)])
    · skip
      refine jx_of (fun _ _ kz => jw_tabIn 67 d_M_gate_28 (by rw [e_28]; decide) (by rw [e_28]; decide) (by rw [e_28]; rfl) (by decide) kz) ?_
      refine jx_of (fun _ _ kz => jw_aload_n 0 d_M_gate_67 rfl rfl kz) ?_
      refine jx_of (fun _ _ kz => jw_iconst 3 d_M_gate_68 (by decide) kz) ?_
      refine jx_of (fun _ _ kz => jw_iload_n 1 d_M_gate_69 rfl rfl kz) ?_
      refine jx_callV (x_M_waiting _ 3 0 (by simp [me_I_sI, me_I_sP, me_I_nx, me_P_sI, me_P_sP, me_P_nx, me_N_sI, me_N_sP, me_N_nx, me_L_sI, me_L_sP, me_L_nx, show me_I M 7 0 27 = 0 from hm.2.2 (7, 0, 27, 0) (by decide)])) mt_M_waiting cf_M rfl rfl ml_M_229 im_M_waiting se_M_waiting d_M_gate_70 rfl rfl (Nat.le_of_ble_eq_true rfl) ?_
      rintro _ _ ⟨rfl, rfl⟩
      refine jx_eq (st2 := [.inl 0]) rfl rfl rfl ?_
      refine jx_iret d_M_gate_73 rfl ?_
      refine ⟨?_, rfl, rfl⟩; first | (subst_vars; rfl) | (rw [if_neg (sw_ne t_28)])
    · skip
      refine jx_of (fun _ _ kz => jw_tabIn 74 d_M_gate_28 (by rw [e_28]; decide) (by rw [e_28]; decide) (by rw [e_28]; rfl) (by decide) kz) ?_
      refine jx_of (fun _ _ kz => jw_iload_n 3 d_M_gate_74 rfl rfl kz) ?_
      refine jx_if_ge 82 d_M_gate_75 (by decide) (fun h => absurd h (by decide)) (fun _ => ?_)
      refine jx_of (fun _ _ kz => jw_iconst 0 d_M_gate_78 (by decide) kz) ?_
      refine jx_of (fun _ _ kz => jw_goto 88 d_M_gate_79 (by decide) kz) ?_
      refine jx_iret d_M_gate_88 rfl ?_
      refine ⟨?_, rfl, rfl⟩; first | (subst_vars; rfl) | (rw [if_neg (sw_ne t_28)])
    · skip
      refine jx_of (fun _ _ kz => jw_tabIn 89 d_M_gate_28 (by rw [e_28]; decide) (by rw [e_28]; decide) (by rw [e_28]; rfl) (by decide) kz) ?_
      refine jx_of (fun _ _ kz => jw_aload_n 0 d_M_gate_89 rfl rfl kz) ?_
      refine jx_of (fun _ _ kz => jw_getPe (some (55, 0)) fl_M_86 d_M_gate_90 rfl rfl (by simp [me_I_sI, me_I_sP, me_I_nx, me_P_sI, me_P_sP, me_P_nx, me_N_sI, me_N_sP, me_N_nx, me_L_sI, me_L_sP, me_L_nx, show me_P M 7 0 26 = some (55, 0) from hm.1 (7, 0, 26, 55, 0) (by decide)]) kz) ?_
      refine jx_of (fun _ _ kz => jw_iload_n 1 d_M_gate_93 rfl rfl kz) ?_
      refine jx_of (fun _ _ kz => jw_zalde (0) d_M_gate_94 rfl rfl (by rw [show me_L _ 55 0 = 2 from (by simp [me_I_sI, me_I_sP, me_I_nx, me_P_sI, me_P_sP, me_P_nx, me_N_sI, me_N_sP, me_N_nx, me_L_sI, me_L_sP, me_L_nx, show me_L M 55 0 = 2 from hm.2.1 (55, 0, 2) (by decide)])]; unfold vp_in; decide) (by simp [me_I_sI, me_I_sP, me_I_nx, me_P_sI, me_P_sP, me_P_nx, me_N_sI, me_N_sP, me_N_nx, me_L_sI, me_L_sP, me_L_nx, show me_I M 55 0 0 = 0 from hm.2.2 (55, 0, 0, 0) (by decide)]) kz) ?_
      refine jx_if_eq 102 d_M_gate_95 (by decide) (fun _ => ?_) (fun h => absurd h (by decide))
      refine jx_of (fun _ _ kz => jw_iconst 0 d_M_gate_102 (by decide) kz) ?_
      refine jx_iret d_M_gate_103 rfl ?_
      refine ⟨?_, rfl, rfl⟩; first | (subst_vars; rfl) | (rw [if_neg (sw_ne t_28)])
set_option maxRecDepth 20000 in
set_option maxHeartbeats 4000000 in
theorem x_M_gate_0_x {G : Gt} {M : Me} (d : Nat) (y : Int32) (hm : mfr M) (h1 : y < 0 ∨ 4 < y) : sx G yt_M_gate yn_M_gate (d + 2) [.inr (some (7, 0)), .inl 0, .inl y] M (fun r M' => r = some (.inl (-1)) ∧ nC M M') := by
  refine sx_of (k := 1) (lc := [some (.inr (some (7, 0))), some (.inl 0), some (.inl y), none]) mt_M_gate (Nat.le_of_ble_eq_true rfl) rfl ?_
  refine jx_of (fun _ _ kz => jw_iload_n 1 d_M_gate_0 rfl rfl kz) ?_
  refine jx_of (fun _ _ kz => jw_iconst 0 d_M_gate_1 (by decide) kz) ?_
  refine jx_of (fun _ _ kz => jw_iconst 1 d_M_gate_2 (by decide) kz) ?_
  refine jx_callS (x_M_is_t _ 0 0 1  (by decide) (by decide)) mt_M_is ml_M_93 sm_M_is d_M_gate_3 rfl rfl (Nat.le_of_ble_eq_true rfl) ?_
  rintro _ _ ⟨rfl, rfl⟩
  refine jx_eq (st2 := [.inl 1]) rfl rfl rfl ?_
  refine jx_if_eq 18 d_M_gate_6 (by decide) (fun h => absurd h (by decide)) (fun _ => ?_)
  refine jx_of (fun _ _ kz => jw_iload_n 2 d_M_gate_9 rfl rfl kz) ?_
  refine jx_of (fun _ _ kz => jw_iconst 0 d_M_gate_10 (by decide) kz) ?_
  refine jx_of (fun _ _ kz => jw_iconst 4 d_M_gate_11 (by decide) kz) ?_
  refine jx_callS (x_M_is_f _ y 0 4  h1) mt_M_is ml_M_93 sm_M_is d_M_gate_12 rfl rfl (Nat.le_of_ble_eq_true rfl) ?_
  rintro _ _ ⟨rfl, rfl⟩
  refine jx_eq (st2 := [.inl 0]) rfl rfl rfl ?_
  refine jx_if_ne 20 d_M_gate_15 (by decide) (fun h => absurd h (by decide)) (fun _ => ?_)
  refine jx_of (fun _ _ kz => jw_iconst (-1) d_M_gate_18 (by decide) kz) ?_
  refine jx_iret d_M_gate_19 rfl ?_
  exact ⟨rfl, rfl, rfl⟩
set_option maxRecDepth 20000 in
set_option maxHeartbeats 4000000 in
theorem x_M_add_1 {G : Gt} {M : Me} (d : Nat) (y : Int32) (hm : mfr M) : sx G yt_M_add yn_M_add (d + 2) [.inr (some (7, 0)), .inl 1, .inl y] M (fun r M' => r = none ∧ (me_sI M 54 0 1 (1 + y)) = M') := by
  refine sx_of (k := 4) (lc := [some (.inr (some (7, 0))), some (.inl 1), some (.inl y), none, none, none, none]) mt_M_add (Nat.le_of_ble_eq_true rfl) rfl ?_
  refine jx_of (fun _ _ kz => jw_iload_n 2 d_M_add_0 rfl rfl kz) ?_
  refine jx_of (fun _ _ kz => jw_istore_n 3 d_M_add_1 rfl (Nat.le_of_ble_eq_true rfl) kz) ?_
  dsimp only [List.set]
  refine jx_of (fun _ _ kz => jw_aload_n 0 d_M_add_2 rfl rfl kz) ?_
  refine jx_of (fun _ _ kz => jw_iconst 3 d_M_add_3 (by decide) kz) ?_
  refine jx_of (fun _ _ kz => jw_iload_n 1 d_M_add_4 rfl rfl kz) ?_
  refine jx_callV (x_M_firstAt _ 3 1 (by simp [me_I_sI, me_I_sP, me_I_nx, me_P_sI, me_P_sP, me_P_nx, me_N_sI, me_N_sP, me_N_nx, me_L_sI, me_L_sP, me_L_nx, show me_I M 7 0 27 = 0 from hm.2.2 (7, 0, 27, 0) (by decide)])) mt_M_firstAt cf_M rfl rfl ml_M_135 im_M_firstAt se_M_firstAt d_M_add_5 rfl rfl (Nat.le_of_ble_eq_true rfl) ?_
  rintro _ _ ⟨rfl, rfl⟩
  refine jx_eq (st2 := [.inl ((-1))]) rfl rfl rfl ?_
  refine jx_of (fun _ _ kz => jw_istore d_M_add_8 (Nat.le_of_ble_eq_true rfl) kz) ?_
  dsimp only [List.set]
  refine jx_of (fun _ _ kz => jw_iload_n 3 d_M_add_10 rfl rfl kz) ?_
  refine jx_if_le 128 d_M_add_11 (by decide) (fun b_11 => ?_) (fun b_11 => ?_)
  · skip
    refine jx_of (fun _ _ kz => jw_aload_n 0 d_M_add_128 rfl rfl kz) ?_
    refine jx_of (fun _ _ kz => jw_getPe (some (54, 0)) fl_M_83 d_M_add_129 rfl rfl (by simp [me_I_sI, me_I_sP, me_I_nx, me_P_sI, me_P_sP, me_P_nx, me_N_sI, me_N_sP, me_N_nx, me_L_sI, me_L_sP, me_L_nx, show me_P M 7 0 25 = some (54, 0) from hm.1 (7, 0, 25, 54, 0) (by decide)]) kz) ?_
    refine jx_of (fun _ _ kz => jw_iload_n 1 d_M_add_132 rfl rfl kz) ?_
    refine jx_of (fun _ _ kz => jw_dup2 d_M_add_133 kz) ?_
    refine jx_of (fun _ _ kz => jw_ialde (1) d_M_add_134 rfl rfl (by rw [show me_L _ 54 0 = 2 from (by simp [me_I_sI, me_I_sP, me_I_nx, me_P_sI, me_P_sP, me_P_nx, me_N_sI, me_N_sP, me_N_nx, me_L_sI, me_L_sP, me_L_nx, show me_L M 54 0 = 2 from hm.2.1 (54, 0, 2) (by decide)])]; unfold vp_in; decide) (by simp [me_I_sI, me_I_sP, me_I_nx, me_P_sI, me_P_sP, me_P_nx, me_N_sI, me_N_sP, me_N_nx, me_L_sI, me_L_sP, me_L_nx, show me_I M 54 0 1 = 1 from hm.2.2 (54, 0, 1, 1) (by decide)]) kz) ?_
    refine jx_of (fun _ _ kz => jw_iload_n 3 d_M_add_135 rfl rfl kz) ?_
    refine jx_of (fun _ _ kz => jw_iadd d_M_add_136 kz) ?_
    refine jx_of (fun _ _ kz => jw_iast d_M_add_137 rfl rfl (by rw [show me_L _ 54 0 = 2 from (by simp [me_I_sI, me_I_sP, me_I_nx, me_P_sI, me_P_sP, me_P_nx, me_N_sI, me_N_sP, me_N_nx, me_L_sI, me_L_sP, me_L_nx, show me_L M 54 0 = 2 from hm.2.1 (54, 0, 2) (by decide)])]; unfold vp_in; decide) kz) ?_
    rw [show Int32.toNatClampNeg 1 = 1 from by decide]
    refine jx_vret d_M_add_138 rfl ?_
    first | exact ⟨rfl, rfl⟩ | exact ⟨by simp [b_11], rfl⟩ | exact ⟨by simp_all, by simp_all⟩
  · skip
    refine jx_of (fun _ _ kz => jw_iload d_M_add_14 rfl kz) ?_
    refine jx_if_lt 128 d_M_add_16 (by decide) (fun _ => ?_) (fun h => absurd h (by decide))
    refine jx_of (fun _ _ kz => jw_aload_n 0 d_M_add_128 rfl rfl kz) ?_
    refine jx_of (fun _ _ kz => jw_getPe (some (54, 0)) fl_M_83 d_M_add_129 rfl rfl (by simp [me_I_sI, me_I_sP, me_I_nx, me_P_sI, me_P_sP, me_P_nx, me_N_sI, me_N_sP, me_N_nx, me_L_sI, me_L_sP, me_L_nx, show me_P M 7 0 25 = some (54, 0) from hm.1 (7, 0, 25, 54, 0) (by decide)]) kz) ?_
    refine jx_of (fun _ _ kz => jw_iload_n 1 d_M_add_132 rfl rfl kz) ?_
    refine jx_of (fun _ _ kz => jw_dup2 d_M_add_133 kz) ?_
    refine jx_of (fun _ _ kz => jw_ialde (1) d_M_add_134 rfl rfl (by rw [show me_L _ 54 0 = 2 from (by simp [me_I_sI, me_I_sP, me_I_nx, me_P_sI, me_P_sP, me_P_nx, me_N_sI, me_N_sP, me_N_nx, me_L_sI, me_L_sP, me_L_nx, show me_L M 54 0 = 2 from hm.2.1 (54, 0, 2) (by decide)])]; unfold vp_in; decide) (by simp [me_I_sI, me_I_sP, me_I_nx, me_P_sI, me_P_sP, me_P_nx, me_N_sI, me_N_sP, me_N_nx, me_L_sI, me_L_sP, me_L_nx, show me_I M 54 0 1 = 1 from hm.2.2 (54, 0, 1, 1) (by decide)]) kz) ?_
    refine jx_of (fun _ _ kz => jw_iload_n 3 d_M_add_135 rfl rfl kz) ?_
    refine jx_of (fun _ _ kz => jw_iadd d_M_add_136 kz) ?_
    refine jx_of (fun _ _ kz => jw_iast d_M_add_137 rfl rfl (by rw [show me_L _ 54 0 = 2 from (by simp [me_I_sI, me_I_sP, me_I_nx, me_P_sI, me_P_sP, me_P_nx, me_N_sI, me_N_sP, me_N_nx, me_L_sI, me_L_sP, me_L_nx, show me_L M 54 0 = 2 from hm.2.1 (54, 0, 2) (by decide)])]; unfold vp_in; decide) kz) ?_
    rw [show Int32.toNatClampNeg 1 = 1 from by decide]
    refine jx_vret d_M_add_138 rfl ?_
    first | exact ⟨rfl, rfl⟩ | exact ⟨by simp [b_11], rfl⟩ | exact ⟨by simp_all, by simp_all⟩
set_option maxRecDepth 20000 in
set_option maxHeartbeats 4000000 in
theorem x_M_put_1 {G : Gt} {M : Me} (d : Nat) (y : Int32) (hm : mfr M) (h1 : ¬ y < 1) (h2 : ¬ 9 < y) : sx G yt_M_put yn_M_put (d + 3) [.inr (some (7, 0)), .inl 1, .inl y] M (fun r M' => r = some (.inl (1 + y)) ∧ nC M M') := by
  refine sx_of (k := 0) (lc := [some (.inr (some (7, 0))), some (.inl 1), some (.inl y)]) mt_M_put (Nat.le_of_ble_eq_true rfl) rfl ?_
  refine jx_of (fun _ _ kz => jw_iload_n 1 d_M_put_0 rfl rfl kz) ?_
  refine jx_of (fun _ _ kz => jw_iconst 0 d_M_put_1 (by decide) kz) ?_
  refine jx_of (fun _ _ kz => jw_iconst 1 d_M_put_2 (by decide) kz) ?_
  refine jx_callS (x_M_is_t (d + 1) 1 0 1  (by decide) (by decide)) mt_M_is ml_M_93 sm_M_is d_M_put_3 rfl rfl (Nat.le_of_ble_eq_true rfl) ?_
  rintro _ _ ⟨rfl, rfl⟩
  refine jx_eq (st2 := [.inl 1]) rfl rfl rfl ?_
  refine jx_if_eq 19 d_M_put_6 (by decide) (fun h => absurd h (by decide)) (fun _ => ?_)
  refine jx_of (fun _ _ kz => jw_iload_n 2 d_M_put_9 rfl rfl kz) ?_
  refine jx_of (fun _ _ kz => jw_iconst 1 d_M_put_10 (by decide) kz) ?_
  refine jx_of (fun _ _ kz => jw_bipush 9 d_M_put_11 (by decide) kz) ?_
  refine jx_callS (x_M_is_t (d + 1) y 1 9  h1 h2) mt_M_is ml_M_93 sm_M_is d_M_put_13 rfl rfl (Nat.le_of_ble_eq_true rfl) ?_
  rintro _ _ ⟨rfl, rfl⟩
  refine jx_eq (st2 := [.inl 1]) rfl rfl rfl ?_
  refine jx_if_ne 21 d_M_put_16 (by decide) (fun _ => ?_) (fun h => absurd h (by decide))
  refine jx_of (fun _ _ kz => jw_aload_n 0 d_M_put_21 rfl rfl kz) ?_
  refine jx_of (fun _ _ kz => jw_iload_n 1 d_M_put_22 rfl rfl kz) ?_
  refine jx_of (fun _ _ kz => jw_iload_n 2 d_M_put_23 rfl rfl kz) ?_
  refine jx_callV (x_M_add_1 _ y hm) mt_M_add cf_M rfl rfl ml_M_144 im_M_add se_M_add d_M_put_24 rfl rfl (Nat.le_of_ble_eq_true rfl) ?_
  rintro _ _ ⟨rfl, rfl⟩
  refine jx_eq (st2 := []) rfl rfl rfl ?_
  refine jx_of (fun _ _ kz => jw_aload_n 0 d_M_put_27 rfl rfl kz) ?_
  refine jx_of (fun _ _ kz => jw_getPe (some (54, 0)) fl_M_83 d_M_put_28 rfl rfl (by simp [me_I_sI, me_I_sP, me_I_nx, me_P_sI, me_P_sP, me_P_nx, me_N_sI, me_N_sP, me_N_nx, me_L_sI, me_L_sP, me_L_nx, show me_P M 7 0 25 = some (54, 0) from hm.1 (7, 0, 25, 54, 0) (by decide)]) kz) ?_
  refine jx_of (fun _ _ kz => jw_iload_n 1 d_M_put_31 rfl rfl kz) ?_
  refine jx_of (fun _ _ kz => jw_ialde (1 + y) d_M_put_32 rfl rfl (by rw [show me_L _ 54 0 = 2 from (by simp [me_I_sI, me_I_sP, me_I_nx, me_P_sI, me_P_sP, me_P_nx, me_N_sI, me_N_sP, me_N_nx, me_L_sI, me_L_sP, me_L_nx, show me_L M 54 0 = 2 from hm.2.1 (54, 0, 2) (by decide)])]; unfold vp_in; decide) (by simp [me_I_sI, me_I_sP, me_I_nx, me_P_sI, me_P_sP, me_P_nx, me_N_sI, me_N_sP, me_N_nx, me_L_sI, me_L_sP, me_L_nx]) kz) ?_
  refine jx_iret d_M_put_33 rfl ?_
  exact ⟨rfl, rfl, rfl⟩
set_option maxRecDepth 20000 in
set_option maxHeartbeats 4000000 in
theorem x_M_put_1_x {G : Gt} {M : Me} (d : Nat) (y : Int32) (hm : mfr M) (h1 : y < 1 ∨ 9 < y) : sx G yt_M_put yn_M_put (d + 3) [.inr (some (7, 0)), .inl 1, .inl y] M (fun r M' => r = some (.inl (-1)) ∧ nC M M') := by
  refine sx_of (k := 0) (lc := [some (.inr (some (7, 0))), some (.inl 1), some (.inl y)]) mt_M_put (Nat.le_of_ble_eq_true rfl) rfl ?_
  refine jx_of (fun _ _ kz => jw_iload_n 1 d_M_put_0 rfl rfl kz) ?_
  refine jx_of (fun _ _ kz => jw_iconst 0 d_M_put_1 (by decide) kz) ?_
  refine jx_of (fun _ _ kz => jw_iconst 1 d_M_put_2 (by decide) kz) ?_
  refine jx_callS (x_M_is_t (d + 1) 1 0 1  (by decide) (by decide)) mt_M_is ml_M_93 sm_M_is d_M_put_3 rfl rfl (Nat.le_of_ble_eq_true rfl) ?_
  rintro _ _ ⟨rfl, rfl⟩
  refine jx_eq (st2 := [.inl 1]) rfl rfl rfl ?_
  refine jx_if_eq 19 d_M_put_6 (by decide) (fun h => absurd h (by decide)) (fun _ => ?_)
  refine jx_of (fun _ _ kz => jw_iload_n 2 d_M_put_9 rfl rfl kz) ?_
  refine jx_of (fun _ _ kz => jw_iconst 1 d_M_put_10 (by decide) kz) ?_
  refine jx_of (fun _ _ kz => jw_bipush 9 d_M_put_11 (by decide) kz) ?_
  refine jx_callS (x_M_is_f (d + 1) y 1 9  h1) mt_M_is ml_M_93 sm_M_is d_M_put_13 rfl rfl (Nat.le_of_ble_eq_true rfl) ?_
  rintro _ _ ⟨rfl, rfl⟩
  refine jx_eq (st2 := [.inl 0]) rfl rfl rfl ?_
  refine jx_if_ne 21 d_M_put_16 (by decide) (fun h => absurd h (by decide)) (fun _ => ?_)
  refine jx_of (fun _ _ kz => jw_iconst (-1) d_M_put_19 (by decide) kz) ?_
  refine jx_iret d_M_put_20 rfl ?_
  exact ⟨rfl, rfl, rfl⟩
set_option maxRecDepth 20000 in
set_option maxHeartbeats 4000000 in
theorem x_M_give_1 {G : Gt} {M : Me} (d : Nat) (hm : mfr M) : sx G yt_M_give yn_M_give (d + 2) [.inr (some (7, 0)), .inl 1] M (fun r M' => r = some (.inl 0) ∧ (me_sI M 55 0 1 (1)) = M') := by
  refine sx_of (k := 1) (lc := [some (.inr (some (7, 0))), some (.inl 1), none]) mt_M_give (Nat.le_of_ble_eq_true rfl) rfl ?_
  refine jx_of (fun _ _ kz => jw_aload_n 0 d_M_give_0 rfl rfl kz) ?_
  refine jx_of (fun _ _ kz => jw_iconst 5 d_M_give_1 (by decide) kz) ?_
  refine jx_of (fun _ _ kz => jw_iload_n 1 d_M_give_2 rfl rfl kz) ?_
  refine jx_callV (x_M_firstAt _ 5 1 (by simp [me_I_sI, me_I_sP, me_I_nx, me_P_sI, me_P_sP, me_P_nx, me_N_sI, me_N_sP, me_N_nx, me_L_sI, me_L_sP, me_L_nx, show me_I M 7 0 27 = 0 from hm.2.2 (7, 0, 27, 0) (by decide)])) mt_M_firstAt cf_M rfl rfl ml_M_135 im_M_firstAt se_M_firstAt d_M_give_3 rfl rfl (Nat.le_of_ble_eq_true rfl) ?_
  rintro _ _ ⟨rfl, rfl⟩
  refine jx_eq (st2 := [.inl ((-1))]) rfl rfl rfl ?_
  refine jx_of (fun _ _ kz => jw_istore_n 2 d_M_give_6 rfl (Nat.le_of_ble_eq_true rfl) kz) ?_
  dsimp only [List.set]
  refine jx_of (fun _ _ kz => jw_iload_n 2 d_M_give_7 rfl rfl kz) ?_
  refine jx_if_ge 21 d_M_give_8 (by decide) (fun h => absurd h (by decide)) (fun _ => ?_)
  refine jx_of (fun _ _ kz => jw_aload_n 0 d_M_give_11 rfl rfl kz) ?_
  refine jx_of (fun _ _ kz => jw_getPe (some (55, 0)) fl_M_86 d_M_give_12 rfl rfl (by simp [me_I_sI, me_I_sP, me_I_nx, me_P_sI, me_P_sP, me_P_nx, me_N_sI, me_N_sP, me_N_nx, me_L_sI, me_L_sP, me_L_nx, show me_P M 7 0 26 = some (55, 0) from hm.1 (7, 0, 26, 55, 0) (by decide)]) kz) ?_
  refine jx_of (fun _ _ kz => jw_iload_n 1 d_M_give_15 rfl rfl kz) ?_
  refine jx_of (fun _ _ kz => jw_iconst 1 d_M_give_16 (by decide) kz) ?_
  refine jx_of (fun _ _ kz => jw_zast d_M_give_17 rfl rfl (by rw [show me_L _ 55 0 = 2 from (by simp [me_I_sI, me_I_sP, me_I_nx, me_P_sI, me_P_sP, me_P_nx, me_N_sI, me_N_sP, me_N_nx, me_L_sI, me_L_sP, me_L_nx, show me_L M 55 0 = 2 from hm.2.1 (55, 0, 2) (by decide)])]; unfold vp_in; decide) (by decide) kz) ?_
  rw [show Int32.toNatClampNeg 1 = 1 from by decide]
  refine jx_of (fun _ _ kz => jw_goto 43 d_M_give_18 (by decide) kz) ?_
  refine jx_of (fun _ _ kz => jw_iload_n 2 d_M_give_43 rfl rfl kz) ?_
  refine jx_if_lt 51 d_M_give_44 (by decide) (fun _ => ?_) (fun h => absurd h (by decide))
  refine jx_of (fun _ _ kz => jw_iconst 0 d_M_give_51 (by decide) kz) ?_
  refine jx_zret d_M_give_52 rfl (by decide) ?_
  exact ⟨rfl, rfl⟩
set_option maxRecDepth 20000 in
set_option maxHeartbeats 4000000 in
theorem x_M_wake_1 {G : Gt} {M : Me} (d : Nat) (hm : mfr M) : sx G yt_M_wake yn_M_wake (d + 3) [.inr (some (7, 0)), .inl 1] M (fun r M' => r = some (.inl 0) ∧ nC M M') := by
  refine sx_of (k := 1) (lc := [some (.inr (some (7, 0))), some (.inl 1), none]) mt_M_wake (Nat.le_of_ble_eq_true rfl) rfl ?_
  refine jx_of (fun _ _ kz => jw_iload_n 1 d_M_wake_0 rfl rfl kz) ?_
  refine jx_of (fun _ _ kz => jw_iconst 0 d_M_wake_1 (by decide) kz) ?_
  refine jx_of (fun _ _ kz => jw_iconst 1 d_M_wake_2 (by decide) kz) ?_
  refine jx_callS (x_M_is_t (d + 1) 1 0 1  (by decide) (by decide)) mt_M_is ml_M_93 sm_M_is d_M_wake_3 rfl rfl (Nat.le_of_ble_eq_true rfl) ?_
  rintro _ _ ⟨rfl, rfl⟩
  refine jx_eq (st2 := [.inl 1]) rfl rfl rfl ?_
  refine jx_if_ne 11 d_M_wake_6 (by decide) (fun _ => ?_) (fun h => absurd h (by decide))
  refine jx_of (fun _ _ kz => jw_aload_n 0 d_M_wake_11 rfl rfl kz) ?_
  refine jx_of (fun _ _ kz => jw_iload_n 1 d_M_wake_12 rfl rfl kz) ?_
  refine jx_callV (x_M_give_1 _  hm) mt_M_give cf_M rfl rfl ml_M_147 im_M_give se_M_give d_M_wake_13 rfl rfl (Nat.le_of_ble_eq_true rfl) ?_
  rintro _ _ ⟨rfl, rfl⟩
  refine jx_eq (st2 := [.inl 0]) rfl rfl rfl ?_
  refine jx_of (fun _ _ kz => jw_istore_n 2 d_M_wake_16 rfl (Nat.le_of_ble_eq_true rfl) kz) ?_
  dsimp only [List.set]
  refine jx_of (fun _ _ kz => jw_iload_n 2 d_M_wake_17 rfl rfl kz) ?_
  refine jx_if_eq 25 d_M_wake_18 (by decide) (fun _ => ?_) (fun h => absurd h (by decide))
  refine jx_of (fun _ _ kz => jw_iconst 0 d_M_wake_25 (by decide) kz) ?_
  refine jx_iret d_M_wake_26 rfl ?_
  exact ⟨rfl, rfl, rfl⟩
set_option maxRecDepth 20000 in
set_option maxHeartbeats 4000000 in
theorem x_M_gate_1 {G : Gt} {M : Me} (d : Nat) (y : Int32) (hm : mfr M) (h1 : ¬ y < 0) (h2 : ¬ 4 < y) : sx G yt_M_gate yn_M_gate (d + 2) [.inr (some (7, 0)), .inl 1, .inl y] M (fun r M' => r = some (.inl (if y = 0 then 1 else 0)) ∧ nC M M') := by
  refine sx_of (k := 1) (lc := [some (.inr (some (7, 0))), some (.inl 1), some (.inl y), none]) mt_M_gate (Nat.le_of_ble_eq_true rfl) rfl ?_
  refine jx_of (fun _ _ kz => jw_iload_n 1 d_M_gate_0 rfl rfl kz) ?_
  refine jx_of (fun _ _ kz => jw_iconst 0 d_M_gate_1 (by decide) kz) ?_
  refine jx_of (fun _ _ kz => jw_iconst 1 d_M_gate_2 (by decide) kz) ?_
  refine jx_callS (x_M_is_t _ 1 0 1  (by decide) (by decide)) mt_M_is ml_M_93 sm_M_is d_M_gate_3 rfl rfl (Nat.le_of_ble_eq_true rfl) ?_
  rintro _ _ ⟨rfl, rfl⟩
  refine jx_eq (st2 := [.inl 1]) rfl rfl rfl ?_
  refine jx_if_eq 18 d_M_gate_6 (by decide) (fun h => absurd h (by decide)) (fun _ => ?_)
  refine jx_of (fun _ _ kz => jw_iload_n 2 d_M_gate_9 rfl rfl kz) ?_
  refine jx_of (fun _ _ kz => jw_iconst 0 d_M_gate_10 (by decide) kz) ?_
  refine jx_of (fun _ _ kz => jw_iconst 4 d_M_gate_11 (by decide) kz) ?_
  refine jx_callS (x_M_is_t _ y 0 4  h1 h2) mt_M_is ml_M_93 sm_M_is d_M_gate_12 rfl rfl (Nat.le_of_ble_eq_true rfl) ?_
  rintro _ _ ⟨rfl, rfl⟩
  refine jx_eq (st2 := [.inl 1]) rfl rfl rfl ?_
  refine jx_if_ne 20 d_M_gate_15 (by decide) (fun _ => ?_) (fun h => absurd h (by decide))
  refine jx_of (fun _ _ kz => jw_aload_n 0 d_M_gate_20 rfl rfl kz) ?_
  refine jx_of (fun _ _ kz => jw_iconst 3 d_M_gate_21 (by decide) kz) ?_
  refine jx_of (fun _ _ kz => jw_iload_n 1 d_M_gate_22 rfl rfl kz) ?_
  refine jx_callV (x_M_firstAt _ 3 1 (by simp [me_I_sI, me_I_sP, me_I_nx, me_P_sI, me_P_sP, me_P_nx, me_N_sI, me_N_sP, me_N_nx, me_L_sI, me_L_sP, me_L_nx, show me_I M 7 0 27 = 0 from hm.2.2 (7, 0, 27, 0) (by decide)])) mt_M_firstAt cf_M rfl rfl ml_M_135 im_M_firstAt se_M_firstAt d_M_gate_23 rfl rfl (Nat.le_of_ble_eq_true rfl) ?_
  rintro _ _ ⟨rfl, rfl⟩
  refine jx_eq (st2 := [.inl ((-1))]) rfl rfl rfl ?_
  refine jx_of (fun _ _ kz => jw_istore_n 3 d_M_gate_26 rfl (Nat.le_of_ble_eq_true rfl) kz) ?_
  dsimp only [List.set]
  refine jx_of (fun _ _ kz => jw_iload_n 2 d_M_gate_27 rfl rfl kz) ?_
  rcases sw_cases (y) 4 (by decide) with t_28 | t_28
  · skip
    refine jx_of (fun _ _ kz => jw_tabOut 104 d_M_gate_28 (by simpa using t_28) (by decide) kz) ?_
    refine jx_of (fun _ _ kz => jw_aload_n 0 d_M_gate_104 rfl rfl kz) ?_
    refine jx_of (fun _ _ kz => jw_iconst 5 d_M_gate_105 (by decide) kz) ?_
    refine jx_of (fun _ _ kz => jw_iload_n 1 d_M_gate_106 rfl rfl kz) ?_
    refine jx_callV (x_M_waiting _ 5 1 (by simp [me_I_sI, me_I_sP, me_I_nx, me_P_sI, me_P_sP, me_P_nx, me_N_sI, me_N_sP, me_N_nx, me_L_sI, me_L_sP, me_L_nx, show me_I M 7 0 27 = 0 from hm.2.2 (7, 0, 27, 0) (by decide)])) mt_M_waiting cf_M rfl rfl ml_M_229 im_M_waiting se_M_waiting d_M_gate_107 rfl rfl (Nat.le_of_ble_eq_true rfl) ?_
    rintro _ _ ⟨rfl, rfl⟩
    refine jx_eq (st2 := [.inl 0]) rfl rfl rfl ?_
    refine jx_iret d_M_gate_110 rfl ?_
    refine ⟨?_, rfl, rfl⟩; first | (subst_vars; rfl) | (rw [if_neg (sw_ne t_28)])
  · skip
    obtain ⟨j_28, t_28, e_28⟩ := t_28
    rcases (show j_28 = 0 ∨ j_28 = 1 ∨ j_28 = 2 ∨ j_28 = 3 by omega) with rfl | rfl | rfl | rfl
    · skip
      refine jx_of (fun _ _ kz => jw_tabIn 60 d_M_gate_28 (by rw [e_28]; decide) (by rw [e_28]; decide) (by rw [e_28]; rfl) (by decide) kz) ?_
      refine jx_of (fun _ _ kz => jw_aload_n 0 d_M_gate_60 rfl rfl kz) ?_
      refine jx_of (fun _ _ kz => jw_getPe (some (54, 0)) fl_M_83 d_M_gate_61 rfl rfl (by simp [me_I_sI, me_I_sP, me_I_nx, me_P_sI, me_P_sP, me_P_nx, me_N_sI, me_N_sP, me_N_nx, me_L_sI, me_L_sP, me_L_nx, show me_P M 7 0 25 = some (54, 0) from hm.1 (7, 0, 25, 54, 0) (by decide)]) kz) ?_
      refine jx_of (fun _ _ kz => jw_iload_n 1 d_M_gate_64 rfl rfl kz) ?_
      refine jx_of (fun _ _ kz => jw_ialde (1) d_M_gate_65 rfl rfl (by rw [show me_L _ 54 0 = 2 from (by simp [me_I_sI, me_I_sP, me_I_nx, me_P_sI, me_P_sP, me_P_nx, me_N_sI, me_N_sP, me_N_nx, me_L_sI, me_L_sP, me_L_nx, show me_L M 54 0 = 2 from hm.2.1 (54, 0, 2) (by decide)])]; unfold vp_in; decide) (by simp [me_I_sI, me_I_sP, me_I_nx, me_P_sI, me_P_sP, me_P_nx, me_N_sI, me_N_sP, me_N_nx, me_L_sI, me_L_sP, me_L_nx, show me_I M 54 0 1 = 1 from hm.2.2 (54, 0, 1, 1) (by decide)]) kz) ?_
      refine jx_iret d_M_gate_66 rfl ?_
      refine ⟨?_, rfl, rfl⟩; first | (subst_vars; rfl) | (rw [if_neg (sw_ne t_28)])
    · skip
      refine jx_of (fun _ _ kz => jw_tabIn 67 d_M_gate_28 (by rw [e_28]; decide) (by rw [e_28]; decide) (by rw [e_28]; rfl) (by decide) kz) ?_
      refine jx_of (fun _ _ kz => jw_aload_n 0 d_M_gate_67 rfl rfl kz) ?_
      refine jx_of (fun _ _ kz => jw_iconst 3 d_M_gate_68 (by decide) kz) ?_
      refine jx_of (fun _ _ kz => jw_iload_n 1 d_M_gate_69 rfl rfl kz) ?_
      refine jx_callV (x_M_waiting _ 3 1 (by simp [me_I_sI, me_I_sP, me_I_nx, me_P_sI, me_P_sP, me_P_nx, me_N_sI, me_N_sP, me_N_nx, me_L_sI, me_L_sP, me_L_nx, show me_I M 7 0 27 = 0 from hm.2.2 (7, 0, 27, 0) (by decide)])) mt_M_waiting cf_M rfl rfl ml_M_229 im_M_waiting se_M_waiting d_M_gate_70 rfl rfl (Nat.le_of_ble_eq_true rfl) ?_
      rintro _ _ ⟨rfl, rfl⟩
      refine jx_eq (st2 := [.inl 0]) rfl rfl rfl ?_
      refine jx_iret d_M_gate_73 rfl ?_
      refine ⟨?_, rfl, rfl⟩; first | (subst_vars; rfl) | (rw [if_neg (sw_ne t_28)])
    · skip
      refine jx_of (fun _ _ kz => jw_tabIn 74 d_M_gate_28 (by rw [e_28]; decide) (by rw [e_28]; decide) (by rw [e_28]; rfl) (by decide) kz) ?_
      refine jx_of (fun _ _ kz => jw_iload_n 3 d_M_gate_74 rfl rfl kz) ?_
      refine jx_if_ge 82 d_M_gate_75 (by decide) (fun h => absurd h (by decide)) (fun _ => ?_)
      refine jx_of (fun _ _ kz => jw_iconst 0 d_M_gate_78 (by decide) kz) ?_
      refine jx_of (fun _ _ kz => jw_goto 88 d_M_gate_79 (by decide) kz) ?_
      refine jx_iret d_M_gate_88 rfl ?_
      refine ⟨?_, rfl, rfl⟩; first | (subst_vars; rfl) | (rw [if_neg (sw_ne t_28)])
    · skip
      refine jx_of (fun _ _ kz => jw_tabIn 89 d_M_gate_28 (by rw [e_28]; decide) (by rw [e_28]; decide) (by rw [e_28]; rfl) (by decide) kz) ?_
      refine jx_of (fun _ _ kz => jw_aload_n 0 d_M_gate_89 rfl rfl kz) ?_
      refine jx_of (fun _ _ kz => jw_getPe (some (55, 0)) fl_M_86 d_M_gate_90 rfl rfl (by simp [me_I_sI, me_I_sP, me_I_nx, me_P_sI, me_P_sP, me_P_nx, me_N_sI, me_N_sP, me_N_nx, me_L_sI, me_L_sP, me_L_nx, show me_P M 7 0 26 = some (55, 0) from hm.1 (7, 0, 26, 55, 0) (by decide)]) kz) ?_
      refine jx_of (fun _ _ kz => jw_iload_n 1 d_M_gate_93 rfl rfl kz) ?_
      refine jx_of (fun _ _ kz => jw_zalde (0) d_M_gate_94 rfl rfl (by rw [show me_L _ 55 0 = 2 from (by simp [me_I_sI, me_I_sP, me_I_nx, me_P_sI, me_P_sP, me_P_nx, me_N_sI, me_N_sP, me_N_nx, me_L_sI, me_L_sP, me_L_nx, show me_L M 55 0 = 2 from hm.2.1 (55, 0, 2) (by decide)])]; unfold vp_in; decide) (by simp [me_I_sI, me_I_sP, me_I_nx, me_P_sI, me_P_sP, me_P_nx, me_N_sI, me_N_sP, me_N_nx, me_L_sI, me_L_sP, me_L_nx, show me_I M 55 0 1 = 0 from hm.2.2 (55, 0, 1, 0) (by decide)]) kz) ?_
      refine jx_if_eq 102 d_M_gate_95 (by decide) (fun _ => ?_) (fun h => absurd h (by decide))
      refine jx_of (fun _ _ kz => jw_iconst 0 d_M_gate_102 (by decide) kz) ?_
      refine jx_iret d_M_gate_103 rfl ?_
      refine ⟨?_, rfl, rfl⟩; first | (subst_vars; rfl) | (rw [if_neg (sw_ne t_28)])
set_option maxRecDepth 20000 in
set_option maxHeartbeats 4000000 in
theorem x_M_gate_1_x {G : Gt} {M : Me} (d : Nat) (y : Int32) (hm : mfr M) (h1 : y < 0 ∨ 4 < y) : sx G yt_M_gate yn_M_gate (d + 2) [.inr (some (7, 0)), .inl 1, .inl y] M (fun r M' => r = some (.inl (-1)) ∧ nC M M') := by
  refine sx_of (k := 1) (lc := [some (.inr (some (7, 0))), some (.inl 1), some (.inl y), none]) mt_M_gate (Nat.le_of_ble_eq_true rfl) rfl ?_
  refine jx_of (fun _ _ kz => jw_iload_n 1 d_M_gate_0 rfl rfl kz) ?_
  refine jx_of (fun _ _ kz => jw_iconst 0 d_M_gate_1 (by decide) kz) ?_
  refine jx_of (fun _ _ kz => jw_iconst 1 d_M_gate_2 (by decide) kz) ?_
  refine jx_callS (x_M_is_t _ 1 0 1  (by decide) (by decide)) mt_M_is ml_M_93 sm_M_is d_M_gate_3 rfl rfl (Nat.le_of_ble_eq_true rfl) ?_
  rintro _ _ ⟨rfl, rfl⟩
  refine jx_eq (st2 := [.inl 1]) rfl rfl rfl ?_
  refine jx_if_eq 18 d_M_gate_6 (by decide) (fun h => absurd h (by decide)) (fun _ => ?_)
  refine jx_of (fun _ _ kz => jw_iload_n 2 d_M_gate_9 rfl rfl kz) ?_
  refine jx_of (fun _ _ kz => jw_iconst 0 d_M_gate_10 (by decide) kz) ?_
  refine jx_of (fun _ _ kz => jw_iconst 4 d_M_gate_11 (by decide) kz) ?_
  refine jx_callS (x_M_is_f _ y 0 4  h1) mt_M_is ml_M_93 sm_M_is d_M_gate_12 rfl rfl (Nat.le_of_ble_eq_true rfl) ?_
  rintro _ _ ⟨rfl, rfl⟩
  refine jx_eq (st2 := [.inl 0]) rfl rfl rfl ?_
  refine jx_if_ne 20 d_M_gate_15 (by decide) (fun h => absurd h (by decide)) (fun _ => ?_)
  refine jx_of (fun _ _ kz => jw_iconst (-1) d_M_gate_18 (by decide) kz) ?_
  refine jx_iret d_M_gate_19 rfl ?_
  exact ⟨rfl, rfl, rfl⟩
set_option maxRecDepth 20000 in
set_option maxHeartbeats 4000000 in
theorem x_M_put_x {G : Gt} {M : Me} (d : Nat) (x : Int32) (y : Int32) (hm : mfr M) (h1 : x < 0 ∨ 1 < x) : sx G yt_M_put yn_M_put (d + 2) [.inr (some (7, 0)), .inl x, .inl y] M (fun r M' => r = some (.inl (-1)) ∧ nC M M') := by
  refine sx_of (k := 0) (lc := [some (.inr (some (7, 0))), some (.inl x), some (.inl y)]) mt_M_put (Nat.le_of_ble_eq_true rfl) rfl ?_
  refine jx_of (fun _ _ kz => jw_iload_n 1 d_M_put_0 rfl rfl kz) ?_
  refine jx_of (fun _ _ kz => jw_iconst 0 d_M_put_1 (by decide) kz) ?_
  refine jx_of (fun _ _ kz => jw_iconst 1 d_M_put_2 (by decide) kz) ?_
  refine jx_callS (x_M_is_f _ x 0 1  h1) mt_M_is ml_M_93 sm_M_is d_M_put_3 rfl rfl (Nat.le_of_ble_eq_true rfl) ?_
  rintro _ _ ⟨rfl, rfl⟩
  refine jx_eq (st2 := [.inl 0]) rfl rfl rfl ?_
  refine jx_if_eq 19 d_M_put_6 (by decide) (fun _ => ?_) (fun h => absurd h (by decide))
  refine jx_of (fun _ _ kz => jw_iconst (-1) d_M_put_19 (by decide) kz) ?_
  refine jx_iret d_M_put_20 rfl ?_
  exact ⟨rfl, rfl, rfl⟩
set_option maxRecDepth 20000 in
set_option maxHeartbeats 4000000 in
theorem x_M_gate_x {G : Gt} {M : Me} (d : Nat) (x : Int32) (y : Int32) (hm : mfr M) (h1 : x < 0 ∨ 1 < x) : sx G yt_M_gate yn_M_gate (d + 2) [.inr (some (7, 0)), .inl x, .inl y] M (fun r M' => r = some (.inl (-1)) ∧ nC M M') := by
  refine sx_of (k := 1) (lc := [some (.inr (some (7, 0))), some (.inl x), some (.inl y), none]) mt_M_gate (Nat.le_of_ble_eq_true rfl) rfl ?_
  refine jx_of (fun _ _ kz => jw_iload_n 1 d_M_gate_0 rfl rfl kz) ?_
  refine jx_of (fun _ _ kz => jw_iconst 0 d_M_gate_1 (by decide) kz) ?_
  refine jx_of (fun _ _ kz => jw_iconst 1 d_M_gate_2 (by decide) kz) ?_
  refine jx_callS (x_M_is_f _ x 0 1  h1) mt_M_is ml_M_93 sm_M_is d_M_gate_3 rfl rfl (Nat.le_of_ble_eq_true rfl) ?_
  rintro _ _ ⟨rfl, rfl⟩
  refine jx_eq (st2 := [.inl 0]) rfl rfl rfl ?_
  refine jx_if_eq 18 d_M_gate_6 (by decide) (fun _ => ?_) (fun h => absurd h (by decide))
  refine jx_of (fun _ _ kz => jw_iconst (-1) d_M_gate_18 (by decide) kz) ?_
  refine jx_iret d_M_gate_19 rfl ?_
  exact ⟨rfl, rfl, rfl⟩
set_option maxRecDepth 20000 in
set_option maxHeartbeats 4000000 in
theorem x_M_wake_x {G : Gt} {M : Me} (d : Nat) (x : Int32) (hm : mfr M) (h1 : x < 0 ∨ 1 < x) : sx G yt_M_wake yn_M_wake (d + 2) [.inr (some (7, 0)), .inl x] M (fun r M' => r = some (.inl (-1)) ∧ nC M M') := by
  refine sx_of (k := 1) (lc := [some (.inr (some (7, 0))), some (.inl x), none]) mt_M_wake (Nat.le_of_ble_eq_true rfl) rfl ?_
  refine jx_of (fun _ _ kz => jw_iload_n 1 d_M_wake_0 rfl rfl kz) ?_
  refine jx_of (fun _ _ kz => jw_iconst 0 d_M_wake_1 (by decide) kz) ?_
  refine jx_of (fun _ _ kz => jw_iconst 1 d_M_wake_2 (by decide) kz) ?_
  refine jx_callS (x_M_is_f _ x 0 1  h1) mt_M_is ml_M_93 sm_M_is d_M_wake_3 rfl rfl (Nat.le_of_ble_eq_true rfl) ?_
  rintro _ _ ⟨rfl, rfl⟩
  refine jx_eq (st2 := [.inl 0]) rfl rfl rfl ?_
  refine jx_if_ne 11 d_M_wake_6 (by decide) (fun h => absurd h (by decide)) (fun _ => ?_)
  refine jx_of (fun _ _ kz => jw_iconst (-1) d_M_wake_9 (by decide) kz) ?_
  refine jx_iret d_M_wake_10 rfl ?_
  exact ⟨rfl, rfl, rfl⟩
set_option maxRecDepth 20000 in
set_option maxHeartbeats 4000000 in
theorem x_M_worker_0 {G : Gt} {M : Me} (d : Nat) (y : Int32) (hm : mfr M) (h1 : ¬ y < 0) (h2 : ¬ 7 < y) : sx G yt_M_worker yn_M_worker (d + 2) [.inr (some (7, 0)), .inl 0, .inl y] M (fun r M' => r = some (.inl (if y = 0 then -1 else if y < 3 then 0 else if y < 7 then -1 else 0)) ∧ nC M M') := by
  refine sx_of (k := 0) (lc := [some (.inr (some (7, 0))), some (.inl 0), some (.inl y)]) mt_M_worker (Nat.le_of_ble_eq_true rfl) rfl ?_
  refine jx_of (fun _ _ kz => jw_iload_n 1 d_M_worker_0 rfl rfl kz) ?_
  refine jx_of (fun _ _ kz => jw_iconst 0 d_M_worker_1 (by decide) kz) ?_
  refine jx_of (fun _ _ kz => jw_iconst 2 d_M_worker_2 (by decide) kz) ?_
  refine jx_callS (x_M_is_t _ 0 0 2  (by decide) (by decide)) mt_M_is ml_M_93 sm_M_is d_M_worker_3 rfl rfl (Nat.le_of_ble_eq_true rfl) ?_
  rintro _ _ ⟨rfl, rfl⟩
  refine jx_eq (st2 := [.inl 1]) rfl rfl rfl ?_
  refine jx_if_eq 19 d_M_worker_6 (by decide) (fun h => absurd h (by decide)) (fun _ => ?_)
  refine jx_of (fun _ _ kz => jw_iload_n 2 d_M_worker_9 rfl rfl kz) ?_
  refine jx_of (fun _ _ kz => jw_iconst 0 d_M_worker_10 (by decide) kz) ?_
  refine jx_of (fun _ _ kz => jw_bipush 7 d_M_worker_11 (by decide) kz) ?_
  refine jx_callS (x_M_is_t _ y 0 7  h1 h2) mt_M_is ml_M_93 sm_M_is d_M_worker_13 rfl rfl (Nat.le_of_ble_eq_true rfl) ?_
  rintro _ _ ⟨rfl, rfl⟩
  refine jx_eq (st2 := [.inl 1]) rfl rfl rfl ?_
  refine jx_if_ne 21 d_M_worker_16 (by decide) (fun _ => ?_) (fun h => absurd h (by decide))
  refine jx_of (fun _ _ kz => jw_iload_n 2 d_M_worker_21 rfl rfl kz) ?_
  rcases sw_cases (y) 8 (by decide) with t_22 | t_22
  · skip
    refine jx_of (fun _ _ kz => jw_tabOut 96 d_M_worker_22 (by simpa using t_22) (by decide) kz) ?_
    refine jx_of (fun _ _ kz => jw_iload_n 2 d_M_worker_96 rfl rfl kz) ?_
    refine jx_of (fun _ _ kz => jw_iconst 3 d_M_worker_97 (by decide) kz) ?_
    refine jx_of (fun _ _ kz => jw_isub d_M_worker_98 kz) ?_
    refine jx_of (fun _ _ kz => jw_aload_n 0 d_M_worker_99 rfl rfl kz) ?_
    refine jx_of (fun _ _ kz => jw_getPe (some (52, 0)) fl_M_77 d_M_worker_100 rfl rfl (by simp [me_I_sI, me_I_sP, me_I_nx, me_P_sI, me_P_sP, me_P_nx, me_N_sI, me_N_sP, me_N_nx, me_L_sI, me_L_sP, me_L_nx, show me_P M 7 0 23 = some (52, 0) from hm.1 (7, 0, 23, 52, 0) (by decide)]) kz) ?_
    refine jx_of (fun _ _ kz => jw_iload_n 1 d_M_worker_103 rfl rfl kz) ?_
    refine jx_of (fun _ _ kz => jw_ialde (0) d_M_worker_104 rfl rfl (by rw [show me_L _ 52 0 = 3 from (by simp [me_I_sI, me_I_sP, me_I_nx, me_P_sI, me_P_sP, me_P_nx, me_N_sI, me_N_sP, me_N_nx, me_L_sI, me_L_sP, me_L_nx, show me_L M 52 0 = 3 from hm.2.1 (52, 0, 3) (by decide)])]; unfold vp_in; decide) (by simp [me_I_sI, me_I_sP, me_I_nx, me_P_sI, me_P_sP, me_P_nx, me_N_sI, me_N_sP, me_N_nx, me_L_sI, me_L_sP, me_L_nx, show me_I M 52 0 0 = 0 from hm.2.2 (52, 0, 0, 0) (by decide)]) kz) ?_
    refine jx_icmp_ge 123 d_M_worker_105 (by decide) (fun _ => ?_) (fun h => absurd (by first | (subst_vars; decide) | exact (sw_no t_22 h1 h2).elim) h)
    refine jx_of (fun _ _ kz => jw_iconst (-1) d_M_worker_123 (by decide) kz) ?_
    refine jx_iret d_M_worker_124 rfl ?_
    refine ⟨?_, rfl, rfl⟩; first | (subst_vars; rfl) | exact (sw_no t_22 h1 h2).elim
  · skip
    obtain ⟨j_22, t_22, e_22⟩ := t_22
    rcases (show j_22 = 0 ∨ j_22 = 1 ∨ j_22 = 2 ∨ j_22 = 3 ∨ j_22 = 4 ∨ j_22 = 5 ∨ j_22 = 6 ∨ j_22 = 7 by omega) with rfl | rfl | rfl | rfl | rfl | rfl | rfl | rfl
    · skip
      refine jx_of (fun _ _ kz => jw_tabIn 68 d_M_worker_22 (by rw [e_22]; decide) (by rw [e_22]; decide) (by rw [e_22]; rfl) (by decide) kz) ?_
      refine jx_of (fun _ _ kz => jw_aload_n 0 d_M_worker_68 rfl rfl kz) ?_
      refine jx_of (fun _ _ kz => jw_getPe (some (48, 0)) fl_M_65 d_M_worker_69 rfl rfl (by simp [me_I_sI, me_I_sP, me_I_nx, me_P_sI, me_P_sP, me_P_nx, me_N_sI, me_N_sP, me_N_nx, me_L_sI, me_L_sP, me_L_nx, show me_P M 7 0 19 = some (48, 0) from hm.1 (7, 0, 19, 48, 0) (by decide)]) kz) ?_
      refine jx_of (fun _ _ kz => jw_iload_n 1 d_M_worker_72 rfl rfl kz) ?_
      refine jx_of (fun _ _ kz => jw_ialde ((-1)) d_M_worker_73 rfl rfl (by rw [show me_L _ 48 0 = 3 from (by simp [me_I_sI, me_I_sP, me_I_nx, me_P_sI, me_P_sP, me_P_nx, me_N_sI, me_N_sP, me_N_nx, me_L_sI, me_L_sP, me_L_nx, show me_L M 48 0 = 3 from hm.2.1 (48, 0, 3) (by decide)])]; unfold vp_in; decide) (by simp [me_I_sI, me_I_sP, me_I_nx, me_P_sI, me_P_sP, me_P_nx, me_N_sI, me_N_sP, me_N_nx, me_L_sI, me_L_sP, me_L_nx, show me_I M 48 0 0 = (-1) from hm.2.2 (48, 0, 0, (-1)) (by decide)]) kz) ?_
      refine jx_iret d_M_worker_74 rfl ?_
      refine ⟨?_, rfl, rfl⟩; first | (subst_vars; rfl) | exact (sw_no t_22 h1 h2).elim
    · skip
      refine jx_of (fun _ _ kz => jw_tabIn 75 d_M_worker_22 (by rw [e_22]; decide) (by rw [e_22]; decide) (by rw [e_22]; rfl) (by decide) kz) ?_
      refine jx_of (fun _ _ kz => jw_aload_n 0 d_M_worker_75 rfl rfl kz) ?_
      refine jx_of (fun _ _ kz => jw_getPe (some (49, 0)) fl_M_68 d_M_worker_76 rfl rfl (by simp [me_I_sI, me_I_sP, me_I_nx, me_P_sI, me_P_sP, me_P_nx, me_N_sI, me_N_sP, me_N_nx, me_L_sI, me_L_sP, me_L_nx, show me_P M 7 0 20 = some (49, 0) from hm.1 (7, 0, 20, 49, 0) (by decide)]) kz) ?_
      refine jx_of (fun _ _ kz => jw_iload_n 1 d_M_worker_79 rfl rfl kz) ?_
      refine jx_of (fun _ _ kz => jw_ialde (0) d_M_worker_80 rfl rfl (by rw [show me_L _ 49 0 = 3 from (by simp [me_I_sI, me_I_sP, me_I_nx, me_P_sI, me_P_sP, me_P_nx, me_N_sI, me_N_sP, me_N_nx, me_L_sI, me_L_sP, me_L_nx, show me_L M 49 0 = 3 from hm.2.1 (49, 0, 3) (by decide)])]; unfold vp_in; decide) (by simp [me_I_sI, me_I_sP, me_I_nx, me_P_sI, me_P_sP, me_P_nx, me_N_sI, me_N_sP, me_N_nx, me_L_sI, me_L_sP, me_L_nx, show me_I M 49 0 0 = 0 from hm.2.2 (49, 0, 0, 0) (by decide)]) kz) ?_
      refine jx_iret d_M_worker_81 rfl ?_
      refine ⟨?_, rfl, rfl⟩; first | (subst_vars; rfl) | exact (sw_no t_22 h1 h2).elim
    · skip
      refine jx_of (fun _ _ kz => jw_tabIn 82 d_M_worker_22 (by rw [e_22]; decide) (by rw [e_22]; decide) (by rw [e_22]; rfl) (by decide) kz) ?_
      refine jx_of (fun _ _ kz => jw_aload_n 0 d_M_worker_82 rfl rfl kz) ?_
      refine jx_of (fun _ _ kz => jw_getPe (some (52, 0)) fl_M_77 d_M_worker_83 rfl rfl (by simp [me_I_sI, me_I_sP, me_I_nx, me_P_sI, me_P_sP, me_P_nx, me_N_sI, me_N_sP, me_N_nx, me_L_sI, me_L_sP, me_L_nx, show me_P M 7 0 23 = some (52, 0) from hm.1 (7, 0, 23, 52, 0) (by decide)]) kz) ?_
      refine jx_of (fun _ _ kz => jw_iload_n 1 d_M_worker_86 rfl rfl kz) ?_
      refine jx_of (fun _ _ kz => jw_ialde (0) d_M_worker_87 rfl rfl (by rw [show me_L _ 52 0 = 3 from (by simp [me_I_sI, me_I_sP, me_I_nx, me_P_sI, me_P_sP, me_P_nx, me_N_sI, me_N_sP, me_N_nx, me_L_sI, me_L_sP, me_L_nx, show me_L M 52 0 = 3 from hm.2.1 (52, 0, 3) (by decide)])]; unfold vp_in; decide) (by simp [me_I_sI, me_I_sP, me_I_nx, me_P_sI, me_P_sP, me_P_nx, me_N_sI, me_N_sP, me_N_nx, me_L_sI, me_L_sP, me_L_nx, show me_I M 52 0 0 = 0 from hm.2.2 (52, 0, 0, 0) (by decide)]) kz) ?_
      refine jx_iret d_M_worker_88 rfl ?_
      refine ⟨?_, rfl, rfl⟩; first | (subst_vars; rfl) | exact (sw_no t_22 h1 h2).elim
    · skip
      refine jx_of (fun _ _ kz => jw_tabIn 96 d_M_worker_22 (by rw [e_22]; decide) (by rw [e_22]; decide) (by rw [e_22]; rfl) (by decide) kz) ?_
      refine jx_of (fun _ _ kz => jw_iload_n 2 d_M_worker_96 rfl rfl kz) ?_
      refine jx_of (fun _ _ kz => jw_iconst 3 d_M_worker_97 (by decide) kz) ?_
      refine jx_of (fun _ _ kz => jw_isub d_M_worker_98 kz) ?_
      refine jx_of (fun _ _ kz => jw_aload_n 0 d_M_worker_99 rfl rfl kz) ?_
      refine jx_of (fun _ _ kz => jw_getPe (some (52, 0)) fl_M_77 d_M_worker_100 rfl rfl (by simp [me_I_sI, me_I_sP, me_I_nx, me_P_sI, me_P_sP, me_P_nx, me_N_sI, me_N_sP, me_N_nx, me_L_sI, me_L_sP, me_L_nx, show me_P M 7 0 23 = some (52, 0) from hm.1 (7, 0, 23, 52, 0) (by decide)]) kz) ?_
      refine jx_of (fun _ _ kz => jw_iload_n 1 d_M_worker_103 rfl rfl kz) ?_
      refine jx_of (fun _ _ kz => jw_ialde (0) d_M_worker_104 rfl rfl (by rw [show me_L _ 52 0 = 3 from (by simp [me_I_sI, me_I_sP, me_I_nx, me_P_sI, me_P_sP, me_P_nx, me_N_sI, me_N_sP, me_N_nx, me_L_sI, me_L_sP, me_L_nx, show me_L M 52 0 = 3 from hm.2.1 (52, 0, 3) (by decide)])]; unfold vp_in; decide) (by simp [me_I_sI, me_I_sP, me_I_nx, me_P_sI, me_P_sP, me_P_nx, me_N_sI, me_N_sP, me_N_nx, me_L_sI, me_L_sP, me_L_nx, show me_I M 52 0 0 = 0 from hm.2.2 (52, 0, 0, 0) (by decide)]) kz) ?_
      refine jx_icmp_ge 123 d_M_worker_105 (by decide) (fun _ => ?_) (fun h => absurd (by first | (subst_vars; decide) | exact (sw_no t_22 h1 h2).elim) h)
      refine jx_of (fun _ _ kz => jw_iconst (-1) d_M_worker_123 (by decide) kz) ?_
      refine jx_iret d_M_worker_124 rfl ?_
      refine ⟨?_, rfl, rfl⟩; first | (subst_vars; rfl) | exact (sw_no t_22 h1 h2).elim
    · skip
      refine jx_of (fun _ _ kz => jw_tabIn 96 d_M_worker_22 (by rw [e_22]; decide) (by rw [e_22]; decide) (by rw [e_22]; rfl) (by decide) kz) ?_
      refine jx_of (fun _ _ kz => jw_iload_n 2 d_M_worker_96 rfl rfl kz) ?_
      refine jx_of (fun _ _ kz => jw_iconst 3 d_M_worker_97 (by decide) kz) ?_
      refine jx_of (fun _ _ kz => jw_isub d_M_worker_98 kz) ?_
      refine jx_of (fun _ _ kz => jw_aload_n 0 d_M_worker_99 rfl rfl kz) ?_
      refine jx_of (fun _ _ kz => jw_getPe (some (52, 0)) fl_M_77 d_M_worker_100 rfl rfl (by simp [me_I_sI, me_I_sP, me_I_nx, me_P_sI, me_P_sP, me_P_nx, me_N_sI, me_N_sP, me_N_nx, me_L_sI, me_L_sP, me_L_nx, show me_P M 7 0 23 = some (52, 0) from hm.1 (7, 0, 23, 52, 0) (by decide)]) kz) ?_
      refine jx_of (fun _ _ kz => jw_iload_n 1 d_M_worker_103 rfl rfl kz) ?_
      refine jx_of (fun _ _ kz => jw_ialde (0) d_M_worker_104 rfl rfl (by rw [show me_L _ 52 0 = 3 from (by simp [me_I_sI, me_I_sP, me_I_nx, me_P_sI, me_P_sP, me_P_nx, me_N_sI, me_N_sP, me_N_nx, me_L_sI, me_L_sP, me_L_nx, show me_L M 52 0 = 3 from hm.2.1 (52, 0, 3) (by decide)])]; unfold vp_in; decide) (by simp [me_I_sI, me_I_sP, me_I_nx, me_P_sI, me_P_sP, me_P_nx, me_N_sI, me_N_sP, me_N_nx, me_L_sI, me_L_sP, me_L_nx, show me_I M 52 0 0 = 0 from hm.2.2 (52, 0, 0, 0) (by decide)]) kz) ?_
      refine jx_icmp_ge 123 d_M_worker_105 (by decide) (fun _ => ?_) (fun h => absurd (by first | (subst_vars; decide) | exact (sw_no t_22 h1 h2).elim) h)
      refine jx_of (fun _ _ kz => jw_iconst (-1) d_M_worker_123 (by decide) kz) ?_
      refine jx_iret d_M_worker_124 rfl ?_
      refine ⟨?_, rfl, rfl⟩; first | (subst_vars; rfl) | exact (sw_no t_22 h1 h2).elim
    · skip
      refine jx_of (fun _ _ kz => jw_tabIn 96 d_M_worker_22 (by rw [e_22]; decide) (by rw [e_22]; decide) (by rw [e_22]; rfl) (by decide) kz) ?_
      refine jx_of (fun _ _ kz => jw_iload_n 2 d_M_worker_96 rfl rfl kz) ?_
      refine jx_of (fun _ _ kz => jw_iconst 3 d_M_worker_97 (by decide) kz) ?_
      refine jx_of (fun _ _ kz => jw_isub d_M_worker_98 kz) ?_
      refine jx_of (fun _ _ kz => jw_aload_n 0 d_M_worker_99 rfl rfl kz) ?_
      refine jx_of (fun _ _ kz => jw_getPe (some (52, 0)) fl_M_77 d_M_worker_100 rfl rfl (by simp [me_I_sI, me_I_sP, me_I_nx, me_P_sI, me_P_sP, me_P_nx, me_N_sI, me_N_sP, me_N_nx, me_L_sI, me_L_sP, me_L_nx, show me_P M 7 0 23 = some (52, 0) from hm.1 (7, 0, 23, 52, 0) (by decide)]) kz) ?_
      refine jx_of (fun _ _ kz => jw_iload_n 1 d_M_worker_103 rfl rfl kz) ?_
      refine jx_of (fun _ _ kz => jw_ialde (0) d_M_worker_104 rfl rfl (by rw [show me_L _ 52 0 = 3 from (by simp [me_I_sI, me_I_sP, me_I_nx, me_P_sI, me_P_sP, me_P_nx, me_N_sI, me_N_sP, me_N_nx, me_L_sI, me_L_sP, me_L_nx, show me_L M 52 0 = 3 from hm.2.1 (52, 0, 3) (by decide)])]; unfold vp_in; decide) (by simp [me_I_sI, me_I_sP, me_I_nx, me_P_sI, me_P_sP, me_P_nx, me_N_sI, me_N_sP, me_N_nx, me_L_sI, me_L_sP, me_L_nx, show me_I M 52 0 0 = 0 from hm.2.2 (52, 0, 0, 0) (by decide)]) kz) ?_
      refine jx_icmp_ge 123 d_M_worker_105 (by decide) (fun _ => ?_) (fun h => absurd (by first | (subst_vars; decide) | exact (sw_no t_22 h1 h2).elim) h)
      refine jx_of (fun _ _ kz => jw_iconst (-1) d_M_worker_123 (by decide) kz) ?_
      refine jx_iret d_M_worker_124 rfl ?_
      refine ⟨?_, rfl, rfl⟩; first | (subst_vars; rfl) | exact (sw_no t_22 h1 h2).elim
    · skip
      refine jx_of (fun _ _ kz => jw_tabIn 96 d_M_worker_22 (by rw [e_22]; decide) (by rw [e_22]; decide) (by rw [e_22]; rfl) (by decide) kz) ?_
      refine jx_of (fun _ _ kz => jw_iload_n 2 d_M_worker_96 rfl rfl kz) ?_
      refine jx_of (fun _ _ kz => jw_iconst 3 d_M_worker_97 (by decide) kz) ?_
      refine jx_of (fun _ _ kz => jw_isub d_M_worker_98 kz) ?_
      refine jx_of (fun _ _ kz => jw_aload_n 0 d_M_worker_99 rfl rfl kz) ?_
      refine jx_of (fun _ _ kz => jw_getPe (some (52, 0)) fl_M_77 d_M_worker_100 rfl rfl (by simp [me_I_sI, me_I_sP, me_I_nx, me_P_sI, me_P_sP, me_P_nx, me_N_sI, me_N_sP, me_N_nx, me_L_sI, me_L_sP, me_L_nx, show me_P M 7 0 23 = some (52, 0) from hm.1 (7, 0, 23, 52, 0) (by decide)]) kz) ?_
      refine jx_of (fun _ _ kz => jw_iload_n 1 d_M_worker_103 rfl rfl kz) ?_
      refine jx_of (fun _ _ kz => jw_ialde (0) d_M_worker_104 rfl rfl (by rw [show me_L _ 52 0 = 3 from (by simp [me_I_sI, me_I_sP, me_I_nx, me_P_sI, me_P_sP, me_P_nx, me_N_sI, me_N_sP, me_N_nx, me_L_sI, me_L_sP, me_L_nx, show me_L M 52 0 = 3 from hm.2.1 (52, 0, 3) (by decide)])]; unfold vp_in; decide) (by simp [me_I_sI, me_I_sP, me_I_nx, me_P_sI, me_P_sP, me_P_nx, me_N_sI, me_N_sP, me_N_nx, me_L_sI, me_L_sP, me_L_nx, show me_I M 52 0 0 = 0 from hm.2.2 (52, 0, 0, 0) (by decide)]) kz) ?_
      refine jx_icmp_ge 123 d_M_worker_105 (by decide) (fun _ => ?_) (fun h => absurd (by first | (subst_vars; decide) | exact (sw_no t_22 h1 h2).elim) h)
      refine jx_of (fun _ _ kz => jw_iconst (-1) d_M_worker_123 (by decide) kz) ?_
      refine jx_iret d_M_worker_124 rfl ?_
      refine ⟨?_, rfl, rfl⟩; first | (subst_vars; rfl) | exact (sw_no t_22 h1 h2).elim
    · skip
      refine jx_of (fun _ _ kz => jw_tabIn 89 d_M_worker_22 (by rw [e_22]; decide) (by rw [e_22]; decide) (by rw [e_22]; rfl) (by decide) kz) ?_
      refine jx_of (fun _ _ kz => jw_aload_n 0 d_M_worker_89 rfl rfl kz) ?_
      refine jx_of (fun _ _ kz => jw_getPe (some (50, 0)) fl_M_71 d_M_worker_90 rfl rfl (by simp [me_I_sI, me_I_sP, me_I_nx, me_P_sI, me_P_sP, me_P_nx, me_N_sI, me_N_sP, me_N_nx, me_L_sI, me_L_sP, me_L_nx, show me_P M 7 0 21 = some (50, 0) from hm.1 (7, 0, 21, 50, 0) (by decide)]) kz) ?_
      refine jx_of (fun _ _ kz => jw_iload_n 1 d_M_worker_93 rfl rfl kz) ?_
      refine jx_of (fun _ _ kz => jw_ialde (0) d_M_worker_94 rfl rfl (by rw [show me_L _ 50 0 = 3 from (by simp [me_I_sI, me_I_sP, me_I_nx, me_P_sI, me_P_sP, me_P_nx, me_N_sI, me_N_sP, me_N_nx, me_L_sI, me_L_sP, me_L_nx, show me_L M 50 0 = 3 from hm.2.1 (50, 0, 3) (by decide)])]; unfold vp_in; decide) (by simp [me_I_sI, me_I_sP, me_I_nx, me_P_sI, me_P_sP, me_P_nx, me_N_sI, me_N_sP, me_N_nx, me_L_sI, me_L_sP, me_L_nx, show me_I M 50 0 0 = 0 from hm.2.2 (50, 0, 0, 0) (by decide)]) kz) ?_
      refine jx_iret d_M_worker_95 rfl ?_
      refine ⟨?_, rfl, rfl⟩; first | (subst_vars; rfl) | exact (sw_no t_22 h1 h2).elim
set_option maxRecDepth 20000 in
set_option maxHeartbeats 4000000 in
theorem x_M_worker_0_x {G : Gt} {M : Me} (d : Nat) (y : Int32) (hm : mfr M) (h1 : y < 0 ∨ 7 < y) : sx G yt_M_worker yn_M_worker (d + 2) [.inr (some (7, 0)), .inl 0, .inl y] M (fun r M' => r = some (.inl (-1)) ∧ nC M M') := by
  refine sx_of (k := 0) (lc := [some (.inr (some (7, 0))), some (.inl 0), some (.inl y)]) mt_M_worker (Nat.le_of_ble_eq_true rfl) rfl ?_
  refine jx_of (fun _ _ kz => jw_iload_n 1 d_M_worker_0 rfl rfl kz) ?_
  refine jx_of (fun _ _ kz => jw_iconst 0 d_M_worker_1 (by decide) kz) ?_
  refine jx_of (fun _ _ kz => jw_iconst 2 d_M_worker_2 (by decide) kz) ?_
  refine jx_callS (x_M_is_t _ 0 0 2  (by decide) (by decide)) mt_M_is ml_M_93 sm_M_is d_M_worker_3 rfl rfl (Nat.le_of_ble_eq_true rfl) ?_
  rintro _ _ ⟨rfl, rfl⟩
  refine jx_eq (st2 := [.inl 1]) rfl rfl rfl ?_
  refine jx_if_eq 19 d_M_worker_6 (by decide) (fun h => absurd h (by decide)) (fun _ => ?_)
  refine jx_of (fun _ _ kz => jw_iload_n 2 d_M_worker_9 rfl rfl kz) ?_
  refine jx_of (fun _ _ kz => jw_iconst 0 d_M_worker_10 (by decide) kz) ?_
  refine jx_of (fun _ _ kz => jw_bipush 7 d_M_worker_11 (by decide) kz) ?_
  refine jx_callS (x_M_is_f _ y 0 7  h1) mt_M_is ml_M_93 sm_M_is d_M_worker_13 rfl rfl (Nat.le_of_ble_eq_true rfl) ?_
  rintro _ _ ⟨rfl, rfl⟩
  refine jx_eq (st2 := [.inl 0]) rfl rfl rfl ?_
  refine jx_if_ne 21 d_M_worker_16 (by decide) (fun h => absurd h (by decide)) (fun _ => ?_)
  refine jx_of (fun _ _ kz => jw_iconst (-1) d_M_worker_19 (by decide) kz) ?_
  refine jx_iret d_M_worker_20 rfl ?_
  exact ⟨rfl, rfl, rfl⟩
set_option maxRecDepth 20000 in
set_option maxHeartbeats 4000000 in
theorem x_M_worker_1 {G : Gt} {M : Me} (d : Nat) (y : Int32) (hm : mfr M) (h1 : ¬ y < 0) (h2 : ¬ 7 < y) : sx G yt_M_worker yn_M_worker (d + 2) [.inr (some (7, 0)), .inl 1, .inl y] M (fun r M' => r = some (.inl (if y = 0 then -1 else if y < 3 then 0 else if y < 7 then -1 else 0)) ∧ nC M M') := by
  refine sx_of (k := 0) (lc := [some (.inr (some (7, 0))), some (.inl 1), some (.inl y)]) mt_M_worker (Nat.le_of_ble_eq_true rfl) rfl ?_
  refine jx_of (fun _ _ kz => jw_iload_n 1 d_M_worker_0 rfl rfl kz) ?_
  refine jx_of (fun _ _ kz => jw_iconst 0 d_M_worker_1 (by decide) kz) ?_
  refine jx_of (fun _ _ kz => jw_iconst 2 d_M_worker_2 (by decide) kz) ?_
  refine jx_callS (x_M_is_t _ 1 0 2  (by decide) (by decide)) mt_M_is ml_M_93 sm_M_is d_M_worker_3 rfl rfl (Nat.le_of_ble_eq_true rfl) ?_
  rintro _ _ ⟨rfl, rfl⟩
  refine jx_eq (st2 := [.inl 1]) rfl rfl rfl ?_
  refine jx_if_eq 19 d_M_worker_6 (by decide) (fun h => absurd h (by decide)) (fun _ => ?_)
  refine jx_of (fun _ _ kz => jw_iload_n 2 d_M_worker_9 rfl rfl kz) ?_
  refine jx_of (fun _ _ kz => jw_iconst 0 d_M_worker_10 (by decide) kz) ?_
  refine jx_of (fun _ _ kz => jw_bipush 7 d_M_worker_11 (by decide) kz) ?_
  refine jx_callS (x_M_is_t _ y 0 7  h1 h2) mt_M_is ml_M_93 sm_M_is d_M_worker_13 rfl rfl (Nat.le_of_ble_eq_true rfl) ?_
  rintro _ _ ⟨rfl, rfl⟩
  refine jx_eq (st2 := [.inl 1]) rfl rfl rfl ?_
  refine jx_if_ne 21 d_M_worker_16 (by decide) (fun _ => ?_) (fun h => absurd h (by decide))
  refine jx_of (fun _ _ kz => jw_iload_n 2 d_M_worker_21 rfl rfl kz) ?_
  rcases sw_cases (y) 8 (by decide) with t_22 | t_22
  · skip
    refine jx_of (fun _ _ kz => jw_tabOut 96 d_M_worker_22 (by simpa using t_22) (by decide) kz) ?_
    refine jx_of (fun _ _ kz => jw_iload_n 2 d_M_worker_96 rfl rfl kz) ?_
    refine jx_of (fun _ _ kz => jw_iconst 3 d_M_worker_97 (by decide) kz) ?_
    refine jx_of (fun _ _ kz => jw_isub d_M_worker_98 kz) ?_
    refine jx_of (fun _ _ kz => jw_aload_n 0 d_M_worker_99 rfl rfl kz) ?_
    refine jx_of (fun _ _ kz => jw_getPe (some (52, 0)) fl_M_77 d_M_worker_100 rfl rfl (by simp [me_I_sI, me_I_sP, me_I_nx, me_P_sI, me_P_sP, me_P_nx, me_N_sI, me_N_sP, me_N_nx, me_L_sI, me_L_sP, me_L_nx, show me_P M 7 0 23 = some (52, 0) from hm.1 (7, 0, 23, 52, 0) (by decide)]) kz) ?_
    refine jx_of (fun _ _ kz => jw_iload_n 1 d_M_worker_103 rfl rfl kz) ?_
    refine jx_of (fun _ _ kz => jw_ialde (0) d_M_worker_104 rfl rfl (by rw [show me_L _ 52 0 = 3 from (by simp [me_I_sI, me_I_sP, me_I_nx, me_P_sI, me_P_sP, me_P_nx, me_N_sI, me_N_sP, me_N_nx, me_L_sI, me_L_sP, me_L_nx, show me_L M 52 0 = 3 from hm.2.1 (52, 0, 3) (by decide)])]; unfold vp_in; decide) (by simp [me_I_sI, me_I_sP, me_I_nx, me_P_sI, me_P_sP, me_P_nx, me_N_sI, me_N_sP, me_N_nx, me_L_sI, me_L_sP, me_L_nx, show me_I M 52 0 1 = 0 from hm.2.2 (52, 0, 1, 0) (by decide)]) kz) ?_
    refine jx_icmp_ge 123 d_M_worker_105 (by decide) (fun _ => ?_) (fun h => absurd (by first | (subst_vars; decide) | exact (sw_no t_22 h1 h2).elim) h)
    refine jx_of (fun _ _ kz => jw_iconst (-1) d_M_worker_123 (by decide) kz) ?_
    refine jx_iret d_M_worker_124 rfl ?_
    refine ⟨?_, rfl, rfl⟩; first | (subst_vars; rfl) | exact (sw_no t_22 h1 h2).elim
  · skip
    obtain ⟨j_22, t_22, e_22⟩ := t_22
    rcases (show j_22 = 0 ∨ j_22 = 1 ∨ j_22 = 2 ∨ j_22 = 3 ∨ j_22 = 4 ∨ j_22 = 5 ∨ j_22 = 6 ∨ j_22 = 7 by omega) with rfl | rfl | rfl | rfl | rfl | rfl | rfl | rfl
    · skip
      refine jx_of (fun _ _ kz => jw_tabIn 68 d_M_worker_22 (by rw [e_22]; decide) (by rw [e_22]; decide) (by rw [e_22]; rfl) (by decide) kz) ?_
      refine jx_of (fun _ _ kz => jw_aload_n 0 d_M_worker_68 rfl rfl kz) ?_
      refine jx_of (fun _ _ kz => jw_getPe (some (48, 0)) fl_M_65 d_M_worker_69 rfl rfl (by simp [me_I_sI, me_I_sP, me_I_nx, me_P_sI, me_P_sP, me_P_nx, me_N_sI, me_N_sP, me_N_nx, me_L_sI, me_L_sP, me_L_nx, show me_P M 7 0 19 = some (48, 0) from hm.1 (7, 0, 19, 48, 0) (by decide)]) kz) ?_
      refine jx_of (fun _ _ kz => jw_iload_n 1 d_M_worker_72 rfl rfl kz) ?_
      refine jx_of (fun _ _ kz => jw_ialde ((-1)) d_M_worker_73 rfl rfl (by rw [show me_L _ 48 0 = 3 from (by simp [me_I_sI, me_I_sP, me_I_nx, me_P_sI, me_P_sP, me_P_nx, me_N_sI, me_N_sP, me_N_nx, me_L_sI, me_L_sP, me_L_nx, show me_L M 48 0 = 3 from hm.2.1 (48, 0, 3) (by decide)])]; unfold vp_in; decide) (by simp [me_I_sI, me_I_sP, me_I_nx, me_P_sI, me_P_sP, me_P_nx, me_N_sI, me_N_sP, me_N_nx, me_L_sI, me_L_sP, me_L_nx, show me_I M 48 0 1 = (-1) from hm.2.2 (48, 0, 1, (-1)) (by decide)]) kz) ?_
      refine jx_iret d_M_worker_74 rfl ?_
      refine ⟨?_, rfl, rfl⟩; first | (subst_vars; rfl) | exact (sw_no t_22 h1 h2).elim
    · skip
      refine jx_of (fun _ _ kz => jw_tabIn 75 d_M_worker_22 (by rw [e_22]; decide) (by rw [e_22]; decide) (by rw [e_22]; rfl) (by decide) kz) ?_
      refine jx_of (fun _ _ kz => jw_aload_n 0 d_M_worker_75 rfl rfl kz) ?_
      refine jx_of (fun _ _ kz => jw_getPe (some (49, 0)) fl_M_68 d_M_worker_76 rfl rfl (by simp [me_I_sI, me_I_sP, me_I_nx, me_P_sI, me_P_sP, me_P_nx, me_N_sI, me_N_sP, me_N_nx, me_L_sI, me_L_sP, me_L_nx, show me_P M 7 0 20 = some (49, 0) from hm.1 (7, 0, 20, 49, 0) (by decide)]) kz) ?_
      refine jx_of (fun _ _ kz => jw_iload_n 1 d_M_worker_79 rfl rfl kz) ?_
      refine jx_of (fun _ _ kz => jw_ialde (0) d_M_worker_80 rfl rfl (by rw [show me_L _ 49 0 = 3 from (by simp [me_I_sI, me_I_sP, me_I_nx, me_P_sI, me_P_sP, me_P_nx, me_N_sI, me_N_sP, me_N_nx, me_L_sI, me_L_sP, me_L_nx, show me_L M 49 0 = 3 from hm.2.1 (49, 0, 3) (by decide)])]; unfold vp_in; decide) (by simp [me_I_sI, me_I_sP, me_I_nx, me_P_sI, me_P_sP, me_P_nx, me_N_sI, me_N_sP, me_N_nx, me_L_sI, me_L_sP, me_L_nx, show me_I M 49 0 1 = 0 from hm.2.2 (49, 0, 1, 0) (by decide)]) kz) ?_
      refine jx_iret d_M_worker_81 rfl ?_
      refine ⟨?_, rfl, rfl⟩; first | (subst_vars; rfl) | exact (sw_no t_22 h1 h2).elim
    · skip
      refine jx_of (fun _ _ kz => jw_tabIn 82 d_M_worker_22 (by rw [e_22]; decide) (by rw [e_22]; decide) (by rw [e_22]; rfl) (by decide) kz) ?_
      refine jx_of (fun _ _ kz => jw_aload_n 0 d_M_worker_82 rfl rfl kz) ?_
      refine jx_of (fun _ _ kz => jw_getPe (some (52, 0)) fl_M_77 d_M_worker_83 rfl rfl (by simp [me_I_sI, me_I_sP, me_I_nx, me_P_sI, me_P_sP, me_P_nx, me_N_sI, me_N_sP, me_N_nx, me_L_sI, me_L_sP, me_L_nx, show me_P M 7 0 23 = some (52, 0) from hm.1 (7, 0, 23, 52, 0) (by decide)]) kz) ?_
      refine jx_of (fun _ _ kz => jw_iload_n 1 d_M_worker_86 rfl rfl kz) ?_
      refine jx_of (fun _ _ kz => jw_ialde (0) d_M_worker_87 rfl rfl (by rw [show me_L _ 52 0 = 3 from (by simp [me_I_sI, me_I_sP, me_I_nx, me_P_sI, me_P_sP, me_P_nx, me_N_sI, me_N_sP, me_N_nx, me_L_sI, me_L_sP, me_L_nx, show me_L M 52 0 = 3 from hm.2.1 (52, 0, 3) (by decide)])]; unfold vp_in; decide) (by simp [me_I_sI, me_I_sP, me_I_nx, me_P_sI, me_P_sP, me_P_nx, me_N_sI, me_N_sP, me_N_nx, me_L_sI, me_L_sP, me_L_nx, show me_I M 52 0 1 = 0 from hm.2.2 (52, 0, 1, 0) (by decide)]) kz) ?_
      refine jx_iret d_M_worker_88 rfl ?_
      refine ⟨?_, rfl, rfl⟩; first | (subst_vars; rfl) | exact (sw_no t_22 h1 h2).elim
    · skip
      refine jx_of (fun _ _ kz => jw_tabIn 96 d_M_worker_22 (by rw [e_22]; decide) (by rw [e_22]; decide) (by rw [e_22]; rfl) (by decide) kz) ?_
      refine jx_of (fun _ _ kz => jw_iload_n 2 d_M_worker_96 rfl rfl kz) ?_
      refine jx_of (fun _ _ kz => jw_iconst 3 d_M_worker_97 (by decide) kz) ?_
      refine jx_of (fun _ _ kz => jw_isub d_M_worker_98 kz) ?_
      refine jx_of (fun _ _ kz => jw_aload_n 0 d_M_worker_99 rfl rfl kz) ?_
      refine jx_of (fun _ _ kz => jw_getPe (some (52, 0)) fl_M_77 d_M_worker_100 rfl rfl (by simp [me_I_sI, me_I_sP, me_I_nx, me_P_sI, me_P_sP, me_P_nx, me_N_sI, me_N_sP, me_N_nx, me_L_sI, me_L_sP, me_L_nx, show me_P M 7 0 23 = some (52, 0) from hm.1 (7, 0, 23, 52, 0) (by decide)]) kz) ?_
      refine jx_of (fun _ _ kz => jw_iload_n 1 d_M_worker_103 rfl rfl kz) ?_
      refine jx_of (fun _ _ kz => jw_ialde (0) d_M_worker_104 rfl rfl (by rw [show me_L _ 52 0 = 3 from (by simp [me_I_sI, me_I_sP, me_I_nx, me_P_sI, me_P_sP, me_P_nx, me_N_sI, me_N_sP, me_N_nx, me_L_sI, me_L_sP, me_L_nx, show me_L M 52 0 = 3 from hm.2.1 (52, 0, 3) (by decide)])]; unfold vp_in; decide) (by simp [me_I_sI, me_I_sP, me_I_nx, me_P_sI, me_P_sP, me_P_nx, me_N_sI, me_N_sP, me_N_nx, me_L_sI, me_L_sP, me_L_nx, show me_I M 52 0 1 = 0 from hm.2.2 (52, 0, 1, 0) (by decide)]) kz) ?_
      refine jx_icmp_ge 123 d_M_worker_105 (by decide) (fun _ => ?_) (fun h => absurd (by first | (subst_vars; decide) | exact (sw_no t_22 h1 h2).elim) h)
      refine jx_of (fun _ _ kz => jw_iconst (-1) d_M_worker_123 (by decide) kz) ?_
      refine jx_iret d_M_worker_124 rfl ?_
      refine ⟨?_, rfl, rfl⟩; first | (subst_vars; rfl) | exact (sw_no t_22 h1 h2).elim
    · skip
      refine jx_of (fun _ _ kz => jw_tabIn 96 d_M_worker_22 (by rw [e_22]; decide) (by rw [e_22]; decide) (by rw [e_22]; rfl) (by decide) kz) ?_
      refine jx_of (fun _ _ kz => jw_iload_n 2 d_M_worker_96 rfl rfl kz) ?_
      refine jx_of (fun _ _ kz => jw_iconst 3 d_M_worker_97 (by decide) kz) ?_
      refine jx_of (fun _ _ kz => jw_isub d_M_worker_98 kz) ?_
      refine jx_of (fun _ _ kz => jw_aload_n 0 d_M_worker_99 rfl rfl kz) ?_
      refine jx_of (fun _ _ kz => jw_getPe (some (52, 0)) fl_M_77 d_M_worker_100 rfl rfl (by simp [me_I_sI, me_I_sP, me_I_nx, me_P_sI, me_P_sP, me_P_nx, me_N_sI, me_N_sP, me_N_nx, me_L_sI, me_L_sP, me_L_nx, show me_P M 7 0 23 = some (52, 0) from hm.1 (7, 0, 23, 52, 0) (by decide)]) kz) ?_
      refine jx_of (fun _ _ kz => jw_iload_n 1 d_M_worker_103 rfl rfl kz) ?_
      refine jx_of (fun _ _ kz => jw_ialde (0) d_M_worker_104 rfl rfl (by rw [show me_L _ 52 0 = 3 from (by simp [me_I_sI, me_I_sP, me_I_nx, me_P_sI, me_P_sP, me_P_nx, me_N_sI, me_N_sP, me_N_nx, me_L_sI, me_L_sP, me_L_nx, show me_L M 52 0 = 3 from hm.2.1 (52, 0, 3) (by decide)])]; unfold vp_in; decide) (by simp [me_I_sI, me_I_sP, me_I_nx, me_P_sI, me_P_sP, me_P_nx, me_N_sI, me_N_sP, me_N_nx, me_L_sI, me_L_sP, me_L_nx, show me_I M 52 0 1 = 0 from hm.2.2 (52, 0, 1, 0) (by decide)]) kz) ?_
      refine jx_icmp_ge 123 d_M_worker_105 (by decide) (fun _ => ?_) (fun h => absurd (by first | (subst_vars; decide) | exact (sw_no t_22 h1 h2).elim) h)
      refine jx_of (fun _ _ kz => jw_iconst (-1) d_M_worker_123 (by decide) kz) ?_
      refine jx_iret d_M_worker_124 rfl ?_
      refine ⟨?_, rfl, rfl⟩; first | (subst_vars; rfl) | exact (sw_no t_22 h1 h2).elim
    · skip
      refine jx_of (fun _ _ kz => jw_tabIn 96 d_M_worker_22 (by rw [e_22]; decide) (by rw [e_22]; decide) (by rw [e_22]; rfl) (by decide) kz) ?_
      refine jx_of (fun _ _ kz => jw_iload_n 2 d_M_worker_96 rfl rfl kz) ?_
      refine jx_of (fun _ _ kz => jw_iconst 3 d_M_worker_97 (by decide) kz) ?_
      refine jx_of (fun _ _ kz => jw_isub d_M_worker_98 kz) ?_
      refine jx_of (fun _ _ kz => jw_aload_n 0 d_M_worker_99 rfl rfl kz) ?_
      refine jx_of (fun _ _ kz => jw_getPe (some (52, 0)) fl_M_77 d_M_worker_100 rfl rfl (by simp [me_I_sI, me_I_sP, me_I_nx, me_P_sI, me_P_sP, me_P_nx, me_N_sI, me_N_sP, me_N_nx, me_L_sI, me_L_sP, me_L_nx, show me_P M 7 0 23 = some (52, 0) from hm.1 (7, 0, 23, 52, 0) (by decide)]) kz) ?_
      refine jx_of (fun _ _ kz => jw_iload_n 1 d_M_worker_103 rfl rfl kz) ?_
      refine jx_of (fun _ _ kz => jw_ialde (0) d_M_worker_104 rfl rfl (by rw [show me_L _ 52 0 = 3 from (by simp [me_I_sI, me_I_sP, me_I_nx, me_P_sI, me_P_sP, me_P_nx, me_N_sI, me_N_sP, me_N_nx, me_L_sI, me_L_sP, me_L_nx, show me_L M 52 0 = 3 from hm.2.1 (52, 0, 3) (by decide)])]; unfold vp_in; decide) (by simp [me_I_sI, me_I_sP, me_I_nx, me_P_sI, me_P_sP, me_P_nx, me_N_sI, me_N_sP, me_N_nx, me_L_sI, me_L_sP, me_L_nx, show me_I M 52 0 1 = 0 from hm.2.2 (52, 0, 1, 0) (by decide)]) kz) ?_
      refine jx_icmp_ge 123 d_M_worker_105 (by decide) (fun _ => ?_) (fun h => absurd (by first | (subst_vars; decide) | exact (sw_no t_22 h1 h2).elim) h)
      refine jx_of (fun _ _ kz => jw_iconst (-1) d_M_worker_123 (by decide) kz) ?_
      refine jx_iret d_M_worker_124 rfl ?_
      refine ⟨?_, rfl, rfl⟩; first | (subst_vars; rfl) | exact (sw_no t_22 h1 h2).elim
    · skip
      refine jx_of (fun _ _ kz => jw_tabIn 96 d_M_worker_22 (by rw [e_22]; decide) (by rw [e_22]; decide) (by rw [e_22]; rfl) (by decide) kz) ?_
      refine jx_of (fun _ _ kz => jw_iload_n 2 d_M_worker_96 rfl rfl kz) ?_
      refine jx_of (fun _ _ kz => jw_iconst 3 d_M_worker_97 (by decide) kz) ?_
      refine jx_of (fun _ _ kz => jw_isub d_M_worker_98 kz) ?_
      refine jx_of (fun _ _ kz => jw_aload_n 0 d_M_worker_99 rfl rfl kz) ?_
      refine jx_of (fun _ _ kz => jw_getPe (some (52, 0)) fl_M_77 d_M_worker_100 rfl rfl (by simp [me_I_sI, me_I_sP, me_I_nx, me_P_sI, me_P_sP, me_P_nx, me_N_sI, me_N_sP, me_N_nx, me_L_sI, me_L_sP, me_L_nx, show me_P M 7 0 23 = some (52, 0) from hm.1 (7, 0, 23, 52, 0) (by decide)]) kz) ?_
      refine jx_of (fun _ _ kz => jw_iload_n 1 d_M_worker_103 rfl rfl kz) ?_
      refine jx_of (fun _ _ kz => jw_ialde (0) d_M_worker_104 rfl rfl (by rw [show me_L _ 52 0 = 3 from (by simp [me_I_sI, me_I_sP, me_I_nx, me_P_sI, me_P_sP, me_P_nx, me_N_sI, me_N_sP, me_N_nx, me_L_sI, me_L_sP, me_L_nx, show me_L M 52 0 = 3 from hm.2.1 (52, 0, 3) (by decide)])]; unfold vp_in; decide) (by simp [me_I_sI, me_I_sP, me_I_nx, me_P_sI, me_P_sP, me_P_nx, me_N_sI, me_N_sP, me_N_nx, me_L_sI, me_L_sP, me_L_nx, show me_I M 52 0 1 = 0 from hm.2.2 (52, 0, 1, 0) (by decide)]) kz) ?_
      refine jx_icmp_ge 123 d_M_worker_105 (by decide) (fun _ => ?_) (fun h => absurd (by first | (subst_vars; decide) | exact (sw_no t_22 h1 h2).elim) h)
      refine jx_of (fun _ _ kz => jw_iconst (-1) d_M_worker_123 (by decide) kz) ?_
      refine jx_iret d_M_worker_124 rfl ?_
      refine ⟨?_, rfl, rfl⟩; first | (subst_vars; rfl) | exact (sw_no t_22 h1 h2).elim
    · skip
      refine jx_of (fun _ _ kz => jw_tabIn 89 d_M_worker_22 (by rw [e_22]; decide) (by rw [e_22]; decide) (by rw [e_22]; rfl) (by decide) kz) ?_
      refine jx_of (fun _ _ kz => jw_aload_n 0 d_M_worker_89 rfl rfl kz) ?_
      refine jx_of (fun _ _ kz => jw_getPe (some (50, 0)) fl_M_71 d_M_worker_90 rfl rfl (by simp [me_I_sI, me_I_sP, me_I_nx, me_P_sI, me_P_sP, me_P_nx, me_N_sI, me_N_sP, me_N_nx, me_L_sI, me_L_sP, me_L_nx, show me_P M 7 0 21 = some (50, 0) from hm.1 (7, 0, 21, 50, 0) (by decide)]) kz) ?_
      refine jx_of (fun _ _ kz => jw_iload_n 1 d_M_worker_93 rfl rfl kz) ?_
      refine jx_of (fun _ _ kz => jw_ialde (0) d_M_worker_94 rfl rfl (by rw [show me_L _ 50 0 = 3 from (by simp [me_I_sI, me_I_sP, me_I_nx, me_P_sI, me_P_sP, me_P_nx, me_N_sI, me_N_sP, me_N_nx, me_L_sI, me_L_sP, me_L_nx, show me_L M 50 0 = 3 from hm.2.1 (50, 0, 3) (by decide)])]; unfold vp_in; decide) (by simp [me_I_sI, me_I_sP, me_I_nx, me_P_sI, me_P_sP, me_P_nx, me_N_sI, me_N_sP, me_N_nx, me_L_sI, me_L_sP, me_L_nx, show me_I M 50 0 1 = 0 from hm.2.2 (50, 0, 1, 0) (by decide)]) kz) ?_
      refine jx_iret d_M_worker_95 rfl ?_
      refine ⟨?_, rfl, rfl⟩; first | (subst_vars; rfl) | exact (sw_no t_22 h1 h2).elim
set_option maxRecDepth 20000 in
set_option maxHeartbeats 4000000 in
theorem x_M_worker_1_x {G : Gt} {M : Me} (d : Nat) (y : Int32) (hm : mfr M) (h1 : y < 0 ∨ 7 < y) : sx G yt_M_worker yn_M_worker (d + 2) [.inr (some (7, 0)), .inl 1, .inl y] M (fun r M' => r = some (.inl (-1)) ∧ nC M M') := by
  refine sx_of (k := 0) (lc := [some (.inr (some (7, 0))), some (.inl 1), some (.inl y)]) mt_M_worker (Nat.le_of_ble_eq_true rfl) rfl ?_
  refine jx_of (fun _ _ kz => jw_iload_n 1 d_M_worker_0 rfl rfl kz) ?_
  refine jx_of (fun _ _ kz => jw_iconst 0 d_M_worker_1 (by decide) kz) ?_
  refine jx_of (fun _ _ kz => jw_iconst 2 d_M_worker_2 (by decide) kz) ?_
  refine jx_callS (x_M_is_t _ 1 0 2  (by decide) (by decide)) mt_M_is ml_M_93 sm_M_is d_M_worker_3 rfl rfl (Nat.le_of_ble_eq_true rfl) ?_
  rintro _ _ ⟨rfl, rfl⟩
  refine jx_eq (st2 := [.inl 1]) rfl rfl rfl ?_
  refine jx_if_eq 19 d_M_worker_6 (by decide) (fun h => absurd h (by decide)) (fun _ => ?_)
  refine jx_of (fun _ _ kz => jw_iload_n 2 d_M_worker_9 rfl rfl kz) ?_
  refine jx_of (fun _ _ kz => jw_iconst 0 d_M_worker_10 (by decide) kz) ?_
  refine jx_of (fun _ _ kz => jw_bipush 7 d_M_worker_11 (by decide) kz) ?_
  refine jx_callS (x_M_is_f _ y 0 7  h1) mt_M_is ml_M_93 sm_M_is d_M_worker_13 rfl rfl (Nat.le_of_ble_eq_true rfl) ?_
  rintro _ _ ⟨rfl, rfl⟩
  refine jx_eq (st2 := [.inl 0]) rfl rfl rfl ?_
  refine jx_if_ne 21 d_M_worker_16 (by decide) (fun h => absurd h (by decide)) (fun _ => ?_)
  refine jx_of (fun _ _ kz => jw_iconst (-1) d_M_worker_19 (by decide) kz) ?_
  refine jx_iret d_M_worker_20 rfl ?_
  exact ⟨rfl, rfl, rfl⟩
set_option maxRecDepth 20000 in
set_option maxHeartbeats 4000000 in
theorem x_M_worker_2 {G : Gt} {M : Me} (d : Nat) (y : Int32) (hm : mfr M) (h1 : ¬ y < 0) (h2 : ¬ 7 < y) : sx G yt_M_worker yn_M_worker (d + 2) [.inr (some (7, 0)), .inl 2, .inl y] M (fun r M' => r = some (.inl (if y = 0 then -1 else if y < 3 then 0 else if y < 7 then -1 else 0)) ∧ nC M M') := by
  refine sx_of (k := 0) (lc := [some (.inr (some (7, 0))), some (.inl 2), some (.inl y)]) mt_M_worker (Nat.le_of_ble_eq_true rfl) rfl ?_
  refine jx_of (fun _ _ kz => jw_iload_n 1 d_M_worker_0 rfl rfl kz) ?_
  refine jx_of (fun _ _ kz => jw_iconst 0 d_M_worker_1 (by decide) kz) ?_
  refine jx_of (fun _ _ kz => jw_iconst 2 d_M_worker_2 (by decide) kz) ?_
  refine jx_callS (x_M_is_t _ 2 0 2  (by decide) (by decide)) mt_M_is ml_M_93 sm_M_is d_M_worker_3 rfl rfl (Nat.le_of_ble_eq_true rfl) ?_
  rintro _ _ ⟨rfl, rfl⟩
  refine jx_eq (st2 := [.inl 1]) rfl rfl rfl ?_
  refine jx_if_eq 19 d_M_worker_6 (by decide) (fun h => absurd h (by decide)) (fun _ => ?_)
  refine jx_of (fun _ _ kz => jw_iload_n 2 d_M_worker_9 rfl rfl kz) ?_
  refine jx_of (fun _ _ kz => jw_iconst 0 d_M_worker_10 (by decide) kz) ?_
  refine jx_of (fun _ _ kz => jw_bipush 7 d_M_worker_11 (by decide) kz) ?_
  refine jx_callS (x_M_is_t _ y 0 7  h1 h2) mt_M_is ml_M_93 sm_M_is d_M_worker_13 rfl rfl (Nat.le_of_ble_eq_true rfl) ?_
  rintro _ _ ⟨rfl, rfl⟩
  refine jx_eq (st2 := [.inl 1]) rfl rfl rfl ?_
  refine jx_if_ne 21 d_M_worker_16 (by decide) (fun _ => ?_) (fun h => absurd h (by decide))
  refine jx_of (fun _ _ kz => jw_iload_n 2 d_M_worker_21 rfl rfl kz) ?_
  rcases sw_cases (y) 8 (by decide) with t_22 | t_22
  · skip
    refine jx_of (fun _ _ kz => jw_tabOut 96 d_M_worker_22 (by simpa using t_22) (by decide) kz) ?_
    refine jx_of (fun _ _ kz => jw_iload_n 2 d_M_worker_96 rfl rfl kz) ?_
    refine jx_of (fun _ _ kz => jw_iconst 3 d_M_worker_97 (by decide) kz) ?_
    refine jx_of (fun _ _ kz => jw_isub d_M_worker_98 kz) ?_
    refine jx_of (fun _ _ kz => jw_aload_n 0 d_M_worker_99 rfl rfl kz) ?_
    refine jx_of (fun _ _ kz => jw_getPe (some (52, 0)) fl_M_77 d_M_worker_100 rfl rfl (by simp [me_I_sI, me_I_sP, me_I_nx, me_P_sI, me_P_sP, me_P_nx, me_N_sI, me_N_sP, me_N_nx, me_L_sI, me_L_sP, me_L_nx, show me_P M 7 0 23 = some (52, 0) from hm.1 (7, 0, 23, 52, 0) (by decide)]) kz) ?_
    refine jx_of (fun _ _ kz => jw_iload_n 1 d_M_worker_103 rfl rfl kz) ?_
    refine jx_of (fun _ _ kz => jw_ialde (0) d_M_worker_104 rfl rfl (by rw [show me_L _ 52 0 = 3 from (by simp [me_I_sI, me_I_sP, me_I_nx, me_P_sI, me_P_sP, me_P_nx, me_N_sI, me_N_sP, me_N_nx, me_L_sI, me_L_sP, me_L_nx, show me_L M 52 0 = 3 from hm.2.1 (52, 0, 3) (by decide)])]; unfold vp_in; decide) (by simp [me_I_sI, me_I_sP, me_I_nx, me_P_sI, me_P_sP, me_P_nx, me_N_sI, me_N_sP, me_N_nx, me_L_sI, me_L_sP, me_L_nx, show me_I M 52 0 2 = 0 from hm.2.2 (52, 0, 2, 0) (by decide)]) kz) ?_
    refine jx_icmp_ge 123 d_M_worker_105 (by decide) (fun _ => ?_) (fun h => absurd (by first | (subst_vars; decide) | exact (sw_no t_22 h1 h2).elim) h)
    refine jx_of (fun _ _ kz => jw_iconst (-1) d_M_worker_123 (by decide) kz) ?_
    refine jx_iret d_M_worker_124 rfl ?_
    refine ⟨?_, rfl, rfl⟩; first | (subst_vars; rfl) | exact (sw_no t_22 h1 h2).elim
  · skip
    obtain ⟨j_22, t_22, e_22⟩ := t_22
    rcases (show j_22 = 0 ∨ j_22 = 1 ∨ j_22 = 2 ∨ j_22 = 3 ∨ j_22 = 4 ∨ j_22 = 5 ∨ j_22 = 6 ∨ j_22 = 7 by omega) with rfl | rfl | rfl | rfl | rfl | rfl | rfl | rfl
    · skip
      refine jx_of (fun _ _ kz => jw_tabIn 68 d_M_worker_22 (by rw [e_22]; decide) (by rw [e_22]; decide) (by rw [e_22]; rfl) (by decide) kz) ?_
      refine jx_of (fun _ _ kz => jw_aload_n 0 d_M_worker_68 rfl rfl kz) ?_
      refine jx_of (fun _ _ kz => jw_getPe (some (48, 0)) fl_M_65 d_M_worker_69 rfl rfl (by simp [me_I_sI, me_I_sP, me_I_nx, me_P_sI, me_P_sP, me_P_nx, me_N_sI, me_N_sP, me_N_nx, me_L_sI, me_L_sP, me_L_nx, show me_P M 7 0 19 = some (48, 0) from hm.1 (7, 0, 19, 48, 0) (by decide)]) kz) ?_
      refine jx_of (fun _ _ kz => jw_iload_n 1 d_M_worker_72 rfl rfl kz) ?_
      refine jx_of (fun _ _ kz => jw_ialde ((-1)) d_M_worker_73 rfl rfl (by rw [show me_L _ 48 0 = 3 from (by simp [me_I_sI, me_I_sP, me_I_nx, me_P_sI, me_P_sP, me_P_nx, me_N_sI, me_N_sP, me_N_nx, me_L_sI, me_L_sP, me_L_nx, show me_L M 48 0 = 3 from hm.2.1 (48, 0, 3) (by decide)])]; unfold vp_in; decide) (by simp [me_I_sI, me_I_sP, me_I_nx, me_P_sI, me_P_sP, me_P_nx, me_N_sI, me_N_sP, me_N_nx, me_L_sI, me_L_sP, me_L_nx, show me_I M 48 0 2 = (-1) from hm.2.2 (48, 0, 2, (-1)) (by decide)]) kz) ?_
      refine jx_iret d_M_worker_74 rfl ?_
      refine ⟨?_, rfl, rfl⟩; first | (subst_vars; rfl) | exact (sw_no t_22 h1 h2).elim
    · skip
      refine jx_of (fun _ _ kz => jw_tabIn 75 d_M_worker_22 (by rw [e_22]; decide) (by rw [e_22]; decide) (by rw [e_22]; rfl) (by decide) kz) ?_
      refine jx_of (fun _ _ kz => jw_aload_n 0 d_M_worker_75 rfl rfl kz) ?_
      refine jx_of (fun _ _ kz => jw_getPe (some (49, 0)) fl_M_68 d_M_worker_76 rfl rfl (by simp [me_I_sI, me_I_sP, me_I_nx, me_P_sI, me_P_sP, me_P_nx, me_N_sI, me_N_sP, me_N_nx, me_L_sI, me_L_sP, me_L_nx, show me_P M 7 0 20 = some (49, 0) from hm.1 (7, 0, 20, 49, 0) (by decide)]) kz) ?_
      refine jx_of (fun _ _ kz => jw_iload_n 1 d_M_worker_79 rfl rfl kz) ?_
      refine jx_of (fun _ _ kz => jw_ialde (0) d_M_worker_80 rfl rfl (by rw [show me_L _ 49 0 = 3 from (by simp [me_I_sI, me_I_sP, me_I_nx, me_P_sI, me_P_sP, me_P_nx, me_N_sI, me_N_sP, me_N_nx, me_L_sI, me_L_sP, me_L_nx, show me_L M 49 0 = 3 from hm.2.1 (49, 0, 3) (by decide)])]; unfold vp_in; decide) (by simp [me_I_sI, me_I_sP, me_I_nx, me_P_sI, me_P_sP, me_P_nx, me_N_sI, me_N_sP, me_N_nx, me_L_sI, me_L_sP, me_L_nx, show me_I M 49 0 2 = 0 from hm.2.2 (49, 0, 2, 0) (by decide)]) kz) ?_
      refine jx_iret d_M_worker_81 rfl ?_
      refine ⟨?_, rfl, rfl⟩; first | (subst_vars; rfl) | exact (sw_no t_22 h1 h2).elim
    · skip
      refine jx_of (fun _ _ kz => jw_tabIn 82 d_M_worker_22 (by rw [e_22]; decide) (by rw [e_22]; decide) (by rw [e_22]; rfl) (by decide) kz) ?_
      refine jx_of (fun _ _ kz => jw_aload_n 0 d_M_worker_82 rfl rfl kz) ?_
      refine jx_of (fun _ _ kz => jw_getPe (some (52, 0)) fl_M_77 d_M_worker_83 rfl rfl (by simp [me_I_sI, me_I_sP, me_I_nx, me_P_sI, me_P_sP, me_P_nx, me_N_sI, me_N_sP, me_N_nx, me_L_sI, me_L_sP, me_L_nx, show me_P M 7 0 23 = some (52, 0) from hm.1 (7, 0, 23, 52, 0) (by decide)]) kz) ?_
      refine jx_of (fun _ _ kz => jw_iload_n 1 d_M_worker_86 rfl rfl kz) ?_
      refine jx_of (fun _ _ kz => jw_ialde (0) d_M_worker_87 rfl rfl (by rw [show me_L _ 52 0 = 3 from (by simp [me_I_sI, me_I_sP, me_I_nx, me_P_sI, me_P_sP, me_P_nx, me_N_sI, me_N_sP, me_N_nx, me_L_sI, me_L_sP, me_L_nx, show me_L M 52 0 = 3 from hm.2.1 (52, 0, 3) (by decide)])]; unfold vp_in; decide) (by simp [me_I_sI, me_I_sP, me_I_nx, me_P_sI, me_P_sP, me_P_nx, me_N_sI, me_N_sP, me_N_nx, me_L_sI, me_L_sP, me_L_nx, show me_I M 52 0 2 = 0 from hm.2.2 (52, 0, 2, 0) (by decide)]) kz) ?_
      refine jx_iret d_M_worker_88 rfl ?_
      refine ⟨?_, rfl, rfl⟩; first | (subst_vars; rfl) | exact (sw_no t_22 h1 h2).elim
    · skip
      refine jx_of (fun _ _ kz => jw_tabIn 96 d_M_worker_22 (by rw [e_22]; decide) (by rw [e_22]; decide) (by rw [e_22]; rfl) (by decide) kz) ?_
      refine jx_of (fun _ _ kz => jw_iload_n 2 d_M_worker_96 rfl rfl kz) ?_
      refine jx_of (fun _ _ kz => jw_iconst 3 d_M_worker_97 (by decide) kz) ?_
      refine jx_of (fun _ _ kz => jw_isub d_M_worker_98 kz) ?_
      refine jx_of (fun _ _ kz => jw_aload_n 0 d_M_worker_99 rfl rfl kz) ?_
      refine jx_of (fun _ _ kz => jw_getPe (some (52, 0)) fl_M_77 d_M_worker_100 rfl rfl (by simp [me_I_sI, me_I_sP, me_I_nx, me_P_sI, me_P_sP, me_P_nx, me_N_sI, me_N_sP, me_N_nx, me_L_sI, me_L_sP, me_L_nx, show me_P M 7 0 23 = some (52, 0) from hm.1 (7, 0, 23, 52, 0) (by decide)]) kz) ?_
      refine jx_of (fun _ _ kz => jw_iload_n 1 d_M_worker_103 rfl rfl kz) ?_
      refine jx_of (fun _ _ kz => jw_ialde (0) d_M_worker_104 rfl rfl (by rw [show me_L _ 52 0 = 3 from (by simp [me_I_sI, me_I_sP, me_I_nx, me_P_sI, me_P_sP, me_P_nx, me_N_sI, me_N_sP, me_N_nx, me_L_sI, me_L_sP, me_L_nx, show me_L M 52 0 = 3 from hm.2.1 (52, 0, 3) (by decide)])]; unfold vp_in; decide) (by simp [me_I_sI, me_I_sP, me_I_nx, me_P_sI, me_P_sP, me_P_nx, me_N_sI, me_N_sP, me_N_nx, me_L_sI, me_L_sP, me_L_nx, show me_I M 52 0 2 = 0 from hm.2.2 (52, 0, 2, 0) (by decide)]) kz) ?_
      refine jx_icmp_ge 123 d_M_worker_105 (by decide) (fun _ => ?_) (fun h => absurd (by first | (subst_vars; decide) | exact (sw_no t_22 h1 h2).elim) h)
      refine jx_of (fun _ _ kz => jw_iconst (-1) d_M_worker_123 (by decide) kz) ?_
      refine jx_iret d_M_worker_124 rfl ?_
      refine ⟨?_, rfl, rfl⟩; first | (subst_vars; rfl) | exact (sw_no t_22 h1 h2).elim
    · skip
      refine jx_of (fun _ _ kz => jw_tabIn 96 d_M_worker_22 (by rw [e_22]; decide) (by rw [e_22]; decide) (by rw [e_22]; rfl) (by decide) kz) ?_
      refine jx_of (fun _ _ kz => jw_iload_n 2 d_M_worker_96 rfl rfl kz) ?_
      refine jx_of (fun _ _ kz => jw_iconst 3 d_M_worker_97 (by decide) kz) ?_
      refine jx_of (fun _ _ kz => jw_isub d_M_worker_98 kz) ?_
      refine jx_of (fun _ _ kz => jw_aload_n 0 d_M_worker_99 rfl rfl kz) ?_
      refine jx_of (fun _ _ kz => jw_getPe (some (52, 0)) fl_M_77 d_M_worker_100 rfl rfl (by simp [me_I_sI, me_I_sP, me_I_nx, me_P_sI, me_P_sP, me_P_nx, me_N_sI, me_N_sP, me_N_nx, me_L_sI, me_L_sP, me_L_nx, show me_P M 7 0 23 = some (52, 0) from hm.1 (7, 0, 23, 52, 0) (by decide)]) kz) ?_
      refine jx_of (fun _ _ kz => jw_iload_n 1 d_M_worker_103 rfl rfl kz) ?_
      refine jx_of (fun _ _ kz => jw_ialde (0) d_M_worker_104 rfl rfl (by rw [show me_L _ 52 0 = 3 from (by simp [me_I_sI, me_I_sP, me_I_nx, me_P_sI, me_P_sP, me_P_nx, me_N_sI, me_N_sP, me_N_nx, me_L_sI, me_L_sP, me_L_nx, show me_L M 52 0 = 3 from hm.2.1 (52, 0, 3) (by decide)])]; unfold vp_in; decide) (by simp [me_I_sI, me_I_sP, me_I_nx, me_P_sI, me_P_sP, me_P_nx, me_N_sI, me_N_sP, me_N_nx, me_L_sI, me_L_sP, me_L_nx, show me_I M 52 0 2 = 0 from hm.2.2 (52, 0, 2, 0) (by decide)]) kz) ?_
      refine jx_icmp_ge 123 d_M_worker_105 (by decide) (fun _ => ?_) (fun h => absurd (by first | (subst_vars; decide) | exact (sw_no t_22 h1 h2).elim) h)
      refine jx_of (fun _ _ kz => jw_iconst (-1) d_M_worker_123 (by decide) kz) ?_
      refine jx_iret d_M_worker_124 rfl ?_
      refine ⟨?_, rfl, rfl⟩; first | (subst_vars; rfl) | exact (sw_no t_22 h1 h2).elim
    · skip
      refine jx_of (fun _ _ kz => jw_tabIn 96 d_M_worker_22 (by rw [e_22]; decide) (by rw [e_22]; decide) (by rw [e_22]; rfl) (by decide) kz) ?_
      refine jx_of (fun _ _ kz => jw_iload_n 2 d_M_worker_96 rfl rfl kz) ?_
      refine jx_of (fun _ _ kz => jw_iconst 3 d_M_worker_97 (by decide) kz) ?_
      refine jx_of (fun _ _ kz => jw_isub d_M_worker_98 kz) ?_
      refine jx_of (fun _ _ kz => jw_aload_n 0 d_M_worker_99 rfl rfl kz) ?_
      refine jx_of (fun _ _ kz => jw_getPe (some (52, 0)) fl_M_77 d_M_worker_100 rfl rfl (by simp [me_I_sI, me_I_sP, me_I_nx, me_P_sI, me_P_sP, me_P_nx, me_N_sI, me_N_sP, me_N_nx, me_L_sI, me_L_sP, me_L_nx, show me_P M 7 0 23 = some (52, 0) from hm.1 (7, 0, 23, 52, 0) (by decide)]) kz) ?_
      refine jx_of (fun _ _ kz => jw_iload_n 1 d_M_worker_103 rfl rfl kz) ?_
      refine jx_of (fun _ _ kz => jw_ialde (0) d_M_worker_104 rfl rfl (by rw [show me_L _ 52 0 = 3 from (by simp [me_I_sI, me_I_sP, me_I_nx, me_P_sI, me_P_sP, me_P_nx, me_N_sI, me_N_sP, me_N_nx, me_L_sI, me_L_sP, me_L_nx, show me_L M 52 0 = 3 from hm.2.1 (52, 0, 3) (by decide)])]; unfold vp_in; decide) (by simp [me_I_sI, me_I_sP, me_I_nx, me_P_sI, me_P_sP, me_P_nx, me_N_sI, me_N_sP, me_N_nx, me_L_sI, me_L_sP, me_L_nx, show me_I M 52 0 2 = 0 from hm.2.2 (52, 0, 2, 0) (by decide)]) kz) ?_
      refine jx_icmp_ge 123 d_M_worker_105 (by decide) (fun _ => ?_) (fun h => absurd (by first | (subst_vars; decide) | exact (sw_no t_22 h1 h2).elim) h)
      refine jx_of (fun _ _ kz => jw_iconst (-1) d_M_worker_123 (by decide) kz) ?_
      refine jx_iret d_M_worker_124 rfl ?_
      refine ⟨?_, rfl, rfl⟩; first | (subst_vars; rfl) | exact (sw_no t_22 h1 h2).elim
    · skip
      refine jx_of (fun _ _ kz => jw_tabIn 96 d_M_worker_22 (by rw [e_22]; decide) (by rw [e_22]; decide) (by rw [e_22]; rfl) (by decide) kz) ?_
      refine jx_of (fun _ _ kz => jw_iload_n 2 d_M_worker_96 rfl rfl kz) ?_
      refine jx_of (fun _ _ kz => jw_iconst 3 d_M_worker_97 (by decide) kz) ?_
      refine jx_of (fun _ _ kz => jw_isub d_M_worker_98 kz) ?_
      refine jx_of (fun _ _ kz => jw_aload_n 0 d_M_worker_99 rfl rfl kz) ?_
      refine jx_of (fun _ _ kz => jw_getPe (some (52, 0)) fl_M_77 d_M_worker_100 rfl rfl (by simp [me_I_sI, me_I_sP, me_I_nx, me_P_sI, me_P_sP, me_P_nx, me_N_sI, me_N_sP, me_N_nx, me_L_sI, me_L_sP, me_L_nx, show me_P M 7 0 23 = some (52, 0) from hm.1 (7, 0, 23, 52, 0) (by decide)]) kz) ?_
      refine jx_of (fun _ _ kz => jw_iload_n 1 d_M_worker_103 rfl rfl kz) ?_
      refine jx_of (fun _ _ kz => jw_ialde (0) d_M_worker_104 rfl rfl (by rw [show me_L _ 52 0 = 3 from (by simp [me_I_sI, me_I_sP, me_I_nx, me_P_sI, me_P_sP, me_P_nx, me_N_sI, me_N_sP, me_N_nx, me_L_sI, me_L_sP, me_L_nx, show me_L M 52 0 = 3 from hm.2.1 (52, 0, 3) (by decide)])]; unfold vp_in; decide) (by simp [me_I_sI, me_I_sP, me_I_nx, me_P_sI, me_P_sP, me_P_nx, me_N_sI, me_N_sP, me_N_nx, me_L_sI, me_L_sP, me_L_nx, show me_I M 52 0 2 = 0 from hm.2.2 (52, 0, 2, 0) (by decide)]) kz) ?_
      refine jx_icmp_ge 123 d_M_worker_105 (by decide) (fun _ => ?_) (fun h => absurd (by first | (subst_vars; decide) | exact (sw_no t_22 h1 h2).elim) h)
      refine jx_of (fun _ _ kz => jw_iconst (-1) d_M_worker_123 (by decide) kz) ?_
      refine jx_iret d_M_worker_124 rfl ?_
      refine ⟨?_, rfl, rfl⟩; first | (subst_vars; rfl) | exact (sw_no t_22 h1 h2).elim
    · skip
      refine jx_of (fun _ _ kz => jw_tabIn 89 d_M_worker_22 (by rw [e_22]; decide) (by rw [e_22]; decide) (by rw [e_22]; rfl) (by decide) kz) ?_
      refine jx_of (fun _ _ kz => jw_aload_n 0 d_M_worker_89 rfl rfl kz) ?_
      refine jx_of (fun _ _ kz => jw_getPe (some (50, 0)) fl_M_71 d_M_worker_90 rfl rfl (by simp [me_I_sI, me_I_sP, me_I_nx, me_P_sI, me_P_sP, me_P_nx, me_N_sI, me_N_sP, me_N_nx, me_L_sI, me_L_sP, me_L_nx, show me_P M 7 0 21 = some (50, 0) from hm.1 (7, 0, 21, 50, 0) (by decide)]) kz) ?_
      refine jx_of (fun _ _ kz => jw_iload_n 1 d_M_worker_93 rfl rfl kz) ?_
      refine jx_of (fun _ _ kz => jw_ialde (0) d_M_worker_94 rfl rfl (by rw [show me_L _ 50 0 = 3 from (by simp [me_I_sI, me_I_sP, me_I_nx, me_P_sI, me_P_sP, me_P_nx, me_N_sI, me_N_sP, me_N_nx, me_L_sI, me_L_sP, me_L_nx, show me_L M 50 0 = 3 from hm.2.1 (50, 0, 3) (by decide)])]; unfold vp_in; decide) (by simp [me_I_sI, me_I_sP, me_I_nx, me_P_sI, me_P_sP, me_P_nx, me_N_sI, me_N_sP, me_N_nx, me_L_sI, me_L_sP, me_L_nx, show me_I M 50 0 2 = 0 from hm.2.2 (50, 0, 2, 0) (by decide)]) kz) ?_
      refine jx_iret d_M_worker_95 rfl ?_
      refine ⟨?_, rfl, rfl⟩; first | (subst_vars; rfl) | exact (sw_no t_22 h1 h2).elim
set_option maxRecDepth 20000 in
set_option maxHeartbeats 4000000 in
theorem x_M_worker_2_x {G : Gt} {M : Me} (d : Nat) (y : Int32) (hm : mfr M) (h1 : y < 0 ∨ 7 < y) : sx G yt_M_worker yn_M_worker (d + 2) [.inr (some (7, 0)), .inl 2, .inl y] M (fun r M' => r = some (.inl (-1)) ∧ nC M M') := by
  refine sx_of (k := 0) (lc := [some (.inr (some (7, 0))), some (.inl 2), some (.inl y)]) mt_M_worker (Nat.le_of_ble_eq_true rfl) rfl ?_
  refine jx_of (fun _ _ kz => jw_iload_n 1 d_M_worker_0 rfl rfl kz) ?_
  refine jx_of (fun _ _ kz => jw_iconst 0 d_M_worker_1 (by decide) kz) ?_
  refine jx_of (fun _ _ kz => jw_iconst 2 d_M_worker_2 (by decide) kz) ?_
  refine jx_callS (x_M_is_t _ 2 0 2  (by decide) (by decide)) mt_M_is ml_M_93 sm_M_is d_M_worker_3 rfl rfl (Nat.le_of_ble_eq_true rfl) ?_
  rintro _ _ ⟨rfl, rfl⟩
  refine jx_eq (st2 := [.inl 1]) rfl rfl rfl ?_
  refine jx_if_eq 19 d_M_worker_6 (by decide) (fun h => absurd h (by decide)) (fun _ => ?_)
  refine jx_of (fun _ _ kz => jw_iload_n 2 d_M_worker_9 rfl rfl kz) ?_
  refine jx_of (fun _ _ kz => jw_iconst 0 d_M_worker_10 (by decide) kz) ?_
  refine jx_of (fun _ _ kz => jw_bipush 7 d_M_worker_11 (by decide) kz) ?_
  refine jx_callS (x_M_is_f _ y 0 7  h1) mt_M_is ml_M_93 sm_M_is d_M_worker_13 rfl rfl (Nat.le_of_ble_eq_true rfl) ?_
  rintro _ _ ⟨rfl, rfl⟩
  refine jx_eq (st2 := [.inl 0]) rfl rfl rfl ?_
  refine jx_if_ne 21 d_M_worker_16 (by decide) (fun h => absurd h (by decide)) (fun _ => ?_)
  refine jx_of (fun _ _ kz => jw_iconst (-1) d_M_worker_19 (by decide) kz) ?_
  refine jx_iret d_M_worker_20 rfl ?_
  exact ⟨rfl, rfl, rfl⟩
set_option maxRecDepth 20000 in
set_option maxHeartbeats 4000000 in
theorem x_M_worker_x {G : Gt} {M : Me} (d : Nat) (x : Int32) (y : Int32) (hm : mfr M) (h1 : x < 0 ∨ 2 < x) : sx G yt_M_worker yn_M_worker (d + 2) [.inr (some (7, 0)), .inl x, .inl y] M (fun r M' => r = some (.inl (-1)) ∧ nC M M') := by
  refine sx_of (k := 0) (lc := [some (.inr (some (7, 0))), some (.inl x), some (.inl y)]) mt_M_worker (Nat.le_of_ble_eq_true rfl) rfl ?_
  refine jx_of (fun _ _ kz => jw_iload_n 1 d_M_worker_0 rfl rfl kz) ?_
  refine jx_of (fun _ _ kz => jw_iconst 0 d_M_worker_1 (by decide) kz) ?_
  refine jx_of (fun _ _ kz => jw_iconst 2 d_M_worker_2 (by decide) kz) ?_
  refine jx_callS (x_M_is_f _ x 0 2  h1) mt_M_is ml_M_93 sm_M_is d_M_worker_3 rfl rfl (Nat.le_of_ble_eq_true rfl) ?_
  rintro _ _ ⟨rfl, rfl⟩
  refine jx_eq (st2 := [.inl 0]) rfl rfl rfl ?_
  refine jx_if_eq 19 d_M_worker_6 (by decide) (fun _ => ?_) (fun h => absurd h (by decide))
  refine jx_of (fun _ _ kz => jw_iconst (-1) d_M_worker_19 (by decide) kz) ?_
  refine jx_iret d_M_worker_20 rfl ?_
  exact ⟨rfl, rfl, rfl⟩
set_option maxRecDepth 20000 in
set_option maxHeartbeats 4000000 in
theorem x_M_count {G : Gt} {M : Me} (d : Nat) (x : Int32) (hm : mfr M) : sx G yt_M_count yn_M_count (d + 2) [.inr (some (7, 0)), .inl x] M (fun r M' => r = some (.inl (if x < 0 then -1 else if 8 ≤ x then -1 else 0)) ∧ nC M M') := by
  refine sx_of (k := 2) (lc := [some (.inr (some (7, 0))), some (.inl x), none, none]) mt_M_count (Nat.le_of_ble_eq_true rfl) rfl ?_
  refine jx_of (fun _ _ kz => jw_iconst 0 d_M_count_0 (by decide) kz) ?_
  refine jx_of (fun _ _ kz => jw_istore_n 2 d_M_count_1 rfl (Nat.le_of_ble_eq_true rfl) kz) ?_
  dsimp only [List.set]
  refine jx_of (fun _ _ kz => jw_iload_n 1 d_M_count_2 rfl rfl kz) ?_
  rcases sw_cases (x) 8 (by decide) with t_3 | t_3
  · skip
    refine jx_of (fun _ _ kz => jw_tabOut 121 d_M_count_3 (by simpa using t_3) (by decide) kz) ?_
    refine jx_of (fun _ _ kz => jw_iconst (-1) d_M_count_121 (by decide) kz) ?_
    refine jx_iret d_M_count_122 rfl ?_
    refine ⟨?_, rfl, rfl⟩; first | (subst_vars; decide) | (rw [sw_res (sw_out t_3 (c := 8) (by decide))])
  · skip
    obtain ⟨j_3, t_3, e_3⟩ := t_3
    rcases (show j_3 = 0 ∨ j_3 = 1 ∨ j_3 = 2 ∨ j_3 = 3 ∨ j_3 = 4 ∨ j_3 = 5 ∨ j_3 = 6 ∨ j_3 = 7 by omega) with rfl | rfl | rfl | rfl | rfl | rfl | rfl | rfl
    · skip
      refine jx_of (fun _ _ kz => jw_tabIn 48 d_M_count_3 (by rw [e_3]; decide) (by rw [e_3]; decide) (by rw [e_3]; rfl) (by decide) kz) ?_
      refine jx_of (fun _ _ kz => jw_aload_n 0 d_M_count_48 rfl rfl kz) ?_
      refine jx_of (fun _ _ kz => jw_getIe (0) fl_M_105 d_M_count_49 rfl rfl (by simp [me_I_sI, me_I_sP, me_I_nx, me_P_sI, me_P_sP, me_P_nx, me_N_sI, me_N_sP, me_N_nx, me_L_sI, me_L_sP, me_L_nx, show me_I M 7 0 3 = 0 from hm.2.2 (7, 0, 3, 0) (by decide)]) kz) ?_
      refine jx_iret d_M_count_52 rfl ?_
      refine ⟨?_, rfl, rfl⟩; first | (subst_vars; decide) | (rw [sw_res (sw_out t_3 (c := 8) (by decide))])
    · skip
      refine jx_of (fun _ _ kz => jw_tabIn 53 d_M_count_3 (by rw [e_3]; decide) (by rw [e_3]; decide) (by rw [e_3]; rfl) (by decide) kz) ?_
      refine jx_of (fun _ _ kz => jw_aload_n 0 d_M_count_53 rfl rfl kz) ?_
      refine jx_of (fun _ _ kz => jw_getIe (0) fl_M_112 d_M_count_54 rfl rfl (by simp [me_I_sI, me_I_sP, me_I_nx, me_P_sI, me_P_sP, me_P_nx, me_N_sI, me_N_sP, me_N_nx, me_L_sI, me_L_sP, me_L_nx, show me_I M 7 0 27 = 0 from hm.2.2 (7, 0, 27, 0) (by decide)]) kz) ?_
      refine jx_iret d_M_count_57 rfl ?_
      refine ⟨?_, rfl, rfl⟩; first | (subst_vars; decide) | (rw [sw_res (sw_out t_3 (c := 8) (by decide))])
    · skip
      refine jx_of (fun _ _ kz => jw_tabIn 58 d_M_count_3 (by rw [e_3]; decide) (by rw [e_3]; decide) (by rw [e_3]; rfl) (by decide) kz) ?_
      refine jx_of (fun _ _ kz => jw_iconst 0 d_M_count_58 (by decide) kz) ?_
      refine jx_of (fun _ _ kz => jw_istore_n 3 d_M_count_59 rfl (Nat.le_of_ble_eq_true rfl) kz) ?_
      dsimp only [List.set]
      refine jx_of (fun _ _ kz => jw_iload_n 3 d_M_count_60 rfl rfl kz) ?_
      refine jx_of (fun _ _ kz => jw_aload_n 0 d_M_count_61 rfl rfl kz) ?_
      refine jx_of (fun _ _ kz => jw_getIe (0) fl_M_112 d_M_count_62 rfl rfl (by simp [me_I_sI, me_I_sP, me_I_nx, me_P_sI, me_P_sP, me_P_nx, me_N_sI, me_N_sP, me_N_nx, me_L_sI, me_L_sP, me_L_nx, show me_I M 7 0 27 = 0 from hm.2.2 (7, 0, 27, 0) (by decide)]) kz) ?_
      refine jx_icmp_ge 91 d_M_count_65 (by decide) (fun _ => ?_) (fun h => absurd h (by decide))
      refine jx_of (fun _ _ kz => jw_iload_n 2 d_M_count_91 rfl rfl kz) ?_
      refine jx_iret d_M_count_92 rfl ?_
      refine ⟨?_, rfl, rfl⟩; first | (subst_vars; decide) | (rw [sw_res (sw_out t_3 (c := 8) (by decide))])
    · skip
      refine jx_of (fun _ _ kz => jw_tabIn 93 d_M_count_3 (by rw [e_3]; decide) (by rw [e_3]; decide) (by rw [e_3]; rfl) (by decide) kz) ?_
      refine jx_of (fun _ _ kz => jw_aload_n 0 d_M_count_93 rfl rfl kz) ?_
      refine jx_of (fun _ _ kz => jw_getIe (0) fl_M_162 d_M_count_94 rfl rfl (by simp [me_I_sI, me_I_sP, me_I_nx, me_P_sI, me_P_sP, me_P_nx, me_N_sI, me_N_sP, me_N_nx, me_L_sI, me_L_sP, me_L_nx, show me_I M 7 0 29 = 0 from hm.2.2 (7, 0, 29, 0) (by decide)]) kz) ?_
      refine jx_iret d_M_count_97 rfl ?_
      refine ⟨?_, rfl, rfl⟩; first | (subst_vars; decide) | (rw [sw_res (sw_out t_3 (c := 8) (by decide))])
    · skip
      refine jx_of (fun _ _ kz => jw_tabIn 98 d_M_count_3 (by rw [e_3]; decide) (by rw [e_3]; decide) (by rw [e_3]; rfl) (by decide) kz) ?_
      refine jx_of (fun _ _ kz => jw_aload_n 0 d_M_count_98 rfl rfl kz) ?_
      refine jx_of (fun _ _ kz => jw_getIe (0) fl_M_195 d_M_count_99 rfl rfl (by simp [me_I_sI, me_I_sP, me_I_nx, me_P_sI, me_P_sP, me_P_nx, me_N_sI, me_N_sP, me_N_nx, me_L_sI, me_L_sP, me_L_nx, show me_I M 7 0 30 = 0 from hm.2.2 (7, 0, 30, 0) (by decide)]) kz) ?_
      refine jx_iret d_M_count_102 rfl ?_
      refine ⟨?_, rfl, rfl⟩; first | (subst_vars; decide) | (rw [sw_res (sw_out t_3 (c := 8) (by decide))])
    · skip
      refine jx_of (fun _ _ kz => jw_tabIn 103 d_M_count_3 (by rw [e_3]; decide) (by rw [e_3]; decide) (by rw [e_3]; rfl) (by decide) kz) ?_
      refine jx_of (fun _ _ kz => jw_aload_n 0 d_M_count_103 rfl rfl kz) ?_
      refine jx_of (fun _ _ kz => jw_getIe (0) fl_M_119 d_M_count_104 rfl rfl (by simp [me_I_sI, me_I_sP, me_I_nx, me_P_sI, me_P_sP, me_P_nx, me_N_sI, me_N_sP, me_N_nx, me_L_sI, me_L_sP, me_L_nx, show me_I M 7 0 28 = 0 from hm.2.2 (7, 0, 28, 0) (by decide)]) kz) ?_
      refine jx_iret d_M_count_107 rfl ?_
      refine ⟨?_, rfl, rfl⟩; first | (subst_vars; decide) | (rw [sw_res (sw_out t_3 (c := 8) (by decide))])
    · skip
      refine jx_of (fun _ _ kz => jw_tabIn 108 d_M_count_3 (by rw [e_3]; decide) (by rw [e_3]; decide) (by rw [e_3]; rfl) (by decide) kz) ?_
      refine jx_of (fun _ _ kz => jw_aload_n 0 d_M_count_108 rfl rfl kz) ?_
      refine jx_of (fun _ _ kz => jw_getIe (0) fl_M_211 d_M_count_109 rfl rfl (by simp [me_I_sI, me_I_sP, me_I_nx, me_P_sI, me_P_sP, me_P_nx, me_N_sI, me_N_sP, me_N_nx, me_L_sI, me_L_sP, me_L_nx, show me_I M 7 0 31 = 0 from hm.2.2 (7, 0, 31, 0) (by decide)]) kz) ?_
      refine jx_iret d_M_count_112 rfl ?_
      refine ⟨?_, rfl, rfl⟩; first | (subst_vars; decide) | (rw [sw_res (sw_out t_3 (c := 8) (by decide))])
    · skip
      refine jx_of (fun _ _ kz => jw_tabIn 113 d_M_count_3 (by rw [e_3]; decide) (by rw [e_3]; decide) (by rw [e_3]; rfl) (by decide) kz) ?_
      refine jx_of (fun _ _ kz => jw_aload_n 0 d_M_count_113 rfl rfl kz) ?_
      refine jx_of (fun _ _ kz => jw_getPe (some (32, 0)) fl_M_16 d_M_count_114 rfl rfl (by simp [me_I_sI, me_I_sP, me_I_nx, me_P_sI, me_P_sP, me_P_nx, me_N_sI, me_N_sP, me_N_nx, me_L_sI, me_L_sP, me_L_nx, show me_P M 7 0 2 = some (32, 0) from hm.1 (7, 0, 2, 32, 0) (by decide)]) kz) ?_
      refine jx_of (fun _ _ kz => jw_bipush 6 d_M_count_117 (by decide) kz) ?_
      refine jx_of (fun _ _ kz => jw_ialde (0) d_M_count_119 rfl rfl (by rw [show me_L _ 32 0 = 7 from (by simp [me_I_sI, me_I_sP, me_I_nx, me_P_sI, me_P_sP, me_P_nx, me_N_sI, me_N_sP, me_N_nx, me_L_sI, me_L_sP, me_L_nx, show me_L M 32 0 = 7 from hm.2.1 (32, 0, 7) (by decide)])]; unfold vp_in; decide) (by simp [me_I_sI, me_I_sP, me_I_nx, me_P_sI, me_P_sP, me_P_nx, me_N_sI, me_N_sP, me_N_nx, me_L_sI, me_L_sP, me_L_nx, show me_I M 32 0 6 = 0 from hm.2.2 (32, 0, 6, 0) (by decide)]) kz) ?_
      refine jx_iret d_M_count_120 rfl ?_
      refine ⟨?_, rfl, rfl⟩; first | (subst_vars; decide) | (rw [sw_res (sw_out t_3 (c := 8) (by decide))])
