def ci_I : List (Nat × Nat × Nat × Int32) := [(0, 0, 4, 0), (3, 0, 0, 0), (3, 0, 2, (-1)), (3, 0, 4, 0), (3, 1, 0, 1), (3, 1, 2, (-1)), (3, 1, 4, 0), (3, 2, 0, 2), (3, 2, 2, (-1)), (3, 2, 4, 0), (4, 0, 1, 0), (4, 1, 1, 0), (4, 2, 1, 0), (4, 3, 1, 0), (4, 4, 1, 0), (4, 5, 1, 0), (4, 6, 1, 0), (4, 7, 1, 0), (4, 8, 1, 0)]
def cid (M : Me) : Prop := (∀ q ∈ cq_P, me_P M q.1 q.2.1 q.2.2.1 = some (q.2.2.2.1, q.2.2.2.2)) ∧ (∀ q ∈ cq_L, me_L M q.1 q.2.1 = q.2.2) ∧ (∀ q ∈ ci_I, me_I M q.1 q.2.1 q.2.2.1 = q.2.2.2)
theorem cid_sI {M : Me} {s i k : Nat} {v : Int32} (h : cid M) (hn : ∀ q ∈ ci_I, (q.1 = s ∧ q.2.1 = i ∧ q.2.2.1 = k) → q.2.2.2 = v) : cid (me_sI M s i k v) := by
  refine ⟨h.1, h.2.1, fun q hq => ?_⟩
  rw [me_I_sI]
  split
  · rename_i e; exact (hn q hq e).symm
  · exact h.2.2 q hq
theorem cid_sN {M : Me} {s i k : Nat} {v : Int32} (h : cid M) (hn : ∀ q ∈ ci_I, ¬ (q.1 = s ∧ q.2.1 = i ∧ q.2.2.1 = k)) : cid (me_sI M s i k v) := cid_sI h (fun q hq e => absurd e (hn q hq))
theorem cid_of {M : Me} (h : cfr M) : cid M := ⟨h.1, h.2.1, fun q hq => h.2.2 q ((by decide : ∀ q ∈ ci_I, q ∈ cq_I) q hq)⟩
set_option maxRecDepth 20000 in
set_option maxHeartbeats 4000000 in
theorem x_Y_taskAt2 {G : Gt} {M : Me} (d : Nat) (x : Int32) (f0 : me_I M 0 0 4 = 0) : sx G yt_Y_taskAt yn_Y_taskAt (d + 1) [.inr (some (0, 0)), .inl x] M (fun r M' => r = some (.inr none) ∧ M = M') := by
  refine sx_of (k := 0) (lc := [some (.inr (some (0, 0))), some (.inl x)]) mt_Y_taskAt (Nat.le_of_ble_eq_true rfl) rfl ?_
  refine jx_of (fun _ _ kz => jw_iload_n 1 d_Y_taskAt_0 rfl rfl kz) ?_
  refine jx_if_lt 18 d_Y_taskAt_1 (by decide) (fun b_1 => ?_) (fun b_1 => ?_)
  · skip
    refine jx_of (fun _ _ kz => jw_null d_Y_taskAt_18 kz) ?_
    refine jx_of (fun _ _ kz => jw_goto 28 d_Y_taskAt_19 (by decide) kz) ?_
    refine jx_aret d_Y_taskAt_28 rfl ?_
    first | exact ⟨rfl, rfl⟩ | exact ⟨by simp [b_1], rfl⟩ | exact ⟨by simp_all, by simp_all⟩
  · skip
    refine jx_of (fun _ _ kz => jw_iload_n 1 d_Y_taskAt_4 rfl rfl kz) ?_
    refine jx_of (fun _ _ kz => jw_aload_n 0 d_Y_taskAt_5 rfl rfl kz) ?_
    refine jx_of (fun _ _ kz => jw_getIe (0) fl_Y_30 d_Y_taskAt_6 rfl rfl (by simp [me_I_sI, me_I_sP, me_I_nx, me_P_sI, me_P_sP, me_P_nx, me_N_sI, me_N_sP, me_N_nx, me_L_sI, me_L_sP, me_L_nx, f0]) kz) ?_
    refine jx_icmp_ge 18 d_Y_taskAt_9 (by decide) (fun _ => ?_) (fun h => absurd (Int32.not_lt.mp b_1) h)
    refine jx_of (fun _ _ kz => jw_null d_Y_taskAt_18 kz) ?_
    refine jx_of (fun _ _ kz => jw_goto 28 d_Y_taskAt_19 (by decide) kz) ?_
    refine jx_aret d_Y_taskAt_28 rfl ?_
    first | exact ⟨rfl, rfl⟩ | exact ⟨by simp [b_1], rfl⟩ | exact ⟨by simp_all, by simp_all⟩
set_option maxRecDepth 20000 in
set_option maxHeartbeats 4000000 in
theorem x_Y_steal_0 {G : Gt} {M : Me} (d : Nat) (f0 : me_P M 0 0 5 = (some (19, 0))) (f1 : me_L M 19 0 = 3) (f2 : me_P M 19 0 0 = (some (3, 0))) (f3 : me_P M 19 0 1 = (some (3, 1))) (f4 : me_P M 19 0 2 = (some (3, 2))) (f5 : me_P M 3 0 1 = (some (4, 0))) (f6 : me_P M 3 1 1 = (some (4, 1))) (f7 : me_P M 3 2 1 = (some (4, 2))) (f8 : me_I M 4 0 1 = 0) (f9 : me_I M 4 1 1 = 0) (f10 : me_I M 4 2 1 = 0) (f11 : me_I M 3 0 0 = 0) : sx G yt_Y_steal yn_Y_steal (d + 2) [.inr (some (0, 0)), .inr (some (3, 0))] M (fun r M' => r = some (.inl ((-1))) ∧ M = M') := by
  refine sx_of (k := 5) (lc := [some (.inr (some (0, 0))), some (.inr (some (3, 0))), none, none, none, none, none]) mt_Y_steal (Nat.le_of_ble_eq_true rfl) rfl ?_
  refine jx_of (fun _ _ kz => jw_iconst 1 d_Y_steal_0 (by decide) kz) ?_
  refine jx_of (fun _ _ kz => jw_istore_n 2 d_Y_steal_1 rfl (Nat.le_of_ble_eq_true rfl) kz) ?_
  dsimp only [List.set]
  refine jx_of (fun _ _ kz => jw_iload_n 2 d_Y_steal_2 rfl rfl kz) ?_
  refine jx_of (fun _ _ kz => jw_iconst 3 d_Y_steal_3 (by decide) kz) ?_
  refine jx_icmp_ge 95 d_Y_steal_4 (by decide) (fun h => absurd h (by decide)) (fun _ => ?_)
  refine jx_of (fun _ _ kz => jw_aload_n 0 d_Y_steal_7 rfl rfl kz) ?_
  refine jx_of (fun _ _ kz => jw_getPe (some (19, 0)) fl_Y_38 d_Y_steal_8 rfl rfl (by simp [me_I_sI, me_I_sP, me_I_nx, me_P_sI, me_P_sP, me_P_nx, me_N_sI, me_N_sP, me_N_nx, me_L_sI, me_L_sP, me_L_nx, f0, f1, f2, f3, f4, f5, f6, f7, f8, f9, f10, f11]) kz) ?_
  refine jx_of (fun _ _ kz => jw_aload_n 1 d_Y_steal_11 rfl rfl kz) ?_
  refine jx_of (fun _ _ kz => jw_getIe (0) fl_Y_195 d_Y_steal_12 rfl rfl (by simp [me_I_sI, me_I_sP, me_I_nx, me_P_sI, me_P_sP, me_P_nx, me_N_sI, me_N_sP, me_N_nx, me_L_sI, me_L_sP, me_L_nx, f0, f1, f2, f3, f4, f5, f6, f7, f8, f9, f10, f11]) kz) ?_
  refine jx_of (fun _ _ kz => jw_iload_n 2 d_Y_steal_15 rfl rfl kz) ?_
  refine jx_of (fun _ _ kz => jw_iadd d_Y_steal_16 kz) ?_
  rw [show (0 + 1 : Int32) = 1 from by decide]
  refine jx_of (fun _ _ kz => jw_iconst 3 d_Y_steal_17 (by decide) kz) ?_
  refine jx_of (fun _ _ kz => jw_irem d_Y_steal_18 (by decide) kz) ?_
  rw [show (1 - 1 / 3 * 3 : Int32) = 1 from by decide]
  refine jx_of (fun _ _ kz => jw_aalde (some (3, 1)) d_Y_steal_19 rfl rfl (by rw [show me_L _ 19 0 = 3 from (by simp [me_I_sI, me_I_sP, me_I_nx, me_P_sI, me_P_sP, me_P_nx, me_N_sI, me_N_sP, me_N_nx, me_L_sI, me_L_sP, me_L_nx, f0, f1, f2, f3, f4, f5, f6, f7, f8, f9, f10, f11])]; unfold vp_in; decide) (by simp [me_I_sI, me_I_sP, me_I_nx, me_P_sI, me_P_sP, me_P_nx, me_N_sI, me_N_sP, me_N_nx, me_L_sI, me_L_sP, me_L_nx, f0, f1, f2, f3, f4, f5, f6, f7, f8, f9, f10, f11]) kz) ?_
  refine jx_of (fun _ _ kz => jw_getPe (some (4, 1)) fl_Y_165 d_Y_steal_20 rfl rfl (by simp [me_I_sI, me_I_sP, me_I_nx, me_P_sI, me_P_sP, me_P_nx, me_N_sI, me_N_sP, me_N_nx, me_L_sI, me_L_sP, me_L_nx, f0, f1, f2, f3, f4, f5, f6, f7, f8, f9, f10, f11]) kz) ?_
  refine jx_of (fun _ _ kz => jw_astore_n 3 d_Y_steal_23 rfl (Nat.le_of_ble_eq_true rfl) kz) ?_
  dsimp only [List.set]
  refine jx_of (fun _ _ kz => jw_aload_n 3 d_Y_steal_24 rfl rfl kz) ?_
  refine jx_callV (x_R_isEmpty _ 1 (by simp [me_I_sI, me_I_sP, me_I_nx, me_P_sI, me_P_sP, me_P_nx, me_N_sI, me_N_sP, me_N_nx, me_L_sI, me_L_sP, me_L_nx, f0, f1, f2, f3, f4, f5, f6, f7, f8, f9, f10, f11])) mt_R_isEmpty cf_R rfl rfl ml_Y_198 im_R_isEmpty se_R_isEmpty d_Y_steal_25 rfl rfl (Nat.le_of_ble_eq_true rfl) ?_
  rintro _ _ ⟨rfl, rfl⟩
  refine jx_eq (st2 := [.inl 1]) rfl rfl rfl ?_
  refine jx_if_ne 89 d_Y_steal_28 (by decide) (fun _ => ?_) (fun h => absurd h (by decide))
  refine jx_of (fun _ _ kz => jw_iincc 1 d_Y_steal_89 (by decide) rfl (Nat.le_of_ble_eq_true rfl) kz) ?_
  dsimp only [List.set]
  rw [show (1 + 1 : Int32) = 2 from by decide]
  refine jx_of (fun _ _ kz => jw_goto 2 d_Y_steal_92 (by decide) kz) ?_
  refine jx_of (fun _ _ kz => jw_iload_n 2 d_Y_steal_2 rfl rfl kz) ?_
  refine jx_of (fun _ _ kz => jw_iconst 3 d_Y_steal_3 (by decide) kz) ?_
  refine jx_icmp_ge 95 d_Y_steal_4 (by decide) (fun h => absurd h (by decide)) (fun _ => ?_)
  refine jx_of (fun _ _ kz => jw_aload_n 0 d_Y_steal_7 rfl rfl kz) ?_
  refine jx_of (fun _ _ kz => jw_getPe (some (19, 0)) fl_Y_38 d_Y_steal_8 rfl rfl (by simp [me_I_sI, me_I_sP, me_I_nx, me_P_sI, me_P_sP, me_P_nx, me_N_sI, me_N_sP, me_N_nx, me_L_sI, me_L_sP, me_L_nx, f0, f1, f2, f3, f4, f5, f6, f7, f8, f9, f10, f11]) kz) ?_
  refine jx_of (fun _ _ kz => jw_aload_n 1 d_Y_steal_11 rfl rfl kz) ?_
  refine jx_of (fun _ _ kz => jw_getIe (0) fl_Y_195 d_Y_steal_12 rfl rfl (by simp [me_I_sI, me_I_sP, me_I_nx, me_P_sI, me_P_sP, me_P_nx, me_N_sI, me_N_sP, me_N_nx, me_L_sI, me_L_sP, me_L_nx, f0, f1, f2, f3, f4, f5, f6, f7, f8, f9, f10, f11]) kz) ?_
  refine jx_of (fun _ _ kz => jw_iload_n 2 d_Y_steal_15 rfl rfl kz) ?_
  refine jx_of (fun _ _ kz => jw_iadd d_Y_steal_16 kz) ?_
  rw [show (0 + 2 : Int32) = 2 from by decide]
  refine jx_of (fun _ _ kz => jw_iconst 3 d_Y_steal_17 (by decide) kz) ?_
  refine jx_of (fun _ _ kz => jw_irem d_Y_steal_18 (by decide) kz) ?_
  rw [show (2 - 2 / 3 * 3 : Int32) = 2 from by decide]
  refine jx_of (fun _ _ kz => jw_aalde (some (3, 2)) d_Y_steal_19 rfl rfl (by rw [show me_L _ 19 0 = 3 from (by simp [me_I_sI, me_I_sP, me_I_nx, me_P_sI, me_P_sP, me_P_nx, me_N_sI, me_N_sP, me_N_nx, me_L_sI, me_L_sP, me_L_nx, f0, f1, f2, f3, f4, f5, f6, f7, f8, f9, f10, f11])]; unfold vp_in; decide) (by simp [me_I_sI, me_I_sP, me_I_nx, me_P_sI, me_P_sP, me_P_nx, me_N_sI, me_N_sP, me_N_nx, me_L_sI, me_L_sP, me_L_nx, f0, f1, f2, f3, f4, f5, f6, f7, f8, f9, f10, f11]) kz) ?_
  refine jx_of (fun _ _ kz => jw_getPe (some (4, 2)) fl_Y_165 d_Y_steal_20 rfl rfl (by simp [me_I_sI, me_I_sP, me_I_nx, me_P_sI, me_P_sP, me_P_nx, me_N_sI, me_N_sP, me_N_nx, me_L_sI, me_L_sP, me_L_nx, f0, f1, f2, f3, f4, f5, f6, f7, f8, f9, f10, f11]) kz) ?_
  refine jx_of (fun _ _ kz => jw_astore_n 3 d_Y_steal_23 rfl (Nat.le_of_ble_eq_true rfl) kz) ?_
  dsimp only [List.set]
  refine jx_of (fun _ _ kz => jw_aload_n 3 d_Y_steal_24 rfl rfl kz) ?_
  refine jx_callV (x_R_isEmpty _ 2 (by simp [me_I_sI, me_I_sP, me_I_nx, me_P_sI, me_P_sP, me_P_nx, me_N_sI, me_N_sP, me_N_nx, me_L_sI, me_L_sP, me_L_nx, f0, f1, f2, f3, f4, f5, f6, f7, f8, f9, f10, f11])) mt_R_isEmpty cf_R rfl rfl ml_Y_198 im_R_isEmpty se_R_isEmpty d_Y_steal_25 rfl rfl (Nat.le_of_ble_eq_true rfl) ?_
  rintro _ _ ⟨rfl, rfl⟩
  refine jx_eq (st2 := [.inl 1]) rfl rfl rfl ?_
  refine jx_if_ne 89 d_Y_steal_28 (by decide) (fun _ => ?_) (fun h => absurd h (by decide))
  refine jx_of (fun _ _ kz => jw_iincc 1 d_Y_steal_89 (by decide) rfl (Nat.le_of_ble_eq_true rfl) kz) ?_
  dsimp only [List.set]
  rw [show (2 + 1 : Int32) = 3 from by decide]
  refine jx_of (fun _ _ kz => jw_goto 2 d_Y_steal_92 (by decide) kz) ?_
  refine jx_of (fun _ _ kz => jw_iload_n 2 d_Y_steal_2 rfl rfl kz) ?_
  refine jx_of (fun _ _ kz => jw_iconst 3 d_Y_steal_3 (by decide) kz) ?_
  refine jx_icmp_ge 95 d_Y_steal_4 (by decide) (fun _ => ?_) (fun h => absurd h (by decide))
  refine jx_of (fun _ _ kz => jw_iconst (-1) d_Y_steal_95 (by decide) kz) ?_
  refine jx_iret d_Y_steal_96 rfl ?_
  exact ⟨rfl, rfl⟩
set_option maxRecDepth 20000 in
set_option maxHeartbeats 4000000 in
theorem x_Y_nextTask_0 {G : Gt} {M : Me} (d : Nat) (f0 : me_P M 0 0 5 = (some (19, 0))) (f1 : me_L M 19 0 = 3) (f2 : me_P M 19 0 0 = (some (3, 0))) (f3 : me_P M 19 0 1 = (some (3, 1))) (f4 : me_P M 19 0 2 = (some (3, 2))) (f5 : me_P M 3 0 1 = (some (4, 0))) (f6 : me_P M 3 1 1 = (some (4, 1))) (f7 : me_P M 3 2 1 = (some (4, 2))) (f8 : me_I M 4 0 1 = 0) (f9 : me_I M 4 1 1 = 0) (f10 : me_I M 4 2 1 = 0) (f11 : me_I M 3 0 0 = 0) (f12 : me_I M 3 0 4 = 0) (f13 : me_P M 0 0 6 = (some (4, 3))) (f14 : me_I M 4 3 1 = 0) (f15 : me_I M 3 0 2 = (-1)) : sx G yt_Y_nextTask yn_Y_nextTask (d + 3) [.inr (some (0, 0)), .inr (some (3, 0))] M (fun r M' => r = some (.inl ((-1))) ∧ (me_sI M 3 0 4 (0)) = M') := by
  refine sx_of (k := 2) (lc := [some (.inr (some (0, 0))), some (.inr (some (3, 0))), none, none]) mt_Y_nextTask (Nat.le_of_ble_eq_true rfl) rfl ?_
  refine jx_of (fun _ _ kz => jw_aload_n 1 d_Y_nextTask_0 rfl rfl kz) ?_
  refine jx_of (fun _ _ kz => jw_getIe (me_I M 3 0 3) fl_Y_162 d_Y_nextTask_1 rfl rfl (by simp [me_I_sI, me_I_sP, me_I_nx, me_P_sI, me_P_sP, me_P_nx, me_N_sI, me_N_sP, me_N_nx, me_L_sI, me_L_sP, me_L_nx, f0, f1, f2, f3, f4, f5, f6, f7, f8, f9, f10, f11, f12, f13, f14, f15]) kz) ?_
  refine jx_of (fun _ _ kz => jw_iconst 5 d_Y_nextTask_4 (by decide) kz) ?_
  refine jx_of (fun _ _ kz => jw_irem d_Y_nextTask_5 (by decide) kz) ?_
  refine jx_if_ne 23 d_Y_nextTask_6 (by decide) (fun b_6 => ?_) (fun b_6 => ?_)
  · skip
    refine jx_of (fun _ _ kz => jw_iconst 0 d_Y_nextTask_23 (by decide) kz) ?_
    refine jx_of (fun _ _ kz => jw_istore_n 2 d_Y_nextTask_24 rfl (Nat.le_of_ble_eq_true rfl) kz) ?_
    dsimp only [List.set]
    refine jx_of (fun _ _ kz => jw_aload_n 1 d_Y_nextTask_25 rfl rfl kz) ?_
    refine jx_of (fun _ _ kz => jw_getIe (0) fl_Y_172 d_Y_nextTask_26 rfl rfl (by simp [me_I_sI, me_I_sP, me_I_nx, me_P_sI, me_P_sP, me_P_nx, me_N_sI, me_N_sP, me_N_nx, me_L_sI, me_L_sP, me_L_nx, f0, f1, f2, f3, f4, f5, f6, f7, f8, f9, f10, f11, f12, f13, f14, f15]) kz) ?_
    refine jx_of (fun _ _ kz => jw_iconst 2 d_Y_nextTask_29 (by decide) kz) ?_
    refine jx_icmp_lt 53 d_Y_nextTask_30 (by decide) (fun _ => ?_) (fun h => absurd h (by decide))
    refine jx_of (fun _ _ kz => jw_iconst 1 d_Y_nextTask_53 (by decide) kz) ?_
    refine jx_of (fun _ _ kz => jw_goto 58 d_Y_nextTask_54 (by decide) kz) ?_
    refine jx_of (fun _ _ kz => jw_istore_n 3 d_Y_nextTask_58 rfl (Nat.le_of_ble_eq_true rfl) kz) ?_
    dsimp only [List.set]
    refine jx_of (fun _ _ kz => jw_aload_n 1 d_Y_nextTask_59 rfl rfl kz) ?_
    refine jx_of (fun _ _ kz => jw_getIe ((-1)) fl_Y_159 d_Y_nextTask_60 rfl rfl (by simp [me_I_sI, me_I_sP, me_I_nx, me_P_sI, me_P_sP, me_P_nx, me_N_sI, me_N_sP, me_N_nx, me_L_sI, me_L_sP, me_L_nx, f0, f1, f2, f3, f4, f5, f6, f7, f8, f9, f10, f11, f12, f13, f14, f15]) kz) ?_
    refine jx_of (fun _ _ kz => jw_iconst (-1) d_Y_nextTask_63 (by decide) kz) ?_
    refine jx_icmp_eq 90 d_Y_nextTask_64 (by decide) (fun _ => ?_) (fun h => absurd h (by decide))
    refine jx_of (fun _ _ kz => jw_aload_n 1 d_Y_nextTask_90 rfl rfl kz) ?_
    refine jx_of (fun _ _ kz => jw_iconst 0 d_Y_nextTask_91 (by decide) kz) ?_
    refine jx_of (fun _ _ kz => jw_putI fl_Y_172 (Or.inl rfl) rfl rfl d_Y_nextTask_92 rfl rfl kz) ?_
    refine jx_of (fun _ _ kz => jw_iload_n 2 d_Y_nextTask_95 rfl rfl kz) ?_
    refine jx_if_ne 117 d_Y_nextTask_96 (by decide) (fun h => absurd h (by decide)) (fun _ => ?_)
    refine jx_of (fun _ _ kz => jw_aload_n 1 d_Y_nextTask_99 rfl rfl kz) ?_
    refine jx_of (fun _ _ kz => jw_getPe (some (4, 0)) fl_Y_165 d_Y_nextTask_100 rfl rfl (by simp [me_I_sI, me_I_sP, me_I_nx, me_P_sI, me_P_sP, me_P_nx, me_N_sI, me_N_sP, me_N_nx, me_L_sI, me_L_sP, me_L_nx, f0, f1, f2, f3, f4, f5, f6, f7, f8, f9, f10, f11, f12, f13, f14, f15]) kz) ?_
    refine jx_callV (x_R_isEmpty (d + 1) 0 (by simp [me_I_sI, me_I_sP, me_I_nx, me_P_sI, me_P_sP, me_P_nx, me_N_sI, me_N_sP, me_N_nx, me_L_sI, me_L_sP, me_L_nx, f0, f1, f2, f3, f4, f5, f6, f7, f8, f9, f10, f11, f12, f13, f14, f15])) mt_R_isEmpty cf_R rfl rfl ml_Y_198 im_R_isEmpty se_R_isEmpty d_Y_nextTask_103 rfl rfl (Nat.le_of_ble_eq_true rfl) ?_
    rintro _ _ ⟨rfl, rfl⟩
    refine jx_eq (st2 := [.inl 1]) rfl rfl rfl ?_
    refine jx_if_ne 117 d_Y_nextTask_106 (by decide) (fun _ => ?_) (fun h => absurd h (by decide))
    refine jx_of (fun _ _ kz => jw_aload_n 0 d_Y_nextTask_117 rfl rfl kz) ?_
    refine jx_of (fun _ _ kz => jw_getPe (some (4, 3)) fl_Y_45 d_Y_nextTask_118 rfl rfl (by simp [me_I_sI, me_I_sP, me_I_nx, me_P_sI, me_P_sP, me_P_nx, me_N_sI, me_N_sP, me_N_nx, me_L_sI, me_L_sP, me_L_nx, f0, f1, f2, f3, f4, f5, f6, f7, f8, f9, f10, f11, f12, f13, f14, f15]) kz) ?_
    refine jx_callV (x_R_isEmpty (d + 1) 3 (by simp [me_I_sI, me_I_sP, me_I_nx, me_P_sI, me_P_sP, me_P_nx, me_N_sI, me_N_sP, me_N_nx, me_L_sI, me_L_sP, me_L_nx, f0, f1, f2, f3, f4, f5, f6, f7, f8, f9, f10, f11, f12, f13, f14, f15])) mt_R_isEmpty cf_R rfl rfl ml_Y_198 im_R_isEmpty se_R_isEmpty d_Y_nextTask_121 rfl rfl (Nat.le_of_ble_eq_true rfl) ?_
    rintro _ _ ⟨rfl, rfl⟩
    refine jx_eq (st2 := [.inl 1]) rfl rfl rfl ?_
    refine jx_if_eq 135 d_Y_nextTask_124 (by decide) (fun h => absurd h (by decide)) (fun _ => ?_)
    refine jx_of (fun _ _ kz => jw_aload_n 0 d_Y_nextTask_127 rfl rfl kz) ?_
    refine jx_of (fun _ _ kz => jw_aload_n 1 d_Y_nextTask_128 rfl rfl kz) ?_
    refine jx_callV (x_Y_steal_0 _  (by simp [me_I_sI, me_I_sP, me_I_nx, me_P_sI, me_P_sP, me_P_nx, me_N_sI, me_N_sP, me_N_nx, me_L_sI, me_L_sP, me_L_nx, f0, f1, f2, f3, f4, f5, f6, f7, f8, f9, f10, f11, f12, f13, f14, f15]) (by simp [me_I_sI, me_I_sP, me_I_nx, me_P_sI, me_P_sP, me_P_nx, me_N_sI, me_N_sP, me_N_nx, me_L_sI, me_L_sP, me_L_nx, f0, f1, f2, f3, f4, f5, f6, f7, f8, f9, f10, f11, f12, f13, f14, f15]) (by simp [me_I_sI, me_I_sP, me_I_nx, me_P_sI, me_P_sP, me_P_nx, me_N_sI, me_N_sP, me_N_nx, me_L_sI, me_L_sP, me_L_nx, f0, f1, f2, f3, f4, f5, f6, f7, f8, f9, f10, f11, f12, f13, f14, f15]) (by simp [me_I_sI, me_I_sP, me_I_nx, me_P_sI, me_P_sP, me_P_nx, me_N_sI, me_N_sP, me_N_nx, me_L_sI, me_L_sP, me_L_nx, f0, f1, f2, f3, f4, f5, f6, f7, f8, f9, f10, f11, f12, f13, f14, f15]) (by simp [me_I_sI, me_I_sP, me_I_nx, me_P_sI, me_P_sP, me_P_nx, me_N_sI, me_N_sP, me_N_nx, me_L_sI, me_L_sP, me_L_nx, f0, f1, f2, f3, f4, f5, f6, f7, f8, f9, f10, f11, f12, f13, f14, f15]) (by simp [me_I_sI, me_I_sP, me_I_nx, me_P_sI, me_P_sP, me_P_nx, me_N_sI, me_N_sP, me_N_nx, me_L_sI, me_L_sP, me_L_nx, f0, f1, f2, f3, f4, f5, f6, f7, f8, f9, f10, f11, f12, f13, f14, f15]) (by simp [me_I_sI, me_I_sP, me_I_nx, me_P_sI, me_P_sP, me_P_nx, me_N_sI, me_N_sP, me_N_nx, me_L_sI, me_L_sP, me_L_nx, f0, f1, f2, f3, f4, f5, f6, f7, f8, f9, f10, f11, f12, f13, f14, f15]) (by simp [me_I_sI, me_I_sP, me_I_nx, me_P_sI, me_P_sP, me_P_nx, me_N_sI, me_N_sP, me_N_nx, me_L_sI, me_L_sP, me_L_nx, f0, f1, f2, f3, f4, f5, f6, f7, f8, f9, f10, f11, f12, f13, f14, f15]) (by simp [me_I_sI, me_I_sP, me_I_nx, me_P_sI, me_P_sP, me_P_nx, me_N_sI, me_N_sP, me_N_nx, me_L_sI, me_L_sP, me_L_nx, f0, f1, f2, f3, f4, f5, f6, f7, f8, f9, f10, f11, f12, f13, f14, f15]) (by simp [me_I_sI, me_I_sP, me_I_nx, me_P_sI, me_P_sP, me_P_nx, me_N_sI, me_N_sP, me_N_nx, me_L_sI, me_L_sP, me_L_nx, f0, f1, f2, f3, f4, f5, f6, f7, f8, f9, f10, f11, f12, f13, f14, f15]) (by simp [me_I_sI, me_I_sP, me_I_nx, me_P_sI, me_P_sP, me_P_nx, me_N_sI, me_N_sP, me_N_nx, me_L_sI, me_L_sP, me_L_nx, f0, f1, f2, f3, f4, f5, f6, f7, f8, f9, f10, f11, f12, f13, f14, f15]) (by simp [me_I_sI, me_I_sP, me_I_nx, me_P_sI, me_P_sP, me_P_nx, me_N_sI, me_N_sP, me_N_nx, me_L_sI, me_L_sP, me_L_nx, f0, f1, f2, f3, f4, f5, f6, f7, f8, f9, f10, f11, f12, f13, f14, f15])) mt_Y_steal cf_Y rfl rfl ml_Y_254 im_Y_steal se_Y_steal d_Y_nextTask_129 rfl rfl (Nat.le_of_ble_eq_true rfl) ?_
    rintro _ _ ⟨rfl, rfl⟩
    refine jx_eq (st2 := [.inl ((-1))]) rfl rfl rfl ?_
    refine jx_of (fun _ _ kz => jw_goto 142 d_Y_nextTask_132 (by decide) kz) ?_
    refine jx_iret d_Y_nextTask_142 rfl ?_
    first | exact ⟨rfl, rfl⟩ | exact ⟨by simp [b_6], rfl⟩ | exact ⟨by simp_all, by simp_all⟩
  · skip
    refine jx_of (fun _ _ kz => jw_aload_n 0 d_Y_nextTask_9 rfl rfl kz) ?_
    refine jx_of (fun _ _ kz => jw_getPe (some (4, 3)) fl_Y_45 d_Y_nextTask_10 rfl rfl (by simp [me_I_sI, me_I_sP, me_I_nx, me_P_sI, me_P_sP, me_P_nx, me_N_sI, me_N_sP, me_N_nx, me_L_sI, me_L_sP, me_L_nx, f0, f1, f2, f3, f4, f5, f6, f7, f8, f9, f10, f11, f12, f13, f14, f15]) kz) ?_
    refine jx_callV (x_R_isEmpty (d + 1) 3 (by simp [me_I_sI, me_I_sP, me_I_nx, me_P_sI, me_P_sP, me_P_nx, me_N_sI, me_N_sP, me_N_nx, me_L_sI, me_L_sP, me_L_nx, f0, f1, f2, f3, f4, f5, f6, f7, f8, f9, f10, f11, f12, f13, f14, f15])) mt_R_isEmpty cf_R rfl rfl ml_Y_198 im_R_isEmpty se_R_isEmpty d_Y_nextTask_13 rfl rfl (Nat.le_of_ble_eq_true rfl) ?_
    rintro _ _ ⟨rfl, rfl⟩
    refine jx_eq (st2 := [.inl 1]) rfl rfl rfl ?_
    refine jx_if_ne 23 d_Y_nextTask_16 (by decide) (fun _ => ?_) (fun h => absurd h (by decide))
    refine jx_of (fun _ _ kz => jw_iconst 0 d_Y_nextTask_23 (by decide) kz) ?_
    refine jx_of (fun _ _ kz => jw_istore_n 2 d_Y_nextTask_24 rfl (Nat.le_of_ble_eq_true rfl) kz) ?_
    dsimp only [List.set]
    refine jx_of (fun _ _ kz => jw_aload_n 1 d_Y_nextTask_25 rfl rfl kz) ?_
    refine jx_of (fun _ _ kz => jw_getIe (0) fl_Y_172 d_Y_nextTask_26 rfl rfl (by simp [me_I_sI, me_I_sP, me_I_nx, me_P_sI, me_P_sP, me_P_nx, me_N_sI, me_N_sP, me_N_nx, me_L_sI, me_L_sP, me_L_nx, f0, f1, f2, f3, f4, f5, f6, f7, f8, f9, f10, f11, f12, f13, f14, f15]) kz) ?_
    refine jx_of (fun _ _ kz => jw_iconst 2 d_Y_nextTask_29 (by decide) kz) ?_
    refine jx_icmp_lt 53 d_Y_nextTask_30 (by decide) (fun _ => ?_) (fun h => absurd h (by decide))
    refine jx_of (fun _ _ kz => jw_iconst 1 d_Y_nextTask_53 (by decide) kz) ?_
    refine jx_of (fun _ _ kz => jw_goto 58 d_Y_nextTask_54 (by decide) kz) ?_
    refine jx_of (fun _ _ kz => jw_istore_n 3 d_Y_nextTask_58 rfl (Nat.le_of_ble_eq_true rfl) kz) ?_
    dsimp only [List.set]
    refine jx_of (fun _ _ kz => jw_aload_n 1 d_Y_nextTask_59 rfl rfl kz) ?_
    refine jx_of (fun _ _ kz => jw_getIe ((-1)) fl_Y_159 d_Y_nextTask_60 rfl rfl (by simp [me_I_sI, me_I_sP, me_I_nx, me_P_sI, me_P_sP, me_P_nx, me_N_sI, me_N_sP, me_N_nx, me_L_sI, me_L_sP, me_L_nx, f0, f1, f2, f3, f4, f5, f6, f7, f8, f9, f10, f11, f12, f13, f14, f15]) kz) ?_
    refine jx_of (fun _ _ kz => jw_iconst (-1) d_Y_nextTask_63 (by decide) kz) ?_
    refine jx_icmp_eq 90 d_Y_nextTask_64 (by decide) (fun _ => ?_) (fun h => absurd h (by decide))
    refine jx_of (fun _ _ kz => jw_aload_n 1 d_Y_nextTask_90 rfl rfl kz) ?_
    refine jx_of (fun _ _ kz => jw_iconst 0 d_Y_nextTask_91 (by decide) kz) ?_
    refine jx_of (fun _ _ kz => jw_putI fl_Y_172 (Or.inl rfl) rfl rfl d_Y_nextTask_92 rfl rfl kz) ?_
    refine jx_of (fun _ _ kz => jw_iload_n 2 d_Y_nextTask_95 rfl rfl kz) ?_
    refine jx_if_ne 117 d_Y_nextTask_96 (by decide) (fun h => absurd h (by decide)) (fun _ => ?_)
    refine jx_of (fun _ _ kz => jw_aload_n 1 d_Y_nextTask_99 rfl rfl kz) ?_
    refine jx_of (fun _ _ kz => jw_getPe (some (4, 0)) fl_Y_165 d_Y_nextTask_100 rfl rfl (by simp [me_I_sI, me_I_sP, me_I_nx, me_P_sI, me_P_sP, me_P_nx, me_N_sI, me_N_sP, me_N_nx, me_L_sI, me_L_sP, me_L_nx, f0, f1, f2, f3, f4, f5, f6, f7, f8, f9, f10, f11, f12, f13, f14, f15]) kz) ?_
    refine jx_callV (x_R_isEmpty (d + 1) 0 (by simp [me_I_sI, me_I_sP, me_I_nx, me_P_sI, me_P_sP, me_P_nx, me_N_sI, me_N_sP, me_N_nx, me_L_sI, me_L_sP, me_L_nx, f0, f1, f2, f3, f4, f5, f6, f7, f8, f9, f10, f11, f12, f13, f14, f15])) mt_R_isEmpty cf_R rfl rfl ml_Y_198 im_R_isEmpty se_R_isEmpty d_Y_nextTask_103 rfl rfl (Nat.le_of_ble_eq_true rfl) ?_
    rintro _ _ ⟨rfl, rfl⟩
    refine jx_eq (st2 := [.inl 1]) rfl rfl rfl ?_
    refine jx_if_ne 117 d_Y_nextTask_106 (by decide) (fun _ => ?_) (fun h => absurd h (by decide))
    refine jx_of (fun _ _ kz => jw_aload_n 0 d_Y_nextTask_117 rfl rfl kz) ?_
    refine jx_of (fun _ _ kz => jw_getPe (some (4, 3)) fl_Y_45 d_Y_nextTask_118 rfl rfl (by simp [me_I_sI, me_I_sP, me_I_nx, me_P_sI, me_P_sP, me_P_nx, me_N_sI, me_N_sP, me_N_nx, me_L_sI, me_L_sP, me_L_nx, f0, f1, f2, f3, f4, f5, f6, f7, f8, f9, f10, f11, f12, f13, f14, f15]) kz) ?_
    refine jx_callV (x_R_isEmpty (d + 1) 3 (by simp [me_I_sI, me_I_sP, me_I_nx, me_P_sI, me_P_sP, me_P_nx, me_N_sI, me_N_sP, me_N_nx, me_L_sI, me_L_sP, me_L_nx, f0, f1, f2, f3, f4, f5, f6, f7, f8, f9, f10, f11, f12, f13, f14, f15])) mt_R_isEmpty cf_R rfl rfl ml_Y_198 im_R_isEmpty se_R_isEmpty d_Y_nextTask_121 rfl rfl (Nat.le_of_ble_eq_true rfl) ?_
    rintro _ _ ⟨rfl, rfl⟩
    refine jx_eq (st2 := [.inl 1]) rfl rfl rfl ?_
    refine jx_if_eq 135 d_Y_nextTask_124 (by decide) (fun h => absurd h (by decide)) (fun _ => ?_)
    refine jx_of (fun _ _ kz => jw_aload_n 0 d_Y_nextTask_127 rfl rfl kz) ?_
    refine jx_of (fun _ _ kz => jw_aload_n 1 d_Y_nextTask_128 rfl rfl kz) ?_
    refine jx_callV (x_Y_steal_0 _  (by simp [me_I_sI, me_I_sP, me_I_nx, me_P_sI, me_P_sP, me_P_nx, me_N_sI, me_N_sP, me_N_nx, me_L_sI, me_L_sP, me_L_nx, f0, f1, f2, f3, f4, f5, f6, f7, f8, f9, f10, f11, f12, f13, f14, f15]) (by simp [me_I_sI, me_I_sP, me_I_nx, me_P_sI, me_P_sP, me_P_nx, me_N_sI, me_N_sP, me_N_nx, me_L_sI, me_L_sP, me_L_nx, f0, f1, f2, f3, f4, f5, f6, f7, f8, f9, f10, f11, f12, f13, f14, f15]) (by simp [me_I_sI, me_I_sP, me_I_nx, me_P_sI, me_P_sP, me_P_nx, me_N_sI, me_N_sP, me_N_nx, me_L_sI, me_L_sP, me_L_nx, f0, f1, f2, f3, f4, f5, f6, f7, f8, f9, f10, f11, f12, f13, f14, f15]) (by simp [me_I_sI, me_I_sP, me_I_nx, me_P_sI, me_P_sP, me_P_nx, me_N_sI, me_N_sP, me_N_nx, me_L_sI, me_L_sP, me_L_nx, f0, f1, f2, f3, f4, f5, f6, f7, f8, f9, f10, f11, f12, f13, f14, f15]) (by simp [me_I_sI, me_I_sP, me_I_nx, me_P_sI, me_P_sP, me_P_nx, me_N_sI, me_N_sP, me_N_nx, me_L_sI, me_L_sP, me_L_nx, f0, f1, f2, f3, f4, f5, f6, f7, f8, f9, f10, f11, f12, f13, f14, f15]) (by simp [me_I_sI, me_I_sP, me_I_nx, me_P_sI, me_P_sP, me_P_nx, me_N_sI, me_N_sP, me_N_nx, me_L_sI, me_L_sP, me_L_nx, f0, f1, f2, f3, f4, f5, f6, f7, f8, f9, f10, f11, f12, f13, f14, f15]) (by simp [me_I_sI, me_I_sP, me_I_nx, me_P_sI, me_P_sP, me_P_nx, me_N_sI, me_N_sP, me_N_nx, me_L_sI, me_L_sP, me_L_nx, f0, f1, f2, f3, f4, f5, f6, f7, f8, f9, f10, f11, f12, f13, f14, f15]) (by simp [me_I_sI, me_I_sP, me_I_nx, me_P_sI, me_P_sP, me_P_nx, me_N_sI, me_N_sP, me_N_nx, me_L_sI, me_L_sP, me_L_nx, f0, f1, f2, f3, f4, f5, f6, f7, f8, f9, f10, f11, f12, f13, f14, f15]) (by simp [me_I_sI, me_I_sP, me_I_nx, me_P_sI, me_P_sP, me_P_nx, me_N_sI, me_N_sP, me_N_nx, me_L_sI, me_L_sP, me_L_nx, f0, f1, f2, f3, f4, f5, f6, f7, f8, f9, f10, f11, f12, f13, f14, f15]) (by simp [me_I_sI, me_I_sP, me_I_nx, me_P_sI, me_P_sP, me_P_nx, me_N_sI, me_N_sP, me_N_nx, me_L_sI, me_L_sP, me_L_nx, f0, f1, f2, f3, f4, f5, f6, f7, f8, f9, f10, f11, f12, f13, f14, f15]) (by simp [me_I_sI, me_I_sP, me_I_nx, me_P_sI, me_P_sP, me_P_nx, me_N_sI, me_N_sP, me_N_nx, me_L_sI, me_L_sP, me_L_nx, f0, f1, f2, f3, f4, f5, f6, f7, f8, f9, f10, f11, f12, f13, f14, f15]) (by simp [me_I_sI, me_I_sP, me_I_nx, me_P_sI, me_P_sP, me_P_nx, me_N_sI, me_N_sP, me_N_nx, me_L_sI, me_L_sP, me_L_nx, f0, f1, f2, f3, f4, f5, f6, f7, f8, f9, f10, f11, f12, f13, f14, f15])) mt_Y_steal cf_Y rfl rfl ml_Y_254 im_Y_steal se_Y_steal d_Y_nextTask_129 rfl rfl (Nat.le_of_ble_eq_true rfl) ?_
    rintro _ _ ⟨rfl, rfl⟩
    refine jx_eq (st2 := [.inl ((-1))]) rfl rfl rfl ?_
    refine jx_of (fun _ _ kz => jw_goto 142 d_Y_nextTask_132 (by decide) kz) ?_
    refine jx_iret d_Y_nextTask_142 rfl ?_
    first | exact ⟨rfl, rfl⟩ | exact ⟨by simp [b_6], rfl⟩ | exact ⟨by simp_all, by simp_all⟩
set_option maxRecDepth 20000 in
set_option maxHeartbeats 4000000 in
theorem x_Y_takeTurn_0 {G : Gt} {M : Me} (d : Nat) (hm : cid M) : sx G yt_Y_takeTurn yn_Y_takeTurn (d + 4) [.inr (some (0, 0)), .inr (some (3, 0))] M (fun r M' => r = some (.inl (-2)) ∧ cid M' ∧ kpM M M' ∧ me_I M' 0 0 13 = me_I M 0 0 13) := by
  refine sx_of (k := 1) (lc := [some (.inr (some (0, 0))), some (.inr (some (3, 0))), none]) mt_Y_takeTurn (Nat.le_of_ble_eq_true rfl) rfl ?_
  refine jx_of (fun _ _ kz => jw_aload_n 1 d_Y_takeTurn_0 rfl rfl kz) ?_
  refine jx_of (fun _ _ kz => jw_dup d_Y_takeTurn_1 kz) ?_
  refine jx_of (fun _ _ kz => jw_getIe (me_I M 3 0 3) fl_Y_162 d_Y_takeTurn_2 rfl rfl (by simp [me_I_sI, me_I_sP, me_I_nx, me_P_sI, me_P_sP, me_P_nx, me_N_sI, me_N_sP, me_N_nx, me_L_sI, me_L_sP, me_L_nx]) kz) ?_
  refine jx_of (fun _ _ kz => jw_iconst 1 d_Y_takeTurn_5 (by decide) kz) ?_
  refine jx_of (fun _ _ kz => jw_iadd d_Y_takeTurn_6 kz) ?_
  refine jx_of (fun _ _ kz => jw_putI fl_Y_162 (Or.inl rfl) rfl rfl d_Y_takeTurn_7 rfl rfl kz) ?_
  refine jx_of (fun _ _ kz => jw_aload_n 0 d_Y_takeTurn_10 rfl rfl kz) ?_
  refine jx_of (fun _ _ kz => jw_aload_n 0 d_Y_takeTurn_11 rfl rfl kz) ?_
  refine jx_of (fun _ _ kz => jw_aload_n 1 d_Y_takeTurn_12 rfl rfl kz) ?_
  refine jx_callV (x_Y_nextTask_0 _  (by simp [me_I_sI, me_I_sP, me_I_nx, me_P_sI, me_P_sP, me_P_nx, me_N_sI, me_N_sP, me_N_nx, me_L_sI, me_L_sP, me_L_nx, show me_P M 0 0 5 = some (19, 0) from hm.1 (0, 0, 5, 19, 0) (by decide)]) (by simp [me_I_sI, me_I_sP, me_I_nx, me_P_sI, me_P_sP, me_P_nx, me_N_sI, me_N_sP, me_N_nx, me_L_sI, me_L_sP, me_L_nx, show me_L M 19 0 = 3 from hm.2.1 (19, 0, 3) (by decide)]) (by simp [me_I_sI, me_I_sP, me_I_nx, me_P_sI, me_P_sP, me_P_nx, me_N_sI, me_N_sP, me_N_nx, me_L_sI, me_L_sP, me_L_nx, show me_P M 19 0 0 = some (3, 0) from hm.1 (19, 0, 0, 3, 0) (by decide)]) (by simp [me_I_sI, me_I_sP, me_I_nx, me_P_sI, me_P_sP, me_P_nx, me_N_sI, me_N_sP, me_N_nx, me_L_sI, me_L_sP, me_L_nx, show me_P M 19 0 1 = some (3, 1) from hm.1 (19, 0, 1, 3, 1) (by decide)]) (by simp [me_I_sI, me_I_sP, me_I_nx, me_P_sI, me_P_sP, me_P_nx, me_N_sI, me_N_sP, me_N_nx, me_L_sI, me_L_sP, me_L_nx, show me_P M 19 0 2 = some (3, 2) from hm.1 (19, 0, 2, 3, 2) (by decide)]) (by simp [me_I_sI, me_I_sP, me_I_nx, me_P_sI, me_P_sP, me_P_nx, me_N_sI, me_N_sP, me_N_nx, me_L_sI, me_L_sP, me_L_nx, show me_P M 3 0 1 = some (4, 0) from hm.1 (3, 0, 1, 4, 0) (by decide)]) (by simp [me_I_sI, me_I_sP, me_I_nx, me_P_sI, me_P_sP, me_P_nx, me_N_sI, me_N_sP, me_N_nx, me_L_sI, me_L_sP, me_L_nx, show me_P M 3 1 1 = some (4, 1) from hm.1 (3, 1, 1, 4, 1) (by decide)]) (by simp [me_I_sI, me_I_sP, me_I_nx, me_P_sI, me_P_sP, me_P_nx, me_N_sI, me_N_sP, me_N_nx, me_L_sI, me_L_sP, me_L_nx, show me_P M 3 2 1 = some (4, 2) from hm.1 (3, 2, 1, 4, 2) (by decide)]) (by simp [me_I_sI, me_I_sP, me_I_nx, me_P_sI, me_P_sP, me_P_nx, me_N_sI, me_N_sP, me_N_nx, me_L_sI, me_L_sP, me_L_nx, show me_I M 4 0 1 = 0 from hm.2.2 (4, 0, 1, 0) (by decide)]) (by simp [me_I_sI, me_I_sP, me_I_nx, me_P_sI, me_P_sP, me_P_nx, me_N_sI, me_N_sP, me_N_nx, me_L_sI, me_L_sP, me_L_nx, show me_I M 4 1 1 = 0 from hm.2.2 (4, 1, 1, 0) (by decide)]) (by simp [me_I_sI, me_I_sP, me_I_nx, me_P_sI, me_P_sP, me_P_nx, me_N_sI, me_N_sP, me_N_nx, me_L_sI, me_L_sP, me_L_nx, show me_I M 4 2 1 = 0 from hm.2.2 (4, 2, 1, 0) (by decide)]) (by simp [me_I_sI, me_I_sP, me_I_nx, me_P_sI, me_P_sP, me_P_nx, me_N_sI, me_N_sP, me_N_nx, me_L_sI, me_L_sP, me_L_nx, show me_I M 3 0 0 = 0 from hm.2.2 (3, 0, 0, 0) (by decide)]) (by simp [me_I_sI, me_I_sP, me_I_nx, me_P_sI, me_P_sP, me_P_nx, me_N_sI, me_N_sP, me_N_nx, me_L_sI, me_L_sP, me_L_nx, show me_I M 3 0 4 = 0 from hm.2.2 (3, 0, 4, 0) (by decide)]) (by simp [me_I_sI, me_I_sP, me_I_nx, me_P_sI, me_P_sP, me_P_nx, me_N_sI, me_N_sP, me_N_nx, me_L_sI, me_L_sP, me_L_nx, show me_P M 0 0 6 = some (4, 3) from hm.1 (0, 0, 6, 4, 3) (by decide)]) (by simp [me_I_sI, me_I_sP, me_I_nx, me_P_sI, me_P_sP, me_P_nx, me_N_sI, me_N_sP, me_N_nx, me_L_sI, me_L_sP, me_L_nx, show me_I M 4 3 1 = 0 from hm.2.2 (4, 3, 1, 0) (by decide)]) (by simp [me_I_sI, me_I_sP, me_I_nx, me_P_sI, me_P_sP, me_P_nx, me_N_sI, me_N_sP, me_N_nx, me_L_sI, me_L_sP, me_L_nx, show me_I M 3 0 2 = (-1) from hm.2.2 (3, 0, 2, (-1)) (by decide)])) mt_Y_nextTask cf_Y rfl rfl ml_Y_237 im_Y_nextTask se_Y_nextTask d_Y_takeTurn_13 rfl rfl (Nat.le_of_ble_eq_true rfl) ?_
  rintro _ _ ⟨rfl, rfl⟩
  refine jx_eq (st2 := [.inl ((-1)), .inr (some (0, 0))]) rfl rfl rfl ?_
  refine jx_callV (x_Y_taskAt2 (d + 2) (((-1))) (by simp [me_I_sI, me_I_sP, me_I_nx, me_P_sI, me_P_sP, me_P_nx, me_N_sI, me_N_sP, me_N_nx, me_L_sI, me_L_sP, me_L_nx, show me_I M 0 0 4 = 0 from hm.2.2 (0, 0, 4, 0) (by decide)])) mt_Y_taskAt cf_Y rfl rfl ml_Y_113 im_Y_taskAt se_Y_taskAt d_Y_takeTurn_16 rfl rfl (Nat.le_of_ble_eq_true rfl) ?_
  rintro _ _ ⟨rfl, rfl⟩
  refine jx_eq (st2 := [.inr none]) rfl rfl rfl ?_
  refine jx_of (fun _ _ kz => jw_astore_n 2 d_Y_takeTurn_19 rfl (Nat.le_of_ble_eq_true rfl) kz) ?_
  dsimp only [List.set]
  refine jx_of (fun _ _ kz => jw_aload_n 2 d_Y_takeTurn_20 rfl rfl kz) ?_
  refine jx_ifnonnull 27 d_Y_takeTurn_21 (by decide) (fun _ h => by cases h) (fun _ => ?_)
  refine jx_of (fun _ _ kz => jw_bipush (-2) d_Y_takeTurn_24 (by decide) kz) ?_
  refine jx_iret d_Y_takeTurn_26 rfl ?_
  exact ⟨rfl, cid_sI (cid_sN hm (by decide)) (by decide), kp_sI (kp_sI kp_rf (by decide)) (by decide), by simp [me_I_sI]⟩
set_option maxRecDepth 20000 in
set_option maxHeartbeats 4000000 in
theorem x_Y_turn_0 {G : Gt} {M : Me} (d : Nat) (hm : cfr M) : sx G yt_Y_turn yn_Y_turn (d + 5) [.inr (some (0, 0)), .inl 0] M (fun r M' => r = some (.inl (-2)) ∧ kpM M M') := by
  refine sx_of (k := 0) (lc := [some (.inr (some (0, 0))), some (.inl 0)]) mt_Y_turn (Nat.le_of_ble_eq_true rfl) rfl ?_
  refine jx_of (fun _ _ kz => jw_iload_n 1 d_Y_turn_0 rfl rfl kz) ?_
  refine jx_if_lt 9 d_Y_turn_1 (by decide) (fun h => absurd h (by decide)) (fun _ => ?_)
  refine jx_of (fun _ _ kz => jw_iload_n 1 d_Y_turn_4 rfl rfl kz) ?_
  refine jx_of (fun _ _ kz => jw_iconst 3 d_Y_turn_5 (by decide) kz) ?_
  refine jx_icmp_lt 13 d_Y_turn_6 (by decide) (fun _ => ?_) (fun h => absurd h (by decide))
  refine jx_of (fun _ _ kz => jw_aload_n 0 d_Y_turn_13 rfl rfl kz) ?_
  refine jx_of (fun _ _ kz => jw_aload_n 0 d_Y_turn_14 rfl rfl kz) ?_
  refine jx_of (fun _ _ kz => jw_getPe (some (19, 0)) fl_Y_38 d_Y_turn_15 rfl rfl (by simp [me_I_sI, me_I_sP, me_I_nx, me_P_sI, me_P_sP, me_P_nx, me_N_sI, me_N_sP, me_N_nx, me_L_sI, me_L_sP, me_L_nx, show me_P M 0 0 5 = some (19, 0) from hm.1 (0, 0, 5, 19, 0) (by decide)]) kz) ?_
  refine jx_of (fun _ _ kz => jw_iload_n 1 d_Y_turn_18 rfl rfl kz) ?_
  refine jx_of (fun _ _ kz => jw_aalde (some (3, 0)) d_Y_turn_19 rfl rfl (by rw [show me_L _ 19 0 = 3 from (by simp [me_I_sI, me_I_sP, me_I_nx, me_P_sI, me_P_sP, me_P_nx, me_N_sI, me_N_sP, me_N_nx, me_L_sI, me_L_sP, me_L_nx, show me_L M 19 0 = 3 from hm.2.1 (19, 0, 3) (by decide)])]; unfold vp_in; decide) (by simp [me_I_sI, me_I_sP, me_I_nx, me_P_sI, me_P_sP, me_P_nx, me_N_sI, me_N_sP, me_N_nx, me_L_sI, me_L_sP, me_L_nx, show me_P M 19 0 0 = some (3, 0) from hm.1 (19, 0, 0, 3, 0) (by decide)]) kz) ?_
  refine jx_callV (x_Y_takeTurn_0 _  (cid_of hm)) mt_Y_takeTurn cf_Y rfl rfl ml_Y_106 im_Y_takeTurn se_Y_takeTurn d_Y_turn_20 rfl rfl (Nat.le_of_ble_eq_true rfl) ?_
  rintro _ M1 ⟨rfl, _, hk, _⟩
  refine jx_eq (st2 := [.inl (-2)]) rfl rfl rfl ?_
  refine jx_iret d_Y_turn_23 rfl ?_
  exact ⟨rfl, hk⟩
set_option maxRecDepth 20000 in
set_option maxHeartbeats 4000000 in
theorem x_Y_steal_1 {G : Gt} {M : Me} (d : Nat) (f0 : me_P M 0 0 5 = (some (19, 0))) (f1 : me_L M 19 0 = 3) (f2 : me_P M 19 0 0 = (some (3, 0))) (f3 : me_P M 19 0 1 = (some (3, 1))) (f4 : me_P M 19 0 2 = (some (3, 2))) (f5 : me_P M 3 0 1 = (some (4, 0))) (f6 : me_P M 3 1 1 = (some (4, 1))) (f7 : me_P M 3 2 1 = (some (4, 2))) (f8 : me_I M 4 0 1 = 0) (f9 : me_I M 4 1 1 = 0) (f10 : me_I M 4 2 1 = 0) (f11 : me_I M 3 1 0 = 1) : sx G yt_Y_steal yn_Y_steal (d + 2) [.inr (some (0, 0)), .inr (some (3, 1))] M (fun r M' => r = some (.inl ((-1))) ∧ M = M') := by
  refine sx_of (k := 5) (lc := [some (.inr (some (0, 0))), some (.inr (some (3, 1))), none, none, none, none, none]) mt_Y_steal (Nat.le_of_ble_eq_true rfl) rfl ?_
  refine jx_of (fun _ _ kz => jw_iconst 1 d_Y_steal_0 (by decide) kz) ?_
  refine jx_of (fun _ _ kz => jw_istore_n 2 d_Y_steal_1 rfl (Nat.le_of_ble_eq_true rfl) kz) ?_
  dsimp only [List.set]
  refine jx_of (fun _ _ kz => jw_iload_n 2 d_Y_steal_2 rfl rfl kz) ?_
  refine jx_of (fun _ _ kz => jw_iconst 3 d_Y_steal_3 (by decide) kz) ?_
  refine jx_icmp_ge 95 d_Y_steal_4 (by decide) (fun h => absurd h (by decide)) (fun _ => ?_)
  refine jx_of (fun _ _ kz => jw_aload_n 0 d_Y_steal_7 rfl rfl kz) ?_
  refine jx_of (fun _ _ kz => jw_getPe (some (19, 0)) fl_Y_38 d_Y_steal_8 rfl rfl (by simp [me_I_sI, me_I_sP, me_I_nx, me_P_sI, me_P_sP, me_P_nx, me_N_sI, me_N_sP, me_N_nx, me_L_sI, me_L_sP, me_L_nx, f0, f1, f2, f3, f4, f5, f6, f7, f8, f9, f10, f11]) kz) ?_
  refine jx_of (fun _ _ kz => jw_aload_n 1 d_Y_steal_11 rfl rfl kz) ?_
  refine jx_of (fun _ _ kz => jw_getIe (1) fl_Y_195 d_Y_steal_12 rfl rfl (by simp [me_I_sI, me_I_sP, me_I_nx, me_P_sI, me_P_sP, me_P_nx, me_N_sI, me_N_sP, me_N_nx, me_L_sI, me_L_sP, me_L_nx, f0, f1, f2, f3, f4, f5, f6, f7, f8, f9, f10, f11]) kz) ?_
  refine jx_of (fun _ _ kz => jw_iload_n 2 d_Y_steal_15 rfl rfl kz) ?_
  refine jx_of (fun _ _ kz => jw_iadd d_Y_steal_16 kz) ?_
  rw [show (1 + 1 : Int32) = 2 from by decide]
  refine jx_of (fun _ _ kz => jw_iconst 3 d_Y_steal_17 (by decide) kz) ?_
  refine jx_of (fun _ _ kz => jw_irem d_Y_steal_18 (by decide) kz) ?_
  rw [show (2 - 2 / 3 * 3 : Int32) = 2 from by decide]
  refine jx_of (fun _ _ kz => jw_aalde (some (3, 2)) d_Y_steal_19 rfl rfl (by rw [show me_L _ 19 0 = 3 from (by simp [me_I_sI, me_I_sP, me_I_nx, me_P_sI, me_P_sP, me_P_nx, me_N_sI, me_N_sP, me_N_nx, me_L_sI, me_L_sP, me_L_nx, f0, f1, f2, f3, f4, f5, f6, f7, f8, f9, f10, f11])]; unfold vp_in; decide) (by simp [me_I_sI, me_I_sP, me_I_nx, me_P_sI, me_P_sP, me_P_nx, me_N_sI, me_N_sP, me_N_nx, me_L_sI, me_L_sP, me_L_nx, f0, f1, f2, f3, f4, f5, f6, f7, f8, f9, f10, f11]) kz) ?_
  refine jx_of (fun _ _ kz => jw_getPe (some (4, 2)) fl_Y_165 d_Y_steal_20 rfl rfl (by simp [me_I_sI, me_I_sP, me_I_nx, me_P_sI, me_P_sP, me_P_nx, me_N_sI, me_N_sP, me_N_nx, me_L_sI, me_L_sP, me_L_nx, f0, f1, f2, f3, f4, f5, f6, f7, f8, f9, f10, f11]) kz) ?_
  refine jx_of (fun _ _ kz => jw_astore_n 3 d_Y_steal_23 rfl (Nat.le_of_ble_eq_true rfl) kz) ?_
  dsimp only [List.set]
  refine jx_of (fun _ _ kz => jw_aload_n 3 d_Y_steal_24 rfl rfl kz) ?_
  refine jx_callV (x_R_isEmpty _ 2 (by simp [me_I_sI, me_I_sP, me_I_nx, me_P_sI, me_P_sP, me_P_nx, me_N_sI, me_N_sP, me_N_nx, me_L_sI, me_L_sP, me_L_nx, f0, f1, f2, f3, f4, f5, f6, f7, f8, f9, f10, f11])) mt_R_isEmpty cf_R rfl rfl ml_Y_198 im_R_isEmpty se_R_isEmpty d_Y_steal_25 rfl rfl (Nat.le_of_ble_eq_true rfl) ?_
  rintro _ _ ⟨rfl, rfl⟩
  refine jx_eq (st2 := [.inl 1]) rfl rfl rfl ?_
  refine jx_if_ne 89 d_Y_steal_28 (by decide) (fun _ => ?_) (fun h => absurd h (by decide))
  refine jx_of (fun _ _ kz => jw_iincc 1 d_Y_steal_89 (by decide) rfl (Nat.le_of_ble_eq_true rfl) kz) ?_
  dsimp only [List.set]
  rw [show (1 + 1 : Int32) = 2 from by decide]
  refine jx_of (fun _ _ kz => jw_goto 2 d_Y_steal_92 (by decide) kz) ?_
  refine jx_of (fun _ _ kz => jw_iload_n 2 d_Y_steal_2 rfl rfl kz) ?_
  refine jx_of (fun _ _ kz => jw_iconst 3 d_Y_steal_3 (by decide) kz) ?_
  refine jx_icmp_ge 95 d_Y_steal_4 (by decide) (fun h => absurd h (by decide)) (fun _ => ?_)
  refine jx_of (fun _ _ kz => jw_aload_n 0 d_Y_steal_7 rfl rfl kz) ?_
  refine jx_of (fun _ _ kz => jw_getPe (some (19, 0)) fl_Y_38 d_Y_steal_8 rfl rfl (by simp [me_I_sI, me_I_sP, me_I_nx, me_P_sI, me_P_sP, me_P_nx, me_N_sI, me_N_sP, me_N_nx, me_L_sI, me_L_sP, me_L_nx, f0, f1, f2, f3, f4, f5, f6, f7, f8, f9, f10, f11]) kz) ?_
  refine jx_of (fun _ _ kz => jw_aload_n 1 d_Y_steal_11 rfl rfl kz) ?_
  refine jx_of (fun _ _ kz => jw_getIe (1) fl_Y_195 d_Y_steal_12 rfl rfl (by simp [me_I_sI, me_I_sP, me_I_nx, me_P_sI, me_P_sP, me_P_nx, me_N_sI, me_N_sP, me_N_nx, me_L_sI, me_L_sP, me_L_nx, f0, f1, f2, f3, f4, f5, f6, f7, f8, f9, f10, f11]) kz) ?_
  refine jx_of (fun _ _ kz => jw_iload_n 2 d_Y_steal_15 rfl rfl kz) ?_
  refine jx_of (fun _ _ kz => jw_iadd d_Y_steal_16 kz) ?_
  rw [show (1 + 2 : Int32) = 3 from by decide]
  refine jx_of (fun _ _ kz => jw_iconst 3 d_Y_steal_17 (by decide) kz) ?_
  refine jx_of (fun _ _ kz => jw_irem d_Y_steal_18 (by decide) kz) ?_
  rw [show (3 - 3 / 3 * 3 : Int32) = 0 from by decide]
  refine jx_of (fun _ _ kz => jw_aalde (some (3, 0)) d_Y_steal_19 rfl rfl (by rw [show me_L _ 19 0 = 3 from (by simp [me_I_sI, me_I_sP, me_I_nx, me_P_sI, me_P_sP, me_P_nx, me_N_sI, me_N_sP, me_N_nx, me_L_sI, me_L_sP, me_L_nx, f0, f1, f2, f3, f4, f5, f6, f7, f8, f9, f10, f11])]; unfold vp_in; decide) (by simp [me_I_sI, me_I_sP, me_I_nx, me_P_sI, me_P_sP, me_P_nx, me_N_sI, me_N_sP, me_N_nx, me_L_sI, me_L_sP, me_L_nx, f0, f1, f2, f3, f4, f5, f6, f7, f8, f9, f10, f11]) kz) ?_
  refine jx_of (fun _ _ kz => jw_getPe (some (4, 0)) fl_Y_165 d_Y_steal_20 rfl rfl (by simp [me_I_sI, me_I_sP, me_I_nx, me_P_sI, me_P_sP, me_P_nx, me_N_sI, me_N_sP, me_N_nx, me_L_sI, me_L_sP, me_L_nx, f0, f1, f2, f3, f4, f5, f6, f7, f8, f9, f10, f11]) kz) ?_
  refine jx_of (fun _ _ kz => jw_astore_n 3 d_Y_steal_23 rfl (Nat.le_of_ble_eq_true rfl) kz) ?_
  dsimp only [List.set]
  refine jx_of (fun _ _ kz => jw_aload_n 3 d_Y_steal_24 rfl rfl kz) ?_
  refine jx_callV (x_R_isEmpty _ 0 (by simp [me_I_sI, me_I_sP, me_I_nx, me_P_sI, me_P_sP, me_P_nx, me_N_sI, me_N_sP, me_N_nx, me_L_sI, me_L_sP, me_L_nx, f0, f1, f2, f3, f4, f5, f6, f7, f8, f9, f10, f11])) mt_R_isEmpty cf_R rfl rfl ml_Y_198 im_R_isEmpty se_R_isEmpty d_Y_steal_25 rfl rfl (Nat.le_of_ble_eq_true rfl) ?_
  rintro _ _ ⟨rfl, rfl⟩
  refine jx_eq (st2 := [.inl 1]) rfl rfl rfl ?_
  refine jx_if_ne 89 d_Y_steal_28 (by decide) (fun _ => ?_) (fun h => absurd h (by decide))
  refine jx_of (fun _ _ kz => jw_iincc 1 d_Y_steal_89 (by decide) rfl (Nat.le_of_ble_eq_true rfl) kz) ?_
  dsimp only [List.set]
  rw [show (2 + 1 : Int32) = 3 from by decide]
  refine jx_of (fun _ _ kz => jw_goto 2 d_Y_steal_92 (by decide) kz) ?_
  refine jx_of (fun _ _ kz => jw_iload_n 2 d_Y_steal_2 rfl rfl kz) ?_
  refine jx_of (fun _ _ kz => jw_iconst 3 d_Y_steal_3 (by decide) kz) ?_
  refine jx_icmp_ge 95 d_Y_steal_4 (by decide) (fun _ => ?_) (fun h => absurd h (by decide))
  refine jx_of (fun _ _ kz => jw_iconst (-1) d_Y_steal_95 (by decide) kz) ?_
  refine jx_iret d_Y_steal_96 rfl ?_
  exact ⟨rfl, rfl⟩
set_option maxRecDepth 20000 in
set_option maxHeartbeats 4000000 in
theorem x_Y_nextTask_1 {G : Gt} {M : Me} (d : Nat) (f0 : me_P M 0 0 5 = (some (19, 0))) (f1 : me_L M 19 0 = 3) (f2 : me_P M 19 0 0 = (some (3, 0))) (f3 : me_P M 19 0 1 = (some (3, 1))) (f4 : me_P M 19 0 2 = (some (3, 2))) (f5 : me_P M 3 0 1 = (some (4, 0))) (f6 : me_P M 3 1 1 = (some (4, 1))) (f7 : me_P M 3 2 1 = (some (4, 2))) (f8 : me_I M 4 0 1 = 0) (f9 : me_I M 4 1 1 = 0) (f10 : me_I M 4 2 1 = 0) (f11 : me_I M 3 1 0 = 1) (f12 : me_I M 3 1 4 = 0) (f13 : me_P M 0 0 6 = (some (4, 3))) (f14 : me_I M 4 3 1 = 0) (f15 : me_I M 3 1 2 = (-1)) : sx G yt_Y_nextTask yn_Y_nextTask (d + 3) [.inr (some (0, 0)), .inr (some (3, 1))] M (fun r M' => r = some (.inl ((-1))) ∧ (me_sI M 3 1 4 (0)) = M') := by
  refine sx_of (k := 2) (lc := [some (.inr (some (0, 0))), some (.inr (some (3, 1))), none, none]) mt_Y_nextTask (Nat.le_of_ble_eq_true rfl) rfl ?_
  refine jx_of (fun _ _ kz => jw_aload_n 1 d_Y_nextTask_0 rfl rfl kz) ?_
  refine jx_of (fun _ _ kz => jw_getIe (me_I M 3 1 3) fl_Y_162 d_Y_nextTask_1 rfl rfl (by simp [me_I_sI, me_I_sP, me_I_nx, me_P_sI, me_P_sP, me_P_nx, me_N_sI, me_N_sP, me_N_nx, me_L_sI, me_L_sP, me_L_nx, f0, f1, f2, f3, f4, f5, f6, f7, f8, f9, f10, f11, f12, f13, f14, f15]) kz) ?_
  refine jx_of (fun _ _ kz => jw_iconst 5 d_Y_nextTask_4 (by decide) kz) ?_
  refine jx_of (fun _ _ kz => jw_irem d_Y_nextTask_5 (by decide) kz) ?_
  refine jx_if_ne 23 d_Y_nextTask_6 (by decide) (fun b_6 => ?_) (fun b_6 => ?_)
  · skip
    refine jx_of (fun _ _ kz => jw_iconst 0 d_Y_nextTask_23 (by decide) kz) ?_
    refine jx_of (fun _ _ kz => jw_istore_n 2 d_Y_nextTask_24 rfl (Nat.le_of_ble_eq_true rfl) kz) ?_
    dsimp only [List.set]
    refine jx_of (fun _ _ kz => jw_aload_n 1 d_Y_nextTask_25 rfl rfl kz) ?_
    refine jx_of (fun _ _ kz => jw_getIe (0) fl_Y_172 d_Y_nextTask_26 rfl rfl (by simp [me_I_sI, me_I_sP, me_I_nx, me_P_sI, me_P_sP, me_P_nx, me_N_sI, me_N_sP, me_N_nx, me_L_sI, me_L_sP, me_L_nx, f0, f1, f2, f3, f4, f5, f6, f7, f8, f9, f10, f11, f12, f13, f14, f15]) kz) ?_
    refine jx_of (fun _ _ kz => jw_iconst 2 d_Y_nextTask_29 (by decide) kz) ?_
    refine jx_icmp_lt 53 d_Y_nextTask_30 (by decide) (fun _ => ?_) (fun h => absurd h (by decide))
    refine jx_of (fun _ _ kz => jw_iconst 1 d_Y_nextTask_53 (by decide) kz) ?_
    refine jx_of (fun _ _ kz => jw_goto 58 d_Y_nextTask_54 (by decide) kz) ?_
    refine jx_of (fun _ _ kz => jw_istore_n 3 d_Y_nextTask_58 rfl (Nat.le_of_ble_eq_true rfl) kz) ?_
    dsimp only [List.set]
    refine jx_of (fun _ _ kz => jw_aload_n 1 d_Y_nextTask_59 rfl rfl kz) ?_
    refine jx_of (fun _ _ kz => jw_getIe ((-1)) fl_Y_159 d_Y_nextTask_60 rfl rfl (by simp [me_I_sI, me_I_sP, me_I_nx, me_P_sI, me_P_sP, me_P_nx, me_N_sI, me_N_sP, me_N_nx, me_L_sI, me_L_sP, me_L_nx, f0, f1, f2, f3, f4, f5, f6, f7, f8, f9, f10, f11, f12, f13, f14, f15]) kz) ?_
    refine jx_of (fun _ _ kz => jw_iconst (-1) d_Y_nextTask_63 (by decide) kz) ?_
    refine jx_icmp_eq 90 d_Y_nextTask_64 (by decide) (fun _ => ?_) (fun h => absurd h (by decide))
    refine jx_of (fun _ _ kz => jw_aload_n 1 d_Y_nextTask_90 rfl rfl kz) ?_
    refine jx_of (fun _ _ kz => jw_iconst 0 d_Y_nextTask_91 (by decide) kz) ?_
    refine jx_of (fun _ _ kz => jw_putI fl_Y_172 (Or.inl rfl) rfl rfl d_Y_nextTask_92 rfl rfl kz) ?_
    refine jx_of (fun _ _ kz => jw_iload_n 2 d_Y_nextTask_95 rfl rfl kz) ?_
    refine jx_if_ne 117 d_Y_nextTask_96 (by decide) (fun h => absurd h (by decide)) (fun _ => ?_)
    refine jx_of (fun _ _ kz => jw_aload_n 1 d_Y_nextTask_99 rfl rfl kz) ?_
    refine jx_of (fun _ _ kz => jw_getPe (some (4, 1)) fl_Y_165 d_Y_nextTask_100 rfl rfl (by simp [me_I_sI, me_I_sP, me_I_nx, me_P_sI, me_P_sP, me_P_nx, me_N_sI, me_N_sP, me_N_nx, me_L_sI, me_L_sP, me_L_nx, f0, f1, f2, f3, f4, f5, f6, f7, f8, f9, f10, f11, f12, f13, f14, f15]) kz) ?_
    refine jx_callV (x_R_isEmpty (d + 1) 1 (by simp [me_I_sI, me_I_sP, me_I_nx, me_P_sI, me_P_sP, me_P_nx, me_N_sI, me_N_sP, me_N_nx, me_L_sI, me_L_sP, me_L_nx, f0, f1, f2, f3, f4, f5, f6, f7, f8, f9, f10, f11, f12, f13, f14, f15])) mt_R_isEmpty cf_R rfl rfl ml_Y_198 im_R_isEmpty se_R_isEmpty d_Y_nextTask_103 rfl rfl (Nat.le_of_ble_eq_true rfl) ?_
    rintro _ _ ⟨rfl, rfl⟩
    refine jx_eq (st2 := [.inl 1]) rfl rfl rfl ?_
    refine jx_if_ne 117 d_Y_nextTask_106 (by decide) (fun _ => ?_) (fun h => absurd h (by decide))
    refine jx_of (fun _ _ kz => jw_aload_n 0 d_Y_nextTask_117 rfl rfl kz) ?_
    refine jx_of (fun _ _ kz => jw_getPe (some (4, 3)) fl_Y_45 d_Y_nextTask_118 rfl rfl (by simp [me_I_sI, me_I_sP, me_I_nx, me_P_sI, me_P_sP, me_P_nx, me_N_sI, me_N_sP, me_N_nx, me_L_sI, me_L_sP, me_L_nx, f0, f1, f2, f3, f4, f5, f6, f7, f8, f9, f10, f11, f12, f13, f14, f15]) kz) ?_
    refine jx_callV (x_R_isEmpty (d + 1) 3 (by simp [me_I_sI, me_I_sP, me_I_nx, me_P_sI, me_P_sP, me_P_nx, me_N_sI, me_N_sP, me_N_nx, me_L_sI, me_L_sP, me_L_nx, f0, f1, f2, f3, f4, f5, f6, f7, f8, f9, f10, f11, f12, f13, f14, f15])) mt_R_isEmpty cf_R rfl rfl ml_Y_198 im_R_isEmpty se_R_isEmpty d_Y_nextTask_121 rfl rfl (Nat.le_of_ble_eq_true rfl) ?_
    rintro _ _ ⟨rfl, rfl⟩
    refine jx_eq (st2 := [.inl 1]) rfl rfl rfl ?_
    refine jx_if_eq 135 d_Y_nextTask_124 (by decide) (fun h => absurd h (by decide)) (fun _ => ?_)
    refine jx_of (fun _ _ kz => jw_aload_n 0 d_Y_nextTask_127 rfl rfl kz) ?_
    refine jx_of (fun _ _ kz => jw_aload_n 1 d_Y_nextTask_128 rfl rfl kz) ?_
    refine jx_callV (x_Y_steal_1 _  (by simp [me_I_sI, me_I_sP, me_I_nx, me_P_sI, me_P_sP, me_P_nx, me_N_sI, me_N_sP, me_N_nx, me_L_sI, me_L_sP, me_L_nx, f0, f1, f2, f3, f4, f5, f6, f7, f8, f9, f10, f11, f12, f13, f14, f15]) (by simp [me_I_sI, me_I_sP, me_I_nx, me_P_sI, me_P_sP, me_P_nx, me_N_sI, me_N_sP, me_N_nx, me_L_sI, me_L_sP, me_L_nx, f0, f1, f2, f3, f4, f5, f6, f7, f8, f9, f10, f11, f12, f13, f14, f15]) (by simp [me_I_sI, me_I_sP, me_I_nx, me_P_sI, me_P_sP, me_P_nx, me_N_sI, me_N_sP, me_N_nx, me_L_sI, me_L_sP, me_L_nx, f0, f1, f2, f3, f4, f5, f6, f7, f8, f9, f10, f11, f12, f13, f14, f15]) (by simp [me_I_sI, me_I_sP, me_I_nx, me_P_sI, me_P_sP, me_P_nx, me_N_sI, me_N_sP, me_N_nx, me_L_sI, me_L_sP, me_L_nx, f0, f1, f2, f3, f4, f5, f6, f7, f8, f9, f10, f11, f12, f13, f14, f15]) (by simp [me_I_sI, me_I_sP, me_I_nx, me_P_sI, me_P_sP, me_P_nx, me_N_sI, me_N_sP, me_N_nx, me_L_sI, me_L_sP, me_L_nx, f0, f1, f2, f3, f4, f5, f6, f7, f8, f9, f10, f11, f12, f13, f14, f15]) (by simp [me_I_sI, me_I_sP, me_I_nx, me_P_sI, me_P_sP, me_P_nx, me_N_sI, me_N_sP, me_N_nx, me_L_sI, me_L_sP, me_L_nx, f0, f1, f2, f3, f4, f5, f6, f7, f8, f9, f10, f11, f12, f13, f14, f15]) (by simp [me_I_sI, me_I_sP, me_I_nx, me_P_sI, me_P_sP, me_P_nx, me_N_sI, me_N_sP, me_N_nx, me_L_sI, me_L_sP, me_L_nx, f0, f1, f2, f3, f4, f5, f6, f7, f8, f9, f10, f11, f12, f13, f14, f15]) (by simp [me_I_sI, me_I_sP, me_I_nx, me_P_sI, me_P_sP, me_P_nx, me_N_sI, me_N_sP, me_N_nx, me_L_sI, me_L_sP, me_L_nx, f0, f1, f2, f3, f4, f5, f6, f7, f8, f9, f10, f11, f12, f13, f14, f15]) (by simp [me_I_sI, me_I_sP, me_I_nx, me_P_sI, me_P_sP, me_P_nx, me_N_sI, me_N_sP, me_N_nx, me_L_sI, me_L_sP, me_L_nx, f0, f1, f2, f3, f4, f5, f6, f7, f8, f9, f10, f11, f12, f13, f14, f15]) (by simp [me_I_sI, me_I_sP, me_I_nx, me_P_sI, me_P_sP, me_P_nx, me_N_sI, me_N_sP, me_N_nx, me_L_sI, me_L_sP, me_L_nx, f0, f1, f2, f3, f4, f5, f6, f7, f8, f9, f10, f11, f12, f13, f14, f15]) (by simp [me_I_sI, me_I_sP, me_I_nx, me_P_sI, me_P_sP, me_P_nx, me_N_sI, me_N_sP, me_N_nx, me_L_sI, me_L_sP, me_L_nx, f0, f1, f2, f3, f4, f5, f6, f7, f8, f9, f10, f11, f12, f13, f14, f15]) (by simp [me_I_sI, me_I_sP, me_I_nx, me_P_sI, me_P_sP, me_P_nx, me_N_sI, me_N_sP, me_N_nx, me_L_sI, me_L_sP, me_L_nx, f0, f1, f2, f3, f4, f5, f6, f7, f8, f9, f10, f11, f12, f13, f14, f15])) mt_Y_steal cf_Y rfl rfl ml_Y_254 im_Y_steal se_Y_steal d_Y_nextTask_129 rfl rfl (Nat.le_of_ble_eq_true rfl) ?_
    rintro _ _ ⟨rfl, rfl⟩
    refine jx_eq (st2 := [.inl ((-1))]) rfl rfl rfl ?_
    refine jx_of (fun _ _ kz => jw_goto 142 d_Y_nextTask_132 (by decide) kz) ?_
    refine jx_iret d_Y_nextTask_142 rfl ?_
    first | exact ⟨rfl, rfl⟩ | exact ⟨by simp [b_6], rfl⟩ | exact ⟨by simp_all, by simp_all⟩
  · skip
    refine jx_of (fun _ _ kz => jw_aload_n 0 d_Y_nextTask_9 rfl rfl kz) ?_
    refine jx_of (fun _ _ kz => jw_getPe (some (4, 3)) fl_Y_45 d_Y_nextTask_10 rfl rfl (by simp [me_I_sI, me_I_sP, me_I_nx, me_P_sI, me_P_sP, me_P_nx, me_N_sI, me_N_sP, me_N_nx, me_L_sI, me_L_sP, me_L_nx, f0, f1, f2, f3, f4, f5, f6, f7, f8, f9, f10, f11, f12, f13, f14, f15]) kz) ?_
    refine jx_callV (x_R_isEmpty (d + 1) 3 (by simp [me_I_sI, me_I_sP, me_I_nx, me_P_sI, me_P_sP, me_P_nx, me_N_sI, me_N_sP, me_N_nx, me_L_sI, me_L_sP, me_L_nx, f0, f1, f2, f3, f4, f5, f6, f7, f8, f9, f10, f11, f12, f13, f14, f15])) mt_R_isEmpty cf_R rfl rfl ml_Y_198 im_R_isEmpty se_R_isEmpty d_Y_nextTask_13 rfl rfl (Nat.le_of_ble_eq_true rfl) ?_
    rintro _ _ ⟨rfl, rfl⟩
    refine jx_eq (st2 := [.inl 1]) rfl rfl rfl ?_
    refine jx_if_ne 23 d_Y_nextTask_16 (by decide) (fun _ => ?_) (fun h => absurd h (by decide))
    refine jx_of (fun _ _ kz => jw_iconst 0 d_Y_nextTask_23 (by decide) kz) ?_
    refine jx_of (fun _ _ kz => jw_istore_n 2 d_Y_nextTask_24 rfl (Nat.le_of_ble_eq_true rfl) kz) ?_
    dsimp only [List.set]
    refine jx_of (fun _ _ kz => jw_aload_n 1 d_Y_nextTask_25 rfl rfl kz) ?_
    refine jx_of (fun _ _ kz => jw_getIe (0) fl_Y_172 d_Y_nextTask_26 rfl rfl (by simp [me_I_sI, me_I_sP, me_I_nx, me_P_sI, me_P_sP, me_P_nx, me_N_sI, me_N_sP, me_N_nx, me_L_sI, me_L_sP, me_L_nx, f0, f1, f2, f3, f4, f5, f6, f7, f8, f9, f10, f11, f12, f13, f14, f15]) kz) ?_
    refine jx_of (fun _ _ kz => jw_iconst 2 d_Y_nextTask_29 (by decide) kz) ?_
    refine jx_icmp_lt 53 d_Y_nextTask_30 (by decide) (fun _ => ?_) (fun h => absurd h (by decide))
    refine jx_of (fun _ _ kz => jw_iconst 1 d_Y_nextTask_53 (by decide) kz) ?_
    refine jx_of (fun _ _ kz => jw_goto 58 d_Y_nextTask_54 (by decide) kz) ?_
    refine jx_of (fun _ _ kz => jw_istore_n 3 d_Y_nextTask_58 rfl (Nat.le_of_ble_eq_true rfl) kz) ?_
    dsimp only [List.set]
    refine jx_of (fun _ _ kz => jw_aload_n 1 d_Y_nextTask_59 rfl rfl kz) ?_
    refine jx_of (fun _ _ kz => jw_getIe ((-1)) fl_Y_159 d_Y_nextTask_60 rfl rfl (by simp [me_I_sI, me_I_sP, me_I_nx, me_P_sI, me_P_sP, me_P_nx, me_N_sI, me_N_sP, me_N_nx, me_L_sI, me_L_sP, me_L_nx, f0, f1, f2, f3, f4, f5, f6, f7, f8, f9, f10, f11, f12, f13, f14, f15]) kz) ?_
    refine jx_of (fun _ _ kz => jw_iconst (-1) d_Y_nextTask_63 (by decide) kz) ?_
    refine jx_icmp_eq 90 d_Y_nextTask_64 (by decide) (fun _ => ?_) (fun h => absurd h (by decide))
    refine jx_of (fun _ _ kz => jw_aload_n 1 d_Y_nextTask_90 rfl rfl kz) ?_
    refine jx_of (fun _ _ kz => jw_iconst 0 d_Y_nextTask_91 (by decide) kz) ?_
    refine jx_of (fun _ _ kz => jw_putI fl_Y_172 (Or.inl rfl) rfl rfl d_Y_nextTask_92 rfl rfl kz) ?_
    refine jx_of (fun _ _ kz => jw_iload_n 2 d_Y_nextTask_95 rfl rfl kz) ?_
    refine jx_if_ne 117 d_Y_nextTask_96 (by decide) (fun h => absurd h (by decide)) (fun _ => ?_)
    refine jx_of (fun _ _ kz => jw_aload_n 1 d_Y_nextTask_99 rfl rfl kz) ?_
    refine jx_of (fun _ _ kz => jw_getPe (some (4, 1)) fl_Y_165 d_Y_nextTask_100 rfl rfl (by simp [me_I_sI, me_I_sP, me_I_nx, me_P_sI, me_P_sP, me_P_nx, me_N_sI, me_N_sP, me_N_nx, me_L_sI, me_L_sP, me_L_nx, f0, f1, f2, f3, f4, f5, f6, f7, f8, f9, f10, f11, f12, f13, f14, f15]) kz) ?_
    refine jx_callV (x_R_isEmpty (d + 1) 1 (by simp [me_I_sI, me_I_sP, me_I_nx, me_P_sI, me_P_sP, me_P_nx, me_N_sI, me_N_sP, me_N_nx, me_L_sI, me_L_sP, me_L_nx, f0, f1, f2, f3, f4, f5, f6, f7, f8, f9, f10, f11, f12, f13, f14, f15])) mt_R_isEmpty cf_R rfl rfl ml_Y_198 im_R_isEmpty se_R_isEmpty d_Y_nextTask_103 rfl rfl (Nat.le_of_ble_eq_true rfl) ?_
    rintro _ _ ⟨rfl, rfl⟩
    refine jx_eq (st2 := [.inl 1]) rfl rfl rfl ?_
    refine jx_if_ne 117 d_Y_nextTask_106 (by decide) (fun _ => ?_) (fun h => absurd h (by decide))
    refine jx_of (fun _ _ kz => jw_aload_n 0 d_Y_nextTask_117 rfl rfl kz) ?_
    refine jx_of (fun _ _ kz => jw_getPe (some (4, 3)) fl_Y_45 d_Y_nextTask_118 rfl rfl (by simp [me_I_sI, me_I_sP, me_I_nx, me_P_sI, me_P_sP, me_P_nx, me_N_sI, me_N_sP, me_N_nx, me_L_sI, me_L_sP, me_L_nx, f0, f1, f2, f3, f4, f5, f6, f7, f8, f9, f10, f11, f12, f13, f14, f15]) kz) ?_
    refine jx_callV (x_R_isEmpty (d + 1) 3 (by simp [me_I_sI, me_I_sP, me_I_nx, me_P_sI, me_P_sP, me_P_nx, me_N_sI, me_N_sP, me_N_nx, me_L_sI, me_L_sP, me_L_nx, f0, f1, f2, f3, f4, f5, f6, f7, f8, f9, f10, f11, f12, f13, f14, f15])) mt_R_isEmpty cf_R rfl rfl ml_Y_198 im_R_isEmpty se_R_isEmpty d_Y_nextTask_121 rfl rfl (Nat.le_of_ble_eq_true rfl) ?_
    rintro _ _ ⟨rfl, rfl⟩
    refine jx_eq (st2 := [.inl 1]) rfl rfl rfl ?_
    refine jx_if_eq 135 d_Y_nextTask_124 (by decide) (fun h => absurd h (by decide)) (fun _ => ?_)
    refine jx_of (fun _ _ kz => jw_aload_n 0 d_Y_nextTask_127 rfl rfl kz) ?_
    refine jx_of (fun _ _ kz => jw_aload_n 1 d_Y_nextTask_128 rfl rfl kz) ?_
    refine jx_callV (x_Y_steal_1 _  (by simp [me_I_sI, me_I_sP, me_I_nx, me_P_sI, me_P_sP, me_P_nx, me_N_sI, me_N_sP, me_N_nx, me_L_sI, me_L_sP, me_L_nx, f0, f1, f2, f3, f4, f5, f6, f7, f8, f9, f10, f11, f12, f13, f14, f15]) (by simp [me_I_sI, me_I_sP, me_I_nx, me_P_sI, me_P_sP, me_P_nx, me_N_sI, me_N_sP, me_N_nx, me_L_sI, me_L_sP, me_L_nx, f0, f1, f2, f3, f4, f5, f6, f7, f8, f9, f10, f11, f12, f13, f14, f15]) (by simp [me_I_sI, me_I_sP, me_I_nx, me_P_sI, me_P_sP, me_P_nx, me_N_sI, me_N_sP, me_N_nx, me_L_sI, me_L_sP, me_L_nx, f0, f1, f2, f3, f4, f5, f6, f7, f8, f9, f10, f11, f12, f13, f14, f15]) (by simp [me_I_sI, me_I_sP, me_I_nx, me_P_sI, me_P_sP, me_P_nx, me_N_sI, me_N_sP, me_N_nx, me_L_sI, me_L_sP, me_L_nx, f0, f1, f2, f3, f4, f5, f6, f7, f8, f9, f10, f11, f12, f13, f14, f15]) (by simp [me_I_sI, me_I_sP, me_I_nx, me_P_sI, me_P_sP, me_P_nx, me_N_sI, me_N_sP, me_N_nx, me_L_sI, me_L_sP, me_L_nx, f0, f1, f2, f3, f4, f5, f6, f7, f8, f9, f10, f11, f12, f13, f14, f15]) (by simp [me_I_sI, me_I_sP, me_I_nx, me_P_sI, me_P_sP, me_P_nx, me_N_sI, me_N_sP, me_N_nx, me_L_sI, me_L_sP, me_L_nx, f0, f1, f2, f3, f4, f5, f6, f7, f8, f9, f10, f11, f12, f13, f14, f15]) (by simp [me_I_sI, me_I_sP, me_I_nx, me_P_sI, me_P_sP, me_P_nx, me_N_sI, me_N_sP, me_N_nx, me_L_sI, me_L_sP, me_L_nx, f0, f1, f2, f3, f4, f5, f6, f7, f8, f9, f10, f11, f12, f13, f14, f15]) (by simp [me_I_sI, me_I_sP, me_I_nx, me_P_sI, me_P_sP, me_P_nx, me_N_sI, me_N_sP, me_N_nx, me_L_sI, me_L_sP, me_L_nx, f0, f1, f2, f3, f4, f5, f6, f7, f8, f9, f10, f11, f12, f13, f14, f15]) (by simp [me_I_sI, me_I_sP, me_I_nx, me_P_sI, me_P_sP, me_P_nx, me_N_sI, me_N_sP, me_N_nx, me_L_sI, me_L_sP, me_L_nx, f0, f1, f2, f3, f4, f5, f6, f7, f8, f9, f10, f11, f12, f13, f14, f15]) (by simp [me_I_sI, me_I_sP, me_I_nx, me_P_sI, me_P_sP, me_P_nx, me_N_sI, me_N_sP, me_N_nx, me_L_sI, me_L_sP, me_L_nx, f0, f1, f2, f3, f4, f5, f6, f7, f8, f9, f10, f11, f12, f13, f14, f15]) (by simp [me_I_sI, me_I_sP, me_I_nx, me_P_sI, me_P_sP, me_P_nx, me_N_sI, me_N_sP, me_N_nx, me_L_sI, me_L_sP, me_L_nx, f0, f1, f2, f3, f4, f5, f6, f7, f8, f9, f10, f11, f12, f13, f14, f15]) (by simp [me_I_sI, me_I_sP, me_I_nx, me_P_sI, me_P_sP, me_P_nx, me_N_sI, me_N_sP, me_N_nx, me_L_sI, me_L_sP, me_L_nx, f0, f1, f2, f3, f4, f5, f6, f7, f8, f9, f10, f11, f12, f13, f14, f15])) mt_Y_steal cf_Y rfl rfl ml_Y_254 im_Y_steal se_Y_steal d_Y_nextTask_129 rfl rfl (Nat.le_of_ble_eq_true rfl) ?_
    rintro _ _ ⟨rfl, rfl⟩
    refine jx_eq (st2 := [.inl ((-1))]) rfl rfl rfl ?_
    refine jx_of (fun _ _ kz => jw_goto 142 d_Y_nextTask_132 (by decide) kz) ?_
    refine jx_iret d_Y_nextTask_142 rfl ?_
    first | exact ⟨rfl, rfl⟩ | exact ⟨by simp [b_6], rfl⟩ | exact ⟨by simp_all, by simp_all⟩
set_option maxRecDepth 20000 in
set_option maxHeartbeats 4000000 in
theorem x_Y_takeTurn_1 {G : Gt} {M : Me} (d : Nat) (hm : cid M) : sx G yt_Y_takeTurn yn_Y_takeTurn (d + 4) [.inr (some (0, 0)), .inr (some (3, 1))] M (fun r M' => r = some (.inl (-2)) ∧ cid M' ∧ kpM M M' ∧ me_I M' 0 0 13 = me_I M 0 0 13) := by
  refine sx_of (k := 1) (lc := [some (.inr (some (0, 0))), some (.inr (some (3, 1))), none]) mt_Y_takeTurn (Nat.le_of_ble_eq_true rfl) rfl ?_
  refine jx_of (fun _ _ kz => jw_aload_n 1 d_Y_takeTurn_0 rfl rfl kz) ?_
  refine jx_of (fun _ _ kz => jw_dup d_Y_takeTurn_1 kz) ?_
  refine jx_of (fun _ _ kz => jw_getIe (me_I M 3 1 3) fl_Y_162 d_Y_takeTurn_2 rfl rfl (by simp [me_I_sI, me_I_sP, me_I_nx, me_P_sI, me_P_sP, me_P_nx, me_N_sI, me_N_sP, me_N_nx, me_L_sI, me_L_sP, me_L_nx]) kz) ?_
  refine jx_of (fun _ _ kz => jw_iconst 1 d_Y_takeTurn_5 (by decide) kz) ?_
  refine jx_of (fun _ _ kz => jw_iadd d_Y_takeTurn_6 kz) ?_
  refine jx_of (fun _ _ kz => jw_putI fl_Y_162 (Or.inl rfl) rfl rfl d_Y_takeTurn_7 rfl rfl kz) ?_
  refine jx_of (fun _ _ kz => jw_aload_n 0 d_Y_takeTurn_10 rfl rfl kz) ?_
  refine jx_of (fun _ _ kz => jw_aload_n 0 d_Y_takeTurn_11 rfl rfl kz) ?_
  refine jx_of (fun _ _ kz => jw_aload_n 1 d_Y_takeTurn_12 rfl rfl kz) ?_
  refine jx_callV (x_Y_nextTask_1 _  (by simp [me_I_sI, me_I_sP, me_I_nx, me_P_sI, me_P_sP, me_P_nx, me_N_sI, me_N_sP, me_N_nx, me_L_sI, me_L_sP, me_L_nx, show me_P M 0 0 5 = some (19, 0) from hm.1 (0, 0, 5, 19, 0) (by decide)]) (by simp [me_I_sI, me_I_sP, me_I_nx, me_P_sI, me_P_sP, me_P_nx, me_N_sI, me_N_sP, me_N_nx, me_L_sI, me_L_sP, me_L_nx, show me_L M 19 0 = 3 from hm.2.1 (19, 0, 3) (by decide)]) (by simp [me_I_sI, me_I_sP, me_I_nx, me_P_sI, me_P_sP, me_P_nx, me_N_sI, me_N_sP, me_N_nx, me_L_sI, me_L_sP, me_L_nx, show me_P M 19 0 0 = some (3, 0) from hm.1 (19, 0, 0, 3, 0) (by decide)]) (by simp [me_I_sI, me_I_sP, me_I_nx, me_P_sI, me_P_sP, me_P_nx, me_N_sI, me_N_sP, me_N_nx, me_L_sI, me_L_sP, me_L_nx, show me_P M 19 0 1 = some (3, 1) from hm.1 (19, 0, 1, 3, 1) (by decide)]) (by simp [me_I_sI, me_I_sP, me_I_nx, me_P_sI, me_P_sP, me_P_nx, me_N_sI, me_N_sP, me_N_nx, me_L_sI, me_L_sP, me_L_nx, show me_P M 19 0 2 = some (3, 2) from hm.1 (19, 0, 2, 3, 2) (by decide)]) (by simp [me_I_sI, me_I_sP, me_I_nx, me_P_sI, me_P_sP, me_P_nx, me_N_sI, me_N_sP, me_N_nx, me_L_sI, me_L_sP, me_L_nx, show me_P M 3 0 1 = some (4, 0) from hm.1 (3, 0, 1, 4, 0) (by decide)]) (by simp [me_I_sI, me_I_sP, me_I_nx, me_P_sI, me_P_sP, me_P_nx, me_N_sI, me_N_sP, me_N_nx, me_L_sI, me_L_sP, me_L_nx, show me_P M 3 1 1 = some (4, 1) from hm.1 (3, 1, 1, 4, 1) (by decide)]) (by simp [me_I_sI, me_I_sP, me_I_nx, me_P_sI, me_P_sP, me_P_nx, me_N_sI, me_N_sP, me_N_nx, me_L_sI, me_L_sP, me_L_nx, show me_P M 3 2 1 = some (4, 2) from hm.1 (3, 2, 1, 4, 2) (by decide)]) (by simp [me_I_sI, me_I_sP, me_I_nx, me_P_sI, me_P_sP, me_P_nx, me_N_sI, me_N_sP, me_N_nx, me_L_sI, me_L_sP, me_L_nx, show me_I M 4 0 1 = 0 from hm.2.2 (4, 0, 1, 0) (by decide)]) (by simp [me_I_sI, me_I_sP, me_I_nx, me_P_sI, me_P_sP, me_P_nx, me_N_sI, me_N_sP, me_N_nx, me_L_sI, me_L_sP, me_L_nx, show me_I M 4 1 1 = 0 from hm.2.2 (4, 1, 1, 0) (by decide)]) (by simp [me_I_sI, me_I_sP, me_I_nx, me_P_sI, me_P_sP, me_P_nx, me_N_sI, me_N_sP, me_N_nx, me_L_sI, me_L_sP, me_L_nx, show me_I M 4 2 1 = 0 from hm.2.2 (4, 2, 1, 0) (by decide)]) (by simp [me_I_sI, me_I_sP, me_I_nx, me_P_sI, me_P_sP, me_P_nx, me_N_sI, me_N_sP, me_N_nx, me_L_sI, me_L_sP, me_L_nx, show me_I M 3 1 0 = 1 from hm.2.2 (3, 1, 0, 1) (by decide)]) (by simp [me_I_sI, me_I_sP, me_I_nx, me_P_sI, me_P_sP, me_P_nx, me_N_sI, me_N_sP, me_N_nx, me_L_sI, me_L_sP, me_L_nx, show me_I M 3 1 4 = 0 from hm.2.2 (3, 1, 4, 0) (by decide)]) (by simp [me_I_sI, me_I_sP, me_I_nx, me_P_sI, me_P_sP, me_P_nx, me_N_sI, me_N_sP, me_N_nx, me_L_sI, me_L_sP, me_L_nx, show me_P M 0 0 6 = some (4, 3) from hm.1 (0, 0, 6, 4, 3) (by decide)]) (by simp [me_I_sI, me_I_sP, me_I_nx, me_P_sI, me_P_sP, me_P_nx, me_N_sI, me_N_sP, me_N_nx, me_L_sI, me_L_sP, me_L_nx, show me_I M 4 3 1 = 0 from hm.2.2 (4, 3, 1, 0) (by decide)]) (by simp [me_I_sI, me_I_sP, me_I_nx, me_P_sI, me_P_sP, me_P_nx, me_N_sI, me_N_sP, me_N_nx, me_L_sI, me_L_sP, me_L_nx, show me_I M 3 1 2 = (-1) from hm.2.2 (3, 1, 2, (-1)) (by decide)])) mt_Y_nextTask cf_Y rfl rfl ml_Y_237 im_Y_nextTask se_Y_nextTask d_Y_takeTurn_13 rfl rfl (Nat.le_of_ble_eq_true rfl) ?_
  rintro _ _ ⟨rfl, rfl⟩
  refine jx_eq (st2 := [.inl ((-1)), .inr (some (0, 0))]) rfl rfl rfl ?_
  refine jx_callV (x_Y_taskAt2 (d + 2) (((-1))) (by simp [me_I_sI, me_I_sP, me_I_nx, me_P_sI, me_P_sP, me_P_nx, me_N_sI, me_N_sP, me_N_nx, me_L_sI, me_L_sP, me_L_nx, show me_I M 0 0 4 = 0 from hm.2.2 (0, 0, 4, 0) (by decide)])) mt_Y_taskAt cf_Y rfl rfl ml_Y_113 im_Y_taskAt se_Y_taskAt d_Y_takeTurn_16 rfl rfl (Nat.le_of_ble_eq_true rfl) ?_
  rintro _ _ ⟨rfl, rfl⟩
  refine jx_eq (st2 := [.inr none]) rfl rfl rfl ?_
  refine jx_of (fun _ _ kz => jw_astore_n 2 d_Y_takeTurn_19 rfl (Nat.le_of_ble_eq_true rfl) kz) ?_
  dsimp only [List.set]
  refine jx_of (fun _ _ kz => jw_aload_n 2 d_Y_takeTurn_20 rfl rfl kz) ?_
  refine jx_ifnonnull 27 d_Y_takeTurn_21 (by decide) (fun _ h => by cases h) (fun _ => ?_)
  refine jx_of (fun _ _ kz => jw_bipush (-2) d_Y_takeTurn_24 (by decide) kz) ?_
  refine jx_iret d_Y_takeTurn_26 rfl ?_
  exact ⟨rfl, cid_sI (cid_sN hm (by decide)) (by decide), kp_sI (kp_sI kp_rf (by decide)) (by decide), by simp [me_I_sI]⟩
set_option maxRecDepth 20000 in
set_option maxHeartbeats 4000000 in
theorem x_Y_turn_1 {G : Gt} {M : Me} (d : Nat) (hm : cfr M) : sx G yt_Y_turn yn_Y_turn (d + 5) [.inr (some (0, 0)), .inl 1] M (fun r M' => r = some (.inl (-2)) ∧ kpM M M') := by
  refine sx_of (k := 0) (lc := [some (.inr (some (0, 0))), some (.inl 1)]) mt_Y_turn (Nat.le_of_ble_eq_true rfl) rfl ?_
  refine jx_of (fun _ _ kz => jw_iload_n 1 d_Y_turn_0 rfl rfl kz) ?_
  refine jx_if_lt 9 d_Y_turn_1 (by decide) (fun h => absurd h (by decide)) (fun _ => ?_)
  refine jx_of (fun _ _ kz => jw_iload_n 1 d_Y_turn_4 rfl rfl kz) ?_
  refine jx_of (fun _ _ kz => jw_iconst 3 d_Y_turn_5 (by decide) kz) ?_
  refine jx_icmp_lt 13 d_Y_turn_6 (by decide) (fun _ => ?_) (fun h => absurd h (by decide))
  refine jx_of (fun _ _ kz => jw_aload_n 0 d_Y_turn_13 rfl rfl kz) ?_
  refine jx_of (fun _ _ kz => jw_aload_n 0 d_Y_turn_14 rfl rfl kz) ?_
  refine jx_of (fun _ _ kz => jw_getPe (some (19, 0)) fl_Y_38 d_Y_turn_15 rfl rfl (by simp [me_I_sI, me_I_sP, me_I_nx, me_P_sI, me_P_sP, me_P_nx, me_N_sI, me_N_sP, me_N_nx, me_L_sI, me_L_sP, me_L_nx, show me_P M 0 0 5 = some (19, 0) from hm.1 (0, 0, 5, 19, 0) (by decide)]) kz) ?_
  refine jx_of (fun _ _ kz => jw_iload_n 1 d_Y_turn_18 rfl rfl kz) ?_
  refine jx_of (fun _ _ kz => jw_aalde (some (3, 1)) d_Y_turn_19 rfl rfl (by rw [show me_L _ 19 0 = 3 from (by simp [me_I_sI, me_I_sP, me_I_nx, me_P_sI, me_P_sP, me_P_nx, me_N_sI, me_N_sP, me_N_nx, me_L_sI, me_L_sP, me_L_nx, show me_L M 19 0 = 3 from hm.2.1 (19, 0, 3) (by decide)])]; unfold vp_in; decide) (by simp [me_I_sI, me_I_sP, me_I_nx, me_P_sI, me_P_sP, me_P_nx, me_N_sI, me_N_sP, me_N_nx, me_L_sI, me_L_sP, me_L_nx, show me_P M 19 0 1 = some (3, 1) from hm.1 (19, 0, 1, 3, 1) (by decide)]) kz) ?_
  refine jx_callV (x_Y_takeTurn_1 _  (cid_of hm)) mt_Y_takeTurn cf_Y rfl rfl ml_Y_106 im_Y_takeTurn se_Y_takeTurn d_Y_turn_20 rfl rfl (Nat.le_of_ble_eq_true rfl) ?_
  rintro _ M1 ⟨rfl, _, hk, _⟩
  refine jx_eq (st2 := [.inl (-2)]) rfl rfl rfl ?_
  refine jx_iret d_Y_turn_23 rfl ?_
  exact ⟨rfl, hk⟩
set_option maxRecDepth 20000 in
set_option maxHeartbeats 4000000 in
theorem x_Y_steal_2 {G : Gt} {M : Me} (d : Nat) (f0 : me_P M 0 0 5 = (some (19, 0))) (f1 : me_L M 19 0 = 3) (f2 : me_P M 19 0 0 = (some (3, 0))) (f3 : me_P M 19 0 1 = (some (3, 1))) (f4 : me_P M 19 0 2 = (some (3, 2))) (f5 : me_P M 3 0 1 = (some (4, 0))) (f6 : me_P M 3 1 1 = (some (4, 1))) (f7 : me_P M 3 2 1 = (some (4, 2))) (f8 : me_I M 4 0 1 = 0) (f9 : me_I M 4 1 1 = 0) (f10 : me_I M 4 2 1 = 0) (f11 : me_I M 3 2 0 = 2) : sx G yt_Y_steal yn_Y_steal (d + 2) [.inr (some (0, 0)), .inr (some (3, 2))] M (fun r M' => r = some (.inl ((-1))) ∧ M = M') := by
  refine sx_of (k := 5) (lc := [some (.inr (some (0, 0))), some (.inr (some (3, 2))), none, none, none, none, none]) mt_Y_steal (Nat.le_of_ble_eq_true rfl) rfl ?_
  refine jx_of (fun _ _ kz => jw_iconst 1 d_Y_steal_0 (by decide) kz) ?_
  refine jx_of (fun _ _ kz => jw_istore_n 2 d_Y_steal_1 rfl (Nat.le_of_ble_eq_true rfl) kz) ?_
  dsimp only [List.set]
  refine jx_of (fun _ _ kz => jw_iload_n 2 d_Y_steal_2 rfl rfl kz) ?_
  refine jx_of (fun _ _ kz => jw_iconst 3 d_Y_steal_3 (by decide) kz) ?_
  refine jx_icmp_ge 95 d_Y_steal_4 (by decide) (fun h => absurd h (by decide)) (fun _ => ?_)
  refine jx_of (fun _ _ kz => jw_aload_n 0 d_Y_steal_7 rfl rfl kz) ?_
  refine jx_of (fun _ _ kz => jw_getPe (some (19, 0)) fl_Y_38 d_Y_steal_8 rfl rfl (by simp [me_I_sI, me_I_sP, me_I_nx, me_P_sI, me_P_sP, me_P_nx, me_N_sI, me_N_sP, me_N_nx, me_L_sI, me_L_sP, me_L_nx, f0, f1, f2, f3, f4, f5, f6, f7, f8, f9, f10, f11]) kz) ?_
  refine jx_of (fun _ _ kz => jw_aload_n 1 d_Y_steal_11 rfl rfl kz) ?_
  refine jx_of (fun _ _ kz => jw_getIe (2) fl_Y_195 d_Y_steal_12 rfl rfl (by simp [me_I_sI, me_I_sP, me_I_nx, me_P_sI, me_P_sP, me_P_nx, me_N_sI, me_N_sP, me_N_nx, me_L_sI, me_L_sP, me_L_nx, f0, f1, f2, f3, f4, f5, f6, f7, f8, f9, f10, f11]) kz) ?_
  refine jx_of (fun _ _ kz => jw_iload_n 2 d_Y_steal_15 rfl rfl kz) ?_
  refine jx_of (fun _ _ kz => jw_iadd d_Y_steal_16 kz) ?_
  rw [show (2 + 1 : Int32) = 3 from by decide]
  refine jx_of (fun _ _ kz => jw_iconst 3 d_Y_steal_17 (by decide) kz) ?_
  refine jx_of (fun _ _ kz => jw_irem d_Y_steal_18 (by decide) kz) ?_
  rw [show (3 - 3 / 3 * 3 : Int32) = 0 from by decide]
  refine jx_of (fun _ _ kz => jw_aalde (some (3, 0)) d_Y_steal_19 rfl rfl (by rw [show me_L _ 19 0 = 3 from (by simp [me_I_sI, me_I_sP, me_I_nx, me_P_sI, me_P_sP, me_P_nx, me_N_sI, me_N_sP, me_N_nx, me_L_sI, me_L_sP, me_L_nx, f0, f1, f2, f3, f4, f5, f6, f7, f8, f9, f10, f11])]; unfold vp_in; decide) (by simp [me_I_sI, me_I_sP, me_I_nx, me_P_sI, me_P_sP, me_P_nx, me_N_sI, me_N_sP, me_N_nx, me_L_sI, me_L_sP, me_L_nx, f0, f1, f2, f3, f4, f5, f6, f7, f8, f9, f10, f11]) kz) ?_
  refine jx_of (fun _ _ kz => jw_getPe (some (4, 0)) fl_Y_165 d_Y_steal_20 rfl rfl (by simp [me_I_sI, me_I_sP, me_I_nx, me_P_sI, me_P_sP, me_P_nx, me_N_sI, me_N_sP, me_N_nx, me_L_sI, me_L_sP, me_L_nx, f0, f1, f2, f3, f4, f5, f6, f7, f8, f9, f10, f11]) kz) ?_
  refine jx_of (fun _ _ kz => jw_astore_n 3 d_Y_steal_23 rfl (Nat.le_of_ble_eq_true rfl) kz) ?_
  dsimp only [List.set]
  refine jx_of (fun _ _ kz => jw_aload_n 3 d_Y_steal_24 rfl rfl kz) ?_
  refine jx_callV (x_R_isEmpty _ 0 (by simp [me_I_sI, me_I_sP, me_I_nx, me_P_sI, me_P_sP, me_P_nx, me_N_sI, me_N_sP, me_N_nx, me_L_sI, me_L_sP, me_L_nx, f0, f1, f2, f3, f4, f5, f6, f7, f8, f9, f10, f11])) mt_R_isEmpty cf_R rfl rfl ml_Y_198 im_R_isEmpty se_R_isEmpty d_Y_steal_25 rfl rfl (Nat.le_of_ble_eq_true rfl) ?_
  rintro _ _ ⟨rfl, rfl⟩
  refine jx_eq (st2 := [.inl 1]) rfl rfl rfl ?_
  refine jx_if_ne 89 d_Y_steal_28 (by decide) (fun _ => ?_) (fun h => absurd h (by decide))
  refine jx_of (fun _ _ kz => jw_iincc 1 d_Y_steal_89 (by decide) rfl (Nat.le_of_ble_eq_true rfl) kz) ?_
  dsimp only [List.set]
  rw [show (1 + 1 : Int32) = 2 from by decide]
  refine jx_of (fun _ _ kz => jw_goto 2 d_Y_steal_92 (by decide) kz) ?_
  refine jx_of (fun _ _ kz => jw_iload_n 2 d_Y_steal_2 rfl rfl kz) ?_
  refine jx_of (fun _ _ kz => jw_iconst 3 d_Y_steal_3 (by decide) kz) ?_
  refine jx_icmp_ge 95 d_Y_steal_4 (by decide) (fun h => absurd h (by decide)) (fun _ => ?_)
  refine jx_of (fun _ _ kz => jw_aload_n 0 d_Y_steal_7 rfl rfl kz) ?_
  refine jx_of (fun _ _ kz => jw_getPe (some (19, 0)) fl_Y_38 d_Y_steal_8 rfl rfl (by simp [me_I_sI, me_I_sP, me_I_nx, me_P_sI, me_P_sP, me_P_nx, me_N_sI, me_N_sP, me_N_nx, me_L_sI, me_L_sP, me_L_nx, f0, f1, f2, f3, f4, f5, f6, f7, f8, f9, f10, f11]) kz) ?_
  refine jx_of (fun _ _ kz => jw_aload_n 1 d_Y_steal_11 rfl rfl kz) ?_
  refine jx_of (fun _ _ kz => jw_getIe (2) fl_Y_195 d_Y_steal_12 rfl rfl (by simp [me_I_sI, me_I_sP, me_I_nx, me_P_sI, me_P_sP, me_P_nx, me_N_sI, me_N_sP, me_N_nx, me_L_sI, me_L_sP, me_L_nx, f0, f1, f2, f3, f4, f5, f6, f7, f8, f9, f10, f11]) kz) ?_
  refine jx_of (fun _ _ kz => jw_iload_n 2 d_Y_steal_15 rfl rfl kz) ?_
  refine jx_of (fun _ _ kz => jw_iadd d_Y_steal_16 kz) ?_
  rw [show (2 + 2 : Int32) = 4 from by decide]
  refine jx_of (fun _ _ kz => jw_iconst 3 d_Y_steal_17 (by decide) kz) ?_
  refine jx_of (fun _ _ kz => jw_irem d_Y_steal_18 (by decide) kz) ?_
  rw [show (4 - 4 / 3 * 3 : Int32) = 1 from by decide]
  refine jx_of (fun _ _ kz => jw_aalde (some (3, 1)) d_Y_steal_19 rfl rfl (by rw [show me_L _ 19 0 = 3 from (by simp [me_I_sI, me_I_sP, me_I_nx, me_P_sI, me_P_sP, me_P_nx, me_N_sI, me_N_sP, me_N_nx, me_L_sI, me_L_sP, me_L_nx, f0, f1, f2, f3, f4, f5, f6, f7, f8, f9, f10, f11])]; unfold vp_in; decide) (by simp [me_I_sI, me_I_sP, me_I_nx, me_P_sI, me_P_sP, me_P_nx, me_N_sI, me_N_sP, me_N_nx, me_L_sI, me_L_sP, me_L_nx, f0, f1, f2, f3, f4, f5, f6, f7, f8, f9, f10, f11]) kz) ?_
  refine jx_of (fun _ _ kz => jw_getPe (some (4, 1)) fl_Y_165 d_Y_steal_20 rfl rfl (by simp [me_I_sI, me_I_sP, me_I_nx, me_P_sI, me_P_sP, me_P_nx, me_N_sI, me_N_sP, me_N_nx, me_L_sI, me_L_sP, me_L_nx, f0, f1, f2, f3, f4, f5, f6, f7, f8, f9, f10, f11]) kz) ?_
  refine jx_of (fun _ _ kz => jw_astore_n 3 d_Y_steal_23 rfl (Nat.le_of_ble_eq_true rfl) kz) ?_
  dsimp only [List.set]
  refine jx_of (fun _ _ kz => jw_aload_n 3 d_Y_steal_24 rfl rfl kz) ?_
  refine jx_callV (x_R_isEmpty _ 1 (by simp [me_I_sI, me_I_sP, me_I_nx, me_P_sI, me_P_sP, me_P_nx, me_N_sI, me_N_sP, me_N_nx, me_L_sI, me_L_sP, me_L_nx, f0, f1, f2, f3, f4, f5, f6, f7, f8, f9, f10, f11])) mt_R_isEmpty cf_R rfl rfl ml_Y_198 im_R_isEmpty se_R_isEmpty d_Y_steal_25 rfl rfl (Nat.le_of_ble_eq_true rfl) ?_
  rintro _ _ ⟨rfl, rfl⟩
  refine jx_eq (st2 := [.inl 1]) rfl rfl rfl ?_
  refine jx_if_ne 89 d_Y_steal_28 (by decide) (fun _ => ?_) (fun h => absurd h (by decide))
  refine jx_of (fun _ _ kz => jw_iincc 1 d_Y_steal_89 (by decide) rfl (Nat.le_of_ble_eq_true rfl) kz) ?_
  dsimp only [List.set]
  rw [show (2 + 1 : Int32) = 3 from by decide]
  refine jx_of (fun _ _ kz => jw_goto 2 d_Y_steal_92 (by decide) kz) ?_
  refine jx_of (fun _ _ kz => jw_iload_n 2 d_Y_steal_2 rfl rfl kz) ?_
  refine jx_of (fun _ _ kz => jw_iconst 3 d_Y_steal_3 (by decide) kz) ?_
  refine jx_icmp_ge 95 d_Y_steal_4 (by decide) (fun _ => ?_) (fun h => absurd h (by decide))
  refine jx_of (fun _ _ kz => jw_iconst (-1) d_Y_steal_95 (by decide) kz) ?_
  refine jx_iret d_Y_steal_96 rfl ?_
  exact ⟨rfl, rfl⟩
set_option maxRecDepth 20000 in
set_option maxHeartbeats 4000000 in
theorem x_Y_nextTask_2 {G : Gt} {M : Me} (d : Nat) (f0 : me_P M 0 0 5 = (some (19, 0))) (f1 : me_L M 19 0 = 3) (f2 : me_P M 19 0 0 = (some (3, 0))) (f3 : me_P M 19 0 1 = (some (3, 1))) (f4 : me_P M 19 0 2 = (some (3, 2))) (f5 : me_P M 3 0 1 = (some (4, 0))) (f6 : me_P M 3 1 1 = (some (4, 1))) (f7 : me_P M 3 2 1 = (some (4, 2))) (f8 : me_I M 4 0 1 = 0) (f9 : me_I M 4 1 1 = 0) (f10 : me_I M 4 2 1 = 0) (f11 : me_I M 3 2 0 = 2) (f12 : me_I M 3 2 4 = 0) (f13 : me_P M 0 0 6 = (some (4, 3))) (f14 : me_I M 4 3 1 = 0) (f15 : me_I M 3 2 2 = (-1)) : sx G yt_Y_nextTask yn_Y_nextTask (d + 3) [.inr (some (0, 0)), .inr (some (3, 2))] M (fun r M' => r = some (.inl ((-1))) ∧ (me_sI M 3 2 4 (0)) = M') := by
  refine sx_of (k := 2) (lc := [some (.inr (some (0, 0))), some (.inr (some (3, 2))), none, none]) mt_Y_nextTask (Nat.le_of_ble_eq_true rfl) rfl ?_
  refine jx_of (fun _ _ kz => jw_aload_n 1 d_Y_nextTask_0 rfl rfl kz) ?_
  refine jx_of (fun _ _ kz => jw_getIe (me_I M 3 2 3) fl_Y_162 d_Y_nextTask_1 rfl rfl (by simp [me_I_sI, me_I_sP, me_I_nx, me_P_sI, me_P_sP, me_P_nx, me_N_sI, me_N_sP, me_N_nx, me_L_sI, me_L_sP, me_L_nx, f0, f1, f2, f3, f4, f5, f6, f7, f8, f9, f10, f11, f12, f13, f14, f15]) kz) ?_
  refine jx_of (fun _ _ kz => jw_iconst 5 d_Y_nextTask_4 (by decide) kz) ?_
  refine jx_of (fun _ _ kz => jw_irem d_Y_nextTask_5 (by decide) kz) ?_
  refine jx_if_ne 23 d_Y_nextTask_6 (by decide) (fun b_6 => ?_) (fun b_6 => ?_)
  · skip
    refine jx_of (fun _ _ kz => jw_iconst 0 d_Y_nextTask_23 (by decide) kz) ?_
    refine jx_of (fun _ _ kz => jw_istore_n 2 d_Y_nextTask_24 rfl (Nat.le_of_ble_eq_true rfl) kz) ?_
    dsimp only [List.set]
    refine jx_of (fun _ _ kz => jw_aload_n 1 d_Y_nextTask_25 rfl rfl kz) ?_
    refine jx_of (fun _ _ kz => jw_getIe (0) fl_Y_172 d_Y_nextTask_26 rfl rfl (by simp [me_I_sI, me_I_sP, me_I_nx, me_P_sI, me_P_sP, me_P_nx, me_N_sI, me_N_sP, me_N_nx, me_L_sI, me_L_sP, me_L_nx, f0, f1, f2, f3, f4, f5, f6, f7, f8, f9, f10, f11, f12, f13, f14, f15]) kz) ?_
    refine jx_of (fun _ _ kz => jw_iconst 2 d_Y_nextTask_29 (by decide) kz) ?_
    refine jx_icmp_lt 53 d_Y_nextTask_30 (by decide) (fun _ => ?_) (fun h => absurd h (by decide))
    refine jx_of (fun _ _ kz => jw_iconst 1 d_Y_nextTask_53 (by decide) kz) ?_
    refine jx_of (fun _ _ kz => jw_goto 58 d_Y_nextTask_54 (by decide) kz) ?_
    refine jx_of (fun _ _ kz => jw_istore_n 3 d_Y_nextTask_58 rfl (Nat.le_of_ble_eq_true rfl) kz) ?_
    dsimp only [List.set]
    refine jx_of (fun _ _ kz => jw_aload_n 1 d_Y_nextTask_59 rfl rfl kz) ?_
    refine jx_of (fun _ _ kz => jw_getIe ((-1)) fl_Y_159 d_Y_nextTask_60 rfl rfl (by simp [me_I_sI, me_I_sP, me_I_nx, me_P_sI, me_P_sP, me_P_nx, me_N_sI, me_N_sP, me_N_nx, me_L_sI, me_L_sP, me_L_nx, f0, f1, f2, f3, f4, f5, f6, f7, f8, f9, f10, f11, f12, f13, f14, f15]) kz) ?_
    refine jx_of (fun _ _ kz => jw_iconst (-1) d_Y_nextTask_63 (by decide) kz) ?_
    refine jx_icmp_eq 90 d_Y_nextTask_64 (by decide) (fun _ => ?_) (fun h => absurd h (by decide))
    refine jx_of (fun _ _ kz => jw_aload_n 1 d_Y_nextTask_90 rfl rfl kz) ?_
    refine jx_of (fun _ _ kz => jw_iconst 0 d_Y_nextTask_91 (by decide) kz) ?_
    refine jx_of (fun _ _ kz => jw_putI fl_Y_172 (Or.inl rfl) rfl rfl d_Y_nextTask_92 rfl rfl kz) ?_
    refine jx_of (fun _ _ kz => jw_iload_n 2 d_Y_nextTask_95 rfl rfl kz) ?_
    refine jx_if_ne 117 d_Y_nextTask_96 (by decide) (fun h => absurd h (by decide)) (fun _ => ?_)
    refine jx_of (fun _ _ kz => jw_aload_n 1 d_Y_nextTask_99 rfl rfl kz) ?_
    refine jx_of (fun _ _ kz => jw_getPe (some (4, 2)) fl_Y_165 d_Y_nextTask_100 rfl rfl (by simp [me_I_sI, me_I_sP, me_I_nx, me_P_sI, me_P_sP, me_P_nx, me_N_sI, me_N_sP, me_N_nx, me_L_sI, me_L_sP, me_L_nx, f0, f1, f2, f3, f4, f5, f6, f7, f8, f9, f10, f11, f12, f13, f14, f15]) kz) ?_
    refine jx_callV (x_R_isEmpty (d + 1) 2 (by simp [me_I_sI, me_I_sP, me_I_nx, me_P_sI, me_P_sP, me_P_nx, me_N_sI, me_N_sP, me_N_nx, me_L_sI, me_L_sP, me_L_nx, f0, f1, f2, f3, f4, f5, f6, f7, f8, f9, f10, f11, f12, f13, f14, f15])) mt_R_isEmpty cf_R rfl rfl ml_Y_198 im_R_isEmpty se_R_isEmpty d_Y_nextTask_103 rfl rfl (Nat.le_of_ble_eq_true rfl) ?_
    rintro _ _ ⟨rfl, rfl⟩
    refine jx_eq (st2 := [.inl 1]) rfl rfl rfl ?_
    refine jx_if_ne 117 d_Y_nextTask_106 (by decide) (fun _ => ?_) (fun h => absurd h (by decide))
    refine jx_of (fun _ _ kz => jw_aload_n 0 d_Y_nextTask_117 rfl rfl kz) ?_
    refine jx_of (fun _ _ kz => jw_getPe (some (4, 3)) fl_Y_45 d_Y_nextTask_118 rfl rfl (by simp [me_I_sI, me_I_sP, me_I_nx, me_P_sI, me_P_sP, me_P_nx, me_N_sI, me_N_sP, me_N_nx, me_L_sI, me_L_sP, me_L_nx, f0, f1, f2, f3, f4, f5, f6, f7, f8, f9, f10, f11, f12, f13, f14, f15]) kz) ?_
    refine jx_callV (x_R_isEmpty (d + 1) 3 (by simp [me_I_sI, me_I_sP, me_I_nx, me_P_sI, me_P_sP, me_P_nx, me_N_sI, me_N_sP, me_N_nx, me_L_sI, me_L_sP, me_L_nx, f0, f1, f2, f3, f4, f5, f6, f7, f8, f9, f10, f11, f12, f13, f14, f15])) mt_R_isEmpty cf_R rfl rfl ml_Y_198 im_R_isEmpty se_R_isEmpty d_Y_nextTask_121 rfl rfl (Nat.le_of_ble_eq_true rfl) ?_
    rintro _ _ ⟨rfl, rfl⟩
    refine jx_eq (st2 := [.inl 1]) rfl rfl rfl ?_
    refine jx_if_eq 135 d_Y_nextTask_124 (by decide) (fun h => absurd h (by decide)) (fun _ => ?_)
    refine jx_of (fun _ _ kz => jw_aload_n 0 d_Y_nextTask_127 rfl rfl kz) ?_
    refine jx_of (fun _ _ kz => jw_aload_n 1 d_Y_nextTask_128 rfl rfl kz) ?_
    refine jx_callV (x_Y_steal_2 _  (by simp [me_I_sI, me_I_sP, me_I_nx, me_P_sI, me_P_sP, me_P_nx, me_N_sI, me_N_sP, me_N_nx, me_L_sI, me_L_sP, me_L_nx, f0, f1, f2, f3, f4, f5, f6, f7, f8, f9, f10, f11, f12, f13, f14, f15]) (by simp [me_I_sI, me_I_sP, me_I_nx, me_P_sI, me_P_sP, me_P_nx, me_N_sI, me_N_sP, me_N_nx, me_L_sI, me_L_sP, me_L_nx, f0, f1, f2, f3, f4, f5, f6, f7, f8, f9, f10, f11, f12, f13, f14, f15]) (by simp [me_I_sI, me_I_sP, me_I_nx, me_P_sI, me_P_sP, me_P_nx, me_N_sI, me_N_sP, me_N_nx, me_L_sI, me_L_sP, me_L_nx, f0, f1, f2, f3, f4, f5, f6, f7, f8, f9, f10, f11, f12, f13, f14, f15]) (by simp [me_I_sI, me_I_sP, me_I_nx, me_P_sI, me_P_sP, me_P_nx, me_N_sI, me_N_sP, me_N_nx, me_L_sI, me_L_sP, me_L_nx, f0, f1, f2, f3, f4, f5, f6, f7, f8, f9, f10, f11, f12, f13, f14, f15]) (by simp [me_I_sI, me_I_sP, me_I_nx, me_P_sI, me_P_sP, me_P_nx, me_N_sI, me_N_sP, me_N_nx, me_L_sI, me_L_sP, me_L_nx, f0, f1, f2, f3, f4, f5, f6, f7, f8, f9, f10, f11, f12, f13, f14, f15]) (by simp [me_I_sI, me_I_sP, me_I_nx, me_P_sI, me_P_sP, me_P_nx, me_N_sI, me_N_sP, me_N_nx, me_L_sI, me_L_sP, me_L_nx, f0, f1, f2, f3, f4, f5, f6, f7, f8, f9, f10, f11, f12, f13, f14, f15]) (by simp [me_I_sI, me_I_sP, me_I_nx, me_P_sI, me_P_sP, me_P_nx, me_N_sI, me_N_sP, me_N_nx, me_L_sI, me_L_sP, me_L_nx, f0, f1, f2, f3, f4, f5, f6, f7, f8, f9, f10, f11, f12, f13, f14, f15]) (by simp [me_I_sI, me_I_sP, me_I_nx, me_P_sI, me_P_sP, me_P_nx, me_N_sI, me_N_sP, me_N_nx, me_L_sI, me_L_sP, me_L_nx, f0, f1, f2, f3, f4, f5, f6, f7, f8, f9, f10, f11, f12, f13, f14, f15]) (by simp [me_I_sI, me_I_sP, me_I_nx, me_P_sI, me_P_sP, me_P_nx, me_N_sI, me_N_sP, me_N_nx, me_L_sI, me_L_sP, me_L_nx, f0, f1, f2, f3, f4, f5, f6, f7, f8, f9, f10, f11, f12, f13, f14, f15]) (by simp [me_I_sI, me_I_sP, me_I_nx, me_P_sI, me_P_sP, me_P_nx, me_N_sI, me_N_sP, me_N_nx, me_L_sI, me_L_sP, me_L_nx, f0, f1, f2, f3, f4, f5, f6, f7, f8, f9, f10, f11, f12, f13, f14, f15]) (by simp [me_I_sI, me_I_sP, me_I_nx, me_P_sI, me_P_sP, me_P_nx, me_N_sI, me_N_sP, me_N_nx, me_L_sI, me_L_sP, me_L_nx, f0, f1, f2, f3, f4, f5, f6, f7, f8, f9, f10, f11, f12, f13, f14, f15]) (by simp [me_I_sI, me_I_sP, me_I_nx, me_P_sI, me_P_sP, me_P_nx, me_N_sI, me_N_sP, me_N_nx, me_L_sI, me_L_sP, me_L_nx, f0, f1, f2, f3, f4, f5, f6, f7, f8, f9, f10, f11, f12, f13, f14, f15])) mt_Y_steal cf_Y rfl rfl ml_Y_254 im_Y_steal se_Y_steal d_Y_nextTask_129 rfl rfl (Nat.le_of_ble_eq_true rfl) ?_
    rintro _ _ ⟨rfl, rfl⟩
    refine jx_eq (st2 := [.inl ((-1))]) rfl rfl rfl ?_
    refine jx_of (fun _ _ kz => jw_goto 142 d_Y_nextTask_132 (by decide) kz) ?_
    refine jx_iret d_Y_nextTask_142 rfl ?_
    first | exact ⟨rfl, rfl⟩ | exact ⟨by simp [b_6], rfl⟩ | exact ⟨by simp_all, by simp_all⟩
  · skip
    refine jx_of (fun _ _ kz => jw_aload_n 0 d_Y_nextTask_9 rfl rfl kz) ?_
    refine jx_of (fun _ _ kz => jw_getPe (some (4, 3)) fl_Y_45 d_Y_nextTask_10 rfl rfl (by simp [me_I_sI, me_I_sP, me_I_nx, me_P_sI, me_P_sP, me_P_nx, me_N_sI, me_N_sP, me_N_nx, me_L_sI, me_L_sP, me_L_nx, f0, f1, f2, f3, f4, f5, f6, f7, f8, f9, f10, f11, f12, f13, f14, f15]) kz) ?_
    refine jx_callV (x_R_isEmpty (d + 1) 3 (by simp [me_I_sI, me_I_sP, me_I_nx, me_P_sI, me_P_sP, me_P_nx, me_N_sI, me_N_sP, me_N_nx, me_L_sI, me_L_sP, me_L_nx, f0, f1, f2, f3, f4, f5, f6, f7, f8, f9, f10, f11, f12, f13, f14, f15])) mt_R_isEmpty cf_R rfl rfl ml_Y_198 im_R_isEmpty se_R_isEmpty d_Y_nextTask_13 rfl rfl (Nat.le_of_ble_eq_true rfl) ?_
    rintro _ _ ⟨rfl, rfl⟩
    refine jx_eq (st2 := [.inl 1]) rfl rfl rfl ?_
    refine jx_if_ne 23 d_Y_nextTask_16 (by decide) (fun _ => ?_) (fun h => absurd h (by decide))
    refine jx_of (fun _ _ kz => jw_iconst 0 d_Y_nextTask_23 (by decide) kz) ?_
    refine jx_of (fun _ _ kz => jw_istore_n 2 d_Y_nextTask_24 rfl (Nat.le_of_ble_eq_true rfl) kz) ?_
    dsimp only [List.set]
    refine jx_of (fun _ _ kz => jw_aload_n 1 d_Y_nextTask_25 rfl rfl kz) ?_
    refine jx_of (fun _ _ kz => jw_getIe (0) fl_Y_172 d_Y_nextTask_26 rfl rfl (by simp [me_I_sI, me_I_sP, me_I_nx, me_P_sI, me_P_sP, me_P_nx, me_N_sI, me_N_sP, me_N_nx, me_L_sI, me_L_sP, me_L_nx, f0, f1, f2, f3, f4, f5, f6, f7, f8, f9, f10, f11, f12, f13, f14, f15]) kz) ?_
    refine jx_of (fun _ _ kz => jw_iconst 2 d_Y_nextTask_29 (by decide) kz) ?_
    refine jx_icmp_lt 53 d_Y_nextTask_30 (by decide) (fun _ => ?_) (fun h => absurd h (by decide))
    refine jx_of (fun _ _ kz => jw_iconst 1 d_Y_nextTask_53 (by decide) kz) ?_
    refine jx_of (fun _ _ kz => jw_goto 58 d_Y_nextTask_54 (by decide) kz) ?_
    refine jx_of (fun _ _ kz => jw_istore_n 3 d_Y_nextTask_58 rfl (Nat.le_of_ble_eq_true rfl) kz) ?_
    dsimp only [List.set]
    refine jx_of (fun _ _ kz => jw_aload_n 1 d_Y_nextTask_59 rfl rfl kz) ?_
    refine jx_of (fun _ _ kz => jw_getIe ((-1)) fl_Y_159 d_Y_nextTask_60 rfl rfl (by simp [me_I_sI, me_I_sP, me_I_nx, me_P_sI, me_P_sP, me_P_nx, me_N_sI, me_N_sP, me_N_nx, me_L_sI, me_L_sP, me_L_nx, f0, f1, f2, f3, f4, f5, f6, f7, f8, f9, f10, f11, f12, f13, f14, f15]) kz) ?_
    refine jx_of (fun _ _ kz => jw_iconst (-1) d_Y_nextTask_63 (by decide) kz) ?_
    refine jx_icmp_eq 90 d_Y_nextTask_64 (by decide) (fun _ => ?_) (fun h => absurd h (by decide))
    refine jx_of (fun _ _ kz => jw_aload_n 1 d_Y_nextTask_90 rfl rfl kz) ?_
    refine jx_of (fun _ _ kz => jw_iconst 0 d_Y_nextTask_91 (by decide) kz) ?_
    refine jx_of (fun _ _ kz => jw_putI fl_Y_172 (Or.inl rfl) rfl rfl d_Y_nextTask_92 rfl rfl kz) ?_
    refine jx_of (fun _ _ kz => jw_iload_n 2 d_Y_nextTask_95 rfl rfl kz) ?_
    refine jx_if_ne 117 d_Y_nextTask_96 (by decide) (fun h => absurd h (by decide)) (fun _ => ?_)
    refine jx_of (fun _ _ kz => jw_aload_n 1 d_Y_nextTask_99 rfl rfl kz) ?_
    refine jx_of (fun _ _ kz => jw_getPe (some (4, 2)) fl_Y_165 d_Y_nextTask_100 rfl rfl (by simp [me_I_sI, me_I_sP, me_I_nx, me_P_sI, me_P_sP, me_P_nx, me_N_sI, me_N_sP, me_N_nx, me_L_sI, me_L_sP, me_L_nx, f0, f1, f2, f3, f4, f5, f6, f7, f8, f9, f10, f11, f12, f13, f14, f15]) kz) ?_
    refine jx_callV (x_R_isEmpty (d + 1) 2 (by simp [me_I_sI, me_I_sP, me_I_nx, me_P_sI, me_P_sP, me_P_nx, me_N_sI, me_N_sP, me_N_nx, me_L_sI, me_L_sP, me_L_nx, f0, f1, f2, f3, f4, f5, f6, f7, f8, f9, f10, f11, f12, f13, f14, f15])) mt_R_isEmpty cf_R rfl rfl ml_Y_198 im_R_isEmpty se_R_isEmpty d_Y_nextTask_103 rfl rfl (Nat.le_of_ble_eq_true rfl) ?_
    rintro _ _ ⟨rfl, rfl⟩
    refine jx_eq (st2 := [.inl 1]) rfl rfl rfl ?_
    refine jx_if_ne 117 d_Y_nextTask_106 (by decide) (fun _ => ?_) (fun h => absurd h (by decide))
    refine jx_of (fun _ _ kz => jw_aload_n 0 d_Y_nextTask_117 rfl rfl kz) ?_
    refine jx_of (fun _ _ kz => jw_getPe (some (4, 3)) fl_Y_45 d_Y_nextTask_118 rfl rfl (by simp [me_I_sI, me_I_sP, me_I_nx, me_P_sI, me_P_sP, me_P_nx, me_N_sI, me_N_sP, me_N_nx, me_L_sI, me_L_sP, me_L_nx, f0, f1, f2, f3, f4, f5, f6, f7, f8, f9, f10, f11, f12, f13, f14, f15]) kz) ?_
    refine jx_callV (x_R_isEmpty (d + 1) 3 (by simp [me_I_sI, me_I_sP, me_I_nx, me_P_sI, me_P_sP, me_P_nx, me_N_sI, me_N_sP, me_N_nx, me_L_sI, me_L_sP, me_L_nx, f0, f1, f2, f3, f4, f5, f6, f7, f8, f9, f10, f11, f12, f13, f14, f15])) mt_R_isEmpty cf_R rfl rfl ml_Y_198 im_R_isEmpty se_R_isEmpty d_Y_nextTask_121 rfl rfl (Nat.le_of_ble_eq_true rfl) ?_
    rintro _ _ ⟨rfl, rfl⟩
    refine jx_eq (st2 := [.inl 1]) rfl rfl rfl ?_
    refine jx_if_eq 135 d_Y_nextTask_124 (by decide) (fun h => absurd h (by decide)) (fun _ => ?_)
    refine jx_of (fun _ _ kz => jw_aload_n 0 d_Y_nextTask_127 rfl rfl kz) ?_
    refine jx_of (fun _ _ kz => jw_aload_n 1 d_Y_nextTask_128 rfl rfl kz) ?_
    refine jx_callV (x_Y_steal_2 _  (by simp [me_I_sI, me_I_sP, me_I_nx, me_P_sI, me_P_sP, me_P_nx, me_N_sI, me_N_sP, me_N_nx, me_L_sI, me_L_sP, me_L_nx, f0, f1, f2, f3, f4, f5, f6, f7, f8, f9, f10, f11, f12, f13, f14, f15]) (by simp [me_I_sI, me_I_sP, me_I_nx, me_P_sI, me_P_sP, me_P_nx, me_N_sI, me_N_sP, me_N_nx, me_L_sI, me_L_sP, me_L_nx, f0, f1, f2, f3, f4, f5, f6, f7, f8, f9, f10, f11, f12, f13, f14, f15]) (by simp [me_I_sI, me_I_sP, me_I_nx, me_P_sI, me_P_sP, me_P_nx, me_N_sI, me_N_sP, me_N_nx, me_L_sI, me_L_sP, me_L_nx, f0, f1, f2, f3, f4, f5, f6, f7, f8, f9, f10, f11, f12, f13, f14, f15]) (by simp [me_I_sI, me_I_sP, me_I_nx, me_P_sI, me_P_sP, me_P_nx, me_N_sI, me_N_sP, me_N_nx, me_L_sI, me_L_sP, me_L_nx, f0, f1, f2, f3, f4, f5, f6, f7, f8, f9, f10, f11, f12, f13, f14, f15]) (by simp [me_I_sI, me_I_sP, me_I_nx, me_P_sI, me_P_sP, me_P_nx, me_N_sI, me_N_sP, me_N_nx, me_L_sI, me_L_sP, me_L_nx, f0, f1, f2, f3, f4, f5, f6, f7, f8, f9, f10, f11, f12, f13, f14, f15]) (by simp [me_I_sI, me_I_sP, me_I_nx, me_P_sI, me_P_sP, me_P_nx, me_N_sI, me_N_sP, me_N_nx, me_L_sI, me_L_sP, me_L_nx, f0, f1, f2, f3, f4, f5, f6, f7, f8, f9, f10, f11, f12, f13, f14, f15]) (by simp [me_I_sI, me_I_sP, me_I_nx, me_P_sI, me_P_sP, me_P_nx, me_N_sI, me_N_sP, me_N_nx, me_L_sI, me_L_sP, me_L_nx, f0, f1, f2, f3, f4, f5, f6, f7, f8, f9, f10, f11, f12, f13, f14, f15]) (by simp [me_I_sI, me_I_sP, me_I_nx, me_P_sI, me_P_sP, me_P_nx, me_N_sI, me_N_sP, me_N_nx, me_L_sI, me_L_sP, me_L_nx, f0, f1, f2, f3, f4, f5, f6, f7, f8, f9, f10, f11, f12, f13, f14, f15]) (by simp [me_I_sI, me_I_sP, me_I_nx, me_P_sI, me_P_sP, me_P_nx, me_N_sI, me_N_sP, me_N_nx, me_L_sI, me_L_sP, me_L_nx, f0, f1, f2, f3, f4, f5, f6, f7, f8, f9, f10, f11, f12, f13, f14, f15]) (by simp [me_I_sI, me_I_sP, me_I_nx, me_P_sI, me_P_sP, me_P_nx, me_N_sI, me_N_sP, me_N_nx, me_L_sI, me_L_sP, me_L_nx, f0, f1, f2, f3, f4, f5, f6, f7, f8, f9, f10, f11, f12, f13, f14, f15]) (by simp [me_I_sI, me_I_sP, me_I_nx, me_P_sI, me_P_sP, me_P_nx, me_N_sI, me_N_sP, me_N_nx, me_L_sI, me_L_sP, me_L_nx, f0, f1, f2, f3, f4, f5, f6, f7, f8, f9, f10, f11, f12, f13, f14, f15]) (by simp [me_I_sI, me_I_sP, me_I_nx, me_P_sI, me_P_sP, me_P_nx, me_N_sI, me_N_sP, me_N_nx, me_L_sI, me_L_sP, me_L_nx, f0, f1, f2, f3, f4, f5, f6, f7, f8, f9, f10, f11, f12, f13, f14, f15])) mt_Y_steal cf_Y rfl rfl ml_Y_254 im_Y_steal se_Y_steal d_Y_nextTask_129 rfl rfl (Nat.le_of_ble_eq_true rfl) ?_
    rintro _ _ ⟨rfl, rfl⟩
    refine jx_eq (st2 := [.inl ((-1))]) rfl rfl rfl ?_
    refine jx_of (fun _ _ kz => jw_goto 142 d_Y_nextTask_132 (by decide) kz) ?_
    refine jx_iret d_Y_nextTask_142 rfl ?_
    first | exact ⟨rfl, rfl⟩ | exact ⟨by simp [b_6], rfl⟩ | exact ⟨by simp_all, by simp_all⟩
set_option maxRecDepth 20000 in
set_option maxHeartbeats 4000000 in
theorem x_Y_takeTurn_2 {G : Gt} {M : Me} (d : Nat) (hm : cid M) : sx G yt_Y_takeTurn yn_Y_takeTurn (d + 4) [.inr (some (0, 0)), .inr (some (3, 2))] M (fun r M' => r = some (.inl (-2)) ∧ cid M' ∧ kpM M M' ∧ me_I M' 0 0 13 = me_I M 0 0 13) := by
  refine sx_of (k := 1) (lc := [some (.inr (some (0, 0))), some (.inr (some (3, 2))), none]) mt_Y_takeTurn (Nat.le_of_ble_eq_true rfl) rfl ?_
  refine jx_of (fun _ _ kz => jw_aload_n 1 d_Y_takeTurn_0 rfl rfl kz) ?_
  refine jx_of (fun _ _ kz => jw_dup d_Y_takeTurn_1 kz) ?_
  refine jx_of (fun _ _ kz => jw_getIe (me_I M 3 2 3) fl_Y_162 d_Y_takeTurn_2 rfl rfl (by simp [me_I_sI, me_I_sP, me_I_nx, me_P_sI, me_P_sP, me_P_nx, me_N_sI, me_N_sP, me_N_nx, me_L_sI, me_L_sP, me_L_nx]) kz) ?_
  refine jx_of (fun _ _ kz => jw_iconst 1 d_Y_takeTurn_5 (by decide) kz) ?_
  refine jx_of (fun _ _ kz => jw_iadd d_Y_takeTurn_6 kz) ?_
  refine jx_of (fun _ _ kz => jw_putI fl_Y_162 (Or.inl rfl) rfl rfl d_Y_takeTurn_7 rfl rfl kz) ?_
  refine jx_of (fun _ _ kz => jw_aload_n 0 d_Y_takeTurn_10 rfl rfl kz) ?_
  refine jx_of (fun _ _ kz => jw_aload_n 0 d_Y_takeTurn_11 rfl rfl kz) ?_
  refine jx_of (fun _ _ kz => jw_aload_n 1 d_Y_takeTurn_12 rfl rfl kz) ?_
  refine jx_callV (x_Y_nextTask_2 _  (by simp [me_I_sI, me_I_sP, me_I_nx, me_P_sI, me_P_sP, me_P_nx, me_N_sI, me_N_sP, me_N_nx, me_L_sI, me_L_sP, me_L_nx, show me_P M 0 0 5 = some (19, 0) from hm.1 (0, 0, 5, 19, 0) (by decide)]) (by simp [me_I_sI, me_I_sP, me_I_nx, me_P_sI, me_P_sP, me_P_nx, me_N_sI, me_N_sP, me_N_nx, me_L_sI, me_L_sP, me_L_nx, show me_L M 19 0 = 3 from hm.2.1 (19, 0, 3) (by decide)]) (by simp [me_I_sI, me_I_sP, me_I_nx, me_P_sI, me_P_sP, me_P_nx, me_N_sI, me_N_sP, me_N_nx, me_L_sI, me_L_sP, me_L_nx, show me_P M 19 0 0 = some (3, 0) from hm.1 (19, 0, 0, 3, 0) (by decide)]) (by simp [me_I_sI, me_I_sP, me_I_nx, me_P_sI, me_P_sP, me_P_nx, me_N_sI, me_N_sP, me_N_nx, me_L_sI, me_L_sP, me_L_nx, show me_P M 19 0 1 = some (3, 1) from hm.1 (19, 0, 1, 3, 1) (by decide)]) (by simp [me_I_sI, me_I_sP, me_I_nx, me_P_sI, me_P_sP, me_P_nx, me_N_sI, me_N_sP, me_N_nx, me_L_sI, me_L_sP, me_L_nx, show me_P M 19 0 2 = some (3, 2) from hm.1 (19, 0, 2, 3, 2) (by decide)]) (by simp [me_I_sI, me_I_sP, me_I_nx, me_P_sI, me_P_sP, me_P_nx, me_N_sI, me_N_sP, me_N_nx, me_L_sI, me_L_sP, me_L_nx, show me_P M 3 0 1 = some (4, 0) from hm.1 (3, 0, 1, 4, 0) (by decide)]) (by simp [me_I_sI, me_I_sP, me_I_nx, me_P_sI, me_P_sP, me_P_nx, me_N_sI, me_N_sP, me_N_nx, me_L_sI, me_L_sP, me_L_nx, show me_P M 3 1 1 = some (4, 1) from hm.1 (3, 1, 1, 4, 1) (by decide)]) (by simp [me_I_sI, me_I_sP, me_I_nx, me_P_sI, me_P_sP, me_P_nx, me_N_sI, me_N_sP, me_N_nx, me_L_sI, me_L_sP, me_L_nx, show me_P M 3 2 1 = some (4, 2) from hm.1 (3, 2, 1, 4, 2) (by decide)]) (by simp [me_I_sI, me_I_sP, me_I_nx, me_P_sI, me_P_sP, me_P_nx, me_N_sI, me_N_sP, me_N_nx, me_L_sI, me_L_sP, me_L_nx, show me_I M 4 0 1 = 0 from hm.2.2 (4, 0, 1, 0) (by decide)]) (by simp [me_I_sI, me_I_sP, me_I_nx, me_P_sI, me_P_sP, me_P_nx, me_N_sI, me_N_sP, me_N_nx, me_L_sI, me_L_sP, me_L_nx, show me_I M 4 1 1 = 0 from hm.2.2 (4, 1, 1, 0) (by decide)]) (by simp [me_I_sI, me_I_sP, me_I_nx, me_P_sI, me_P_sP, me_P_nx, me_N_sI, me_N_sP, me_N_nx, me_L_sI, me_L_sP, me_L_nx, show me_I M 4 2 1 = 0 from hm.2.2 (4, 2, 1, 0) (by decide)]) (by simp [me_I_sI, me_I_sP, me_I_nx, me_P_sI, me_P_sP, me_P_nx, me_N_sI, me_N_sP, me_N_nx, me_L_sI, me_L_sP, me_L_nx, show me_I M 3 2 0 = 2 from hm.2.2 (3, 2, 0, 2) (by decide)]) (by simp [me_I_sI, me_I_sP, me_I_nx, me_P_sI, me_P_sP, me_P_nx, me_N_sI, me_N_sP, me_N_nx, me_L_sI, me_L_sP, me_L_nx, show me_I M 3 2 4 = 0 from hm.2.2 (3, 2, 4, 0) (by decide)]) (by simp [me_I_sI, me_I_sP, me_I_nx, me_P_sI, me_P_sP, me_P_nx, me_N_sI, me_N_sP, me_N_nx, me_L_sI, me_L_sP, me_L_nx, show me_P M 0 0 6 = some (4, 3) from hm.1 (0, 0, 6, 4, 3) (by decide)]) (by simp [me_I_sI, me_I_sP, me_I_nx, me_P_sI, me_P_sP, me_P_nx, me_N_sI, me_N_sP, me_N_nx, me_L_sI, me_L_sP, me_L_nx, show me_I M 4 3 1 = 0 from hm.2.2 (4, 3, 1, 0) (by decide)]) (by simp [me_I_sI, me_I_sP, me_I_nx, me_P_sI, me_P_sP, me_P_nx, me_N_sI, me_N_sP, me_N_nx, me_L_sI, me_L_sP, me_L_nx, show me_I M 3 2 2 = (-1) from hm.2.2 (3, 2, 2, (-1)) (by decide)])) mt_Y_nextTask cf_Y rfl rfl ml_Y_237 im_Y_nextTask se_Y_nextTask d_Y_takeTurn_13 rfl rfl (Nat.le_of_ble_eq_true rfl) ?_
  rintro _ _ ⟨rfl, rfl⟩
  refine jx_eq (st2 := [.inl ((-1)), .inr (some (0, 0))]) rfl rfl rfl ?_
  refine jx_callV (x_Y_taskAt2 (d + 2) (((-1))) (by simp [me_I_sI, me_I_sP, me_I_nx, me_P_sI, me_P_sP, me_P_nx, me_N_sI, me_N_sP, me_N_nx, me_L_sI, me_L_sP, me_L_nx, show me_I M 0 0 4 = 0 from hm.2.2 (0, 0, 4, 0) (by decide)])) mt_Y_taskAt cf_Y rfl rfl ml_Y_113 im_Y_taskAt se_Y_taskAt d_Y_takeTurn_16 rfl rfl (Nat.le_of_ble_eq_true rfl) ?_
  rintro _ _ ⟨rfl, rfl⟩
  refine jx_eq (st2 := [.inr none]) rfl rfl rfl ?_
  refine jx_of (fun _ _ kz => jw_astore_n 2 d_Y_takeTurn_19 rfl (Nat.le_of_ble_eq_true rfl) kz) ?_
  dsimp only [List.set]
  refine jx_of (fun _ _ kz => jw_aload_n 2 d_Y_takeTurn_20 rfl rfl kz) ?_
  refine jx_ifnonnull 27 d_Y_takeTurn_21 (by decide) (fun _ h => by cases h) (fun _ => ?_)
  refine jx_of (fun _ _ kz => jw_bipush (-2) d_Y_takeTurn_24 (by decide) kz) ?_
  refine jx_iret d_Y_takeTurn_26 rfl ?_
  exact ⟨rfl, cid_sI (cid_sN hm (by decide)) (by decide), kp_sI (kp_sI kp_rf (by decide)) (by decide), by simp [me_I_sI]⟩
set_option maxRecDepth 20000 in
set_option maxHeartbeats 4000000 in
theorem x_Y_turn_2 {G : Gt} {M : Me} (d : Nat) (hm : cfr M) : sx G yt_Y_turn yn_Y_turn (d + 5) [.inr (some (0, 0)), .inl 2] M (fun r M' => r = some (.inl (-2)) ∧ kpM M M') := by
  refine sx_of (k := 0) (lc := [some (.inr (some (0, 0))), some (.inl 2)]) mt_Y_turn (Nat.le_of_ble_eq_true rfl) rfl ?_
  refine jx_of (fun _ _ kz => jw_iload_n 1 d_Y_turn_0 rfl rfl kz) ?_
  refine jx_if_lt 9 d_Y_turn_1 (by decide) (fun h => absurd h (by decide)) (fun _ => ?_)
  refine jx_of (fun _ _ kz => jw_iload_n 1 d_Y_turn_4 rfl rfl kz) ?_
  refine jx_of (fun _ _ kz => jw_iconst 3 d_Y_turn_5 (by decide) kz) ?_
  refine jx_icmp_lt 13 d_Y_turn_6 (by decide) (fun _ => ?_) (fun h => absurd h (by decide))
  refine jx_of (fun _ _ kz => jw_aload_n 0 d_Y_turn_13 rfl rfl kz) ?_
  refine jx_of (fun _ _ kz => jw_aload_n 0 d_Y_turn_14 rfl rfl kz) ?_
  refine jx_of (fun _ _ kz => jw_getPe (some (19, 0)) fl_Y_38 d_Y_turn_15 rfl rfl (by simp [me_I_sI, me_I_sP, me_I_nx, me_P_sI, me_P_sP, me_P_nx, me_N_sI, me_N_sP, me_N_nx, me_L_sI, me_L_sP, me_L_nx, show me_P M 0 0 5 = some (19, 0) from hm.1 (0, 0, 5, 19, 0) (by decide)]) kz) ?_
  refine jx_of (fun _ _ kz => jw_iload_n 1 d_Y_turn_18 rfl rfl kz) ?_
  refine jx_of (fun _ _ kz => jw_aalde (some (3, 2)) d_Y_turn_19 rfl rfl (by rw [show me_L _ 19 0 = 3 from (by simp [me_I_sI, me_I_sP, me_I_nx, me_P_sI, me_P_sP, me_P_nx, me_N_sI, me_N_sP, me_N_nx, me_L_sI, me_L_sP, me_L_nx, show me_L M 19 0 = 3 from hm.2.1 (19, 0, 3) (by decide)])]; unfold vp_in; decide) (by simp [me_I_sI, me_I_sP, me_I_nx, me_P_sI, me_P_sP, me_P_nx, me_N_sI, me_N_sP, me_N_nx, me_L_sI, me_L_sP, me_L_nx, show me_P M 19 0 2 = some (3, 2) from hm.1 (19, 0, 2, 3, 2) (by decide)]) kz) ?_
  refine jx_callV (x_Y_takeTurn_2 _  (cid_of hm)) mt_Y_takeTurn cf_Y rfl rfl ml_Y_106 im_Y_takeTurn se_Y_takeTurn d_Y_turn_20 rfl rfl (Nat.le_of_ble_eq_true rfl) ?_
  rintro _ M1 ⟨rfl, _, hk, _⟩
  refine jx_eq (st2 := [.inl (-2)]) rfl rfl rfl ?_
  refine jx_iret d_Y_turn_23 rfl ?_
  exact ⟨rfl, hk⟩
set_option maxRecDepth 20000 in
set_option maxHeartbeats 4000000 in
theorem x_Y_turn_x {G : Gt} {M : Me} (d : Nat) (x : Int32) (hm : cfr M) (hx : x < 0 ∨ 3 ≤ x) : sx G yt_Y_turn yn_Y_turn (d + 5) [.inr (some (0, 0)), .inl x] M (fun r M' => r = some (.inl (-1)) ∧ kpM M M') := by
  refine sx_of (k := 0) (lc := [some (.inr (some (0, 0))), some (.inl x)]) mt_Y_turn (Nat.le_of_ble_eq_true rfl) rfl ?_
  refine jx_of (fun _ _ kz => jw_iload_n 1 d_Y_turn_0 rfl rfl kz) ?_
  refine jx_if_lt 9 d_Y_turn_1 (by decide) (fun b_1 => ?_) (fun b_1 => ?_)
  · skip
    refine jx_of (fun _ _ kz => jw_iconst (-1) d_Y_turn_9 (by decide) kz) ?_
    refine jx_of (fun _ _ kz => jw_goto 23 d_Y_turn_10 (by decide) kz) ?_
    refine jx_iret d_Y_turn_23 rfl ?_
    exact ⟨rfl, kp_rf⟩
  · skip
    refine jx_of (fun _ _ kz => jw_iload_n 1 d_Y_turn_4 rfl rfl kz) ?_
    refine jx_of (fun _ _ kz => jw_iconst 3 d_Y_turn_5 (by decide) kz) ?_
    refine jx_icmp_lt 13 d_Y_turn_6 (by decide) (fun h => absurd h (Int32.not_lt.mpr (hx.resolve_left b_1))) (fun _ => ?_)
    refine jx_of (fun _ _ kz => jw_iconst (-1) d_Y_turn_9 (by decide) kz) ?_
    refine jx_of (fun _ _ kz => jw_goto 23 d_Y_turn_10 (by decide) kz) ?_
    refine jx_iret d_Y_turn_23 rfl ?_
    exact ⟨rfl, kp_rf⟩
set_option maxRecDepth 20000 in
set_option maxHeartbeats 4000000 in
theorem x_Y_wakeTheDue {G : Gt} {M : Me} (d : Nat) (f0 : me_I M 0 0 4 = 0) : sx G yt_Y_wakeTheDue yn_Y_wakeTheDue (d + 1) [.inr (some (0, 0))] M (fun r M' => r = none ∧ M = M') := by
  refine sx_of (k := 2) (lc := [some (.inr (some (0, 0))), none, none]) mt_Y_wakeTheDue (Nat.le_of_ble_eq_true rfl) rfl ?_
  refine jx_of (fun _ _ kz => jw_iconst 0 d_Y_wakeTheDue_0 (by decide) kz) ?_
  refine jx_of (fun _ _ kz => jw_istore_n 1 d_Y_wakeTheDue_1 rfl (Nat.le_of_ble_eq_true rfl) kz) ?_
  dsimp only [List.set]
  refine jx_of (fun _ _ kz => jw_iload_n 1 d_Y_wakeTheDue_2 rfl rfl kz) ?_
  refine jx_of (fun _ _ kz => jw_aload_n 0 d_Y_wakeTheDue_3 rfl rfl kz) ?_
  refine jx_of (fun _ _ kz => jw_getIe (0) fl_Y_30 d_Y_wakeTheDue_4 rfl rfl (by simp [me_I_sI, me_I_sP, me_I_nx, me_P_sI, me_P_sP, me_P_nx, me_N_sI, me_N_sP, me_N_nx, me_L_sI, me_L_sP, me_L_nx, f0]) kz) ?_
  refine jx_icmp_ge 42 d_Y_wakeTheDue_7 (by decide) (fun _ => ?_) (fun h => absurd h (by decide))
  refine jx_vret d_Y_wakeTheDue_42 rfl ?_
  exact ⟨rfl, rfl⟩
set_option maxRecDepth 20000 in
set_option maxHeartbeats 4000000 in
theorem x_Y_tick_loop {G : Gt} (d n : Nat) (hn : n ≤ 20) : ∀ (m i : Nat) (M : Me), i + m = n → cid M → me_I M 0 0 10 = nI i → ∀ c0 s0 : Nat, jx G yt_Y_tick (d + 2) c0 s0 M 15 [some (.inr (some (0, 0))), some (.inl (nI n)), some (.inl (nI i))] [] (fun r M' => r = some (.inl (nI n)) ∧ kpM M M') := by
  intro m
  induction m with
  | zero =>
    intro i M hi hm f0 c0 s0
    refine jx_of (fun _ _ kz => jw_iload_n 2 d_Y_tick_15 rfl rfl kz) ?_
    refine jx_of (fun _ _ kz => jw_iload_n 1 d_Y_tick_16 rfl rfl kz) ?_
    refine jx_icmp_ge 40 d_Y_tick_17 (by decide) (fun _ => ?_) (fun h => absurd (nI_le (by omega) (by omega)) h)
    refine jx_of (fun _ _ kz => jw_aload_n 0 d_Y_tick_40 rfl rfl kz) ?_
    refine jx_callV (x_Y_injectWoken2 _  (by simp [me_I_sI, me_I_sP, me_I_nx, me_P_sI, me_P_sP, me_P_nx, me_N_sI, me_N_sP, me_N_nx, me_L_sI, me_L_sP, me_L_nx, f0, show me_P M 0 0 7 = some (4, 4) from hm.1 (0, 0, 7, 4, 4) (by decide)]) (by simp [me_I_sI, me_I_sP, me_I_nx, me_P_sI, me_P_sP, me_P_nx, me_N_sI, me_N_sP, me_N_nx, me_L_sI, me_L_sP, me_L_nx, f0, show me_I M 4 4 1 = 0 from hm.2.2 (4, 4, 1, 0) (by decide)])) mt_Y_injectWoken cf_Y rfl rfl ml_Y_103 im_Y_injectWoken se_Y_injectWoken d_Y_tick_41 rfl rfl (Nat.le_of_ble_eq_true rfl) ?_
    rintro _ _ ⟨rfl, rfl⟩
    refine jx_eq (st2 := []) rfl rfl rfl ?_
    refine jx_of (fun _ _ kz => jw_aload_n 0 d_Y_tick_44 rfl rfl kz) ?_
    refine jx_of (fun _ _ kz => jw_getIe (nI i) fl_Y_66 d_Y_tick_45 rfl rfl (by simp [me_I_sI, me_I_sP, me_I_nx, me_P_sI, me_P_sP, me_P_nx, me_N_sI, me_N_sP, me_N_nx, me_L_sI, me_L_sP, me_L_nx, f0]) kz) ?_
    refine jx_iret d_Y_tick_48 rfl ?_
    exact ⟨by rw [show i = n by omega], kp_sI kp_rf (by decide)⟩
  | succ m ih =>
    intro i M hi hm f0 c0 s0
    refine jx_of (fun _ _ kz => jw_iload_n 2 d_Y_tick_15 rfl rfl kz) ?_
    refine jx_of (fun _ _ kz => jw_iload_n 1 d_Y_tick_16 rfl rfl kz) ?_
    refine jx_icmp_ge 40 d_Y_tick_17 (by decide) (fun h => absurd h (nI_ge (by omega) (by omega))) (fun _ => ?_)
    refine jx_of (fun _ _ kz => jw_aload_n 0 d_Y_tick_20 rfl rfl kz) ?_
    refine jx_of (fun _ _ kz => jw_dup d_Y_tick_21 kz) ?_
    refine jx_of (fun _ _ kz => jw_getIe (nI i) fl_Y_66 d_Y_tick_22 rfl rfl (by simp [me_I_sI, me_I_sP, me_I_nx, me_P_sI, me_P_sP, me_P_nx, me_N_sI, me_N_sP, me_N_nx, me_L_sI, me_L_sP, me_L_nx, f0]) kz) ?_
    refine jx_of (fun _ _ kz => jw_iconst 1 d_Y_tick_25 (by decide) kz) ?_
    refine jx_of (fun _ _ kz => jw_iadd d_Y_tick_26 kz) ?_
    refine jx_of (fun _ _ kz => jw_putI fl_Y_66 (Or.inl rfl) rfl rfl d_Y_tick_27 rfl rfl kz) ?_
    refine jx_of (fun _ _ kz => jw_aload_n 0 d_Y_tick_30 rfl rfl kz) ?_
    refine jx_callV (x_Y_wakeTheDue _  (by simp [me_I_sI, me_I_sP, me_I_nx, me_P_sI, me_P_sP, me_P_nx, me_N_sI, me_N_sP, me_N_nx, me_L_sI, me_L_sP, me_L_nx, f0, show me_I M 0 0 4 = 0 from hm.2.2 (0, 0, 4, 0) (by decide)])) mt_Y_wakeTheDue cf_Y rfl rfl ml_Y_110 im_Y_wakeTheDue se_Y_wakeTheDue d_Y_tick_31 rfl rfl (Nat.le_of_ble_eq_true rfl) ?_
    rintro _ _ ⟨rfl, rfl⟩
    refine jx_eq (st2 := []) rfl rfl rfl ?_
    refine jx_of (fun _ _ kz => jw_iincc 1 d_Y_tick_34 (by decide) rfl (Nat.le_of_ble_eq_true rfl) kz) ?_
    dsimp only [List.set]
    refine jx_of (fun _ _ kz => jw_goto 15 d_Y_tick_37 (by decide) kz) ?_
    rw [nI_1]
    exact jx_mono (ih (i + 1) _ (by omega) (cid_sN hm (by decide)) (by simp [me_I_sI]) c0 s0) (fun r M2 h => ⟨h.1, kp_tr (kp_sI kp_rf (by decide)) h.2⟩)
set_option maxRecDepth 20000 in
set_option maxHeartbeats 4000000 in
theorem x_Y_run_loop {G : Gt} (d n : Nat) (hn : n ≤ 30) : ∀ (m i : Nat) (M : Me), i + m = n → cid M → (me_I M 0 0 13 = 0 ∨ me_I M 0 0 13 = 1 ∨ me_I M 0 0 13 = 2) → ∀ c0 s0 : Nat, jx G yt_Y_run (d + 5) c0 s0 M 17 [some (.inr (some (0, 0))), some (.inl (nI n)), some (.inl 0), some (.inl (nI i))] [] (fun r M' => r = some (.inl 0) ∧ kpM M M') := by
  intro m
  induction m with
  | zero =>
    intro i M hi hm hx c0 s0
    refine jx_of (fun _ _ kz => jw_iload_n 3 d_Y_run_17 rfl rfl kz) ?_
    refine jx_of (fun _ _ kz => jw_iload_n 1 d_Y_run_18 rfl rfl kz) ?_
    refine jx_icmp_ge 61 d_Y_run_19 (by decide) (fun _ => ?_) (fun h => absurd (nI_le (by omega) (by omega)) h)
    refine jx_of (fun _ _ kz => jw_iload_n 2 d_Y_run_61 rfl rfl kz) ?_
    refine jx_iret d_Y_run_62 rfl ?_
    exact ⟨rfl, kp_rf⟩
  | succ m ih =>
    intro i M hi hm hx c0 s0
    rcases hx with f0 | f0 | f0
    · skip
      refine jx_of (fun _ _ kz => jw_iload_n 3 d_Y_run_17 rfl rfl kz) ?_
      refine jx_of (fun _ _ kz => jw_iload_n 1 d_Y_run_18 rfl rfl kz) ?_
      refine jx_icmp_ge 61 d_Y_run_19 (by decide) (fun h => absurd h (nI_ge (by omega) (by omega))) (fun _ => ?_)
      refine jx_of (fun _ _ kz => jw_aload_n 0 d_Y_run_22 rfl rfl kz) ?_
      refine jx_of (fun _ _ kz => jw_aload_n 0 d_Y_run_23 rfl rfl kz) ?_
      refine jx_of (fun _ _ kz => jw_getPe (some (19, 0)) fl_Y_38 d_Y_run_24 rfl rfl (by simp [me_I_sI, me_I_sP, me_I_nx, me_P_sI, me_P_sP, me_P_nx, me_N_sI, me_N_sP, me_N_nx, me_L_sI, me_L_sP, me_L_nx, f0, show me_P M 0 0 5 = some (19, 0) from hm.1 (0, 0, 5, 19, 0) (by decide)]) kz) ?_
      refine jx_of (fun _ _ kz => jw_aload_n 0 d_Y_run_27 rfl rfl kz) ?_
      refine jx_of (fun _ _ kz => jw_getIe (0) fl_Y_75 d_Y_run_28 rfl rfl (by simp [me_I_sI, me_I_sP, me_I_nx, me_P_sI, me_P_sP, me_P_nx, me_N_sI, me_N_sP, me_N_nx, me_L_sI, me_L_sP, me_L_nx, f0]) kz) ?_
      refine jx_of (fun _ _ kz => jw_aalde (some (3, 0)) d_Y_run_31 rfl rfl (by rw [show me_L _ 19 0 = 3 from (by simp [me_I_sI, me_I_sP, me_I_nx, me_P_sI, me_P_sP, me_P_nx, me_N_sI, me_N_sP, me_N_nx, me_L_sI, me_L_sP, me_L_nx, f0, show me_L M 19 0 = 3 from hm.2.1 (19, 0, 3) (by decide)])]; unfold vp_in; decide) (by simp [me_I_sI, me_I_sP, me_I_nx, me_P_sI, me_P_sP, me_P_nx, me_N_sI, me_N_sP, me_N_nx, me_L_sI, me_L_sP, me_L_nx, f0, show me_P M 19 0 0 = some (3, 0) from hm.1 (19, 0, 0, 3, 0) (by decide)]) kz) ?_
      refine jx_callV (x_Y_takeTurn_0 _  hm) mt_Y_takeTurn cf_Y rfl rfl ml_Y_106 im_Y_takeTurn se_Y_takeTurn d_Y_run_32 rfl rfl (Nat.le_of_ble_eq_true rfl) ?_
      rintro _ M1 ⟨rfl, hm1, hk, hn1⟩
      refine jx_eq (st2 := [.inl (-2)]) rfl rfl rfl ?_
      rw [f0] at hn1
      refine jx_of (fun _ _ kz => jw_bipush (-2) d_Y_run_35 (by decide) kz) ?_
      refine jx_icmp_eq 43 d_Y_run_37 (by decide) (fun _ => ?_) (fun h => absurd h (by decide))
      refine jx_of (fun _ _ kz => jw_aload_n 0 d_Y_run_43 rfl rfl kz) ?_
      refine jx_of (fun _ _ kz => jw_aload_n 0 d_Y_run_44 rfl rfl kz) ?_
      refine jx_of (fun _ _ kz => jw_getIe (0) fl_Y_75 d_Y_run_45 rfl rfl hn1 kz) ?_
      refine jx_of (fun _ _ kz => jw_iconst 1 d_Y_run_48 (by decide) kz) ?_
      refine jx_of (fun _ _ kz => jw_iadd d_Y_run_49 kz) ?_
      rw [show (0 + 1 : Int32) = 1 from by decide]
      refine jx_of (fun _ _ kz => jw_iconst 3 d_Y_run_50 (by decide) kz) ?_
      refine jx_of (fun _ _ kz => jw_irem d_Y_run_51 (by decide) kz) ?_
      rw [show (1 - 1 / 3 * 3 : Int32) = 1 from by decide]
      refine jx_of (fun _ _ kz => jw_putI fl_Y_75 (Or.inl rfl) rfl rfl d_Y_run_52 rfl rfl kz) ?_
      refine jx_of (fun _ _ kz => jw_iincc 1 d_Y_run_55 (by decide) rfl (Nat.le_of_ble_eq_true rfl) kz) ?_
      dsimp only [List.set]
      refine jx_of (fun _ _ kz => jw_goto 17 d_Y_run_58 (by decide) kz) ?_
      rw [nI_1]
      exact jx_mono (ih (i + 1) _ (by omega) (cid_sN hm1 (by decide)) (by simp [me_I_sI]) c0 s0) (fun r M2 h => ⟨h.1, kp_tr hk (kp_tr (kp_sI kp_rf (by decide)) h.2)⟩)
    · skip
      refine jx_of (fun _ _ kz => jw_iload_n 3 d_Y_run_17 rfl rfl kz) ?_
      refine jx_of (fun _ _ kz => jw_iload_n 1 d_Y_run_18 rfl rfl kz) ?_
      refine jx_icmp_ge 61 d_Y_run_19 (by decide) (fun h => absurd h (nI_ge (by omega) (by omega))) (fun _ => ?_)
      refine jx_of (fun _ _ kz => jw_aload_n 0 d_Y_run_22 rfl rfl kz) ?_
      refine jx_of (fun _ _ kz => jw_aload_n 0 d_Y_run_23 rfl rfl kz) ?_
      refine jx_of (fun _ _ kz => jw_getPe (some (19, 0)) fl_Y_38 d_Y_run_24 rfl rfl (by simp [me_I_sI, me_I_sP, me_I_nx, me_P_sI, me_P_sP, me_P_nx, me_N_sI, me_N_sP, me_N_nx, me_L_sI, me_L_sP, me_L_nx, f0, show me_P M 0 0 5 = some (19, 0) from hm.1 (0, 0, 5, 19, 0) (by decide)]) kz) ?_
      refine jx_of (fun _ _ kz => jw_aload_n 0 d_Y_run_27 rfl rfl kz) ?_
      refine jx_of (fun _ _ kz => jw_getIe (1) fl_Y_75 d_Y_run_28 rfl rfl (by simp [me_I_sI, me_I_sP, me_I_nx, me_P_sI, me_P_sP, me_P_nx, me_N_sI, me_N_sP, me_N_nx, me_L_sI, me_L_sP, me_L_nx, f0]) kz) ?_
      refine jx_of (fun _ _ kz => jw_aalde (some (3, 1)) d_Y_run_31 rfl rfl (by rw [show me_L _ 19 0 = 3 from (by simp [me_I_sI, me_I_sP, me_I_nx, me_P_sI, me_P_sP, me_P_nx, me_N_sI, me_N_sP, me_N_nx, me_L_sI, me_L_sP, me_L_nx, f0, show me_L M 19 0 = 3 from hm.2.1 (19, 0, 3) (by decide)])]; unfold vp_in; decide) (by simp [me_I_sI, me_I_sP, me_I_nx, me_P_sI, me_P_sP, me_P_nx, me_N_sI, me_N_sP, me_N_nx, me_L_sI, me_L_sP, me_L_nx, f0, show me_P M 19 0 1 = some (3, 1) from hm.1 (19, 0, 1, 3, 1) (by decide)]) kz) ?_
      refine jx_callV (x_Y_takeTurn_1 _  hm) mt_Y_takeTurn cf_Y rfl rfl ml_Y_106 im_Y_takeTurn se_Y_takeTurn d_Y_run_32 rfl rfl (Nat.le_of_ble_eq_true rfl) ?_
      rintro _ M1 ⟨rfl, hm1, hk, hn1⟩
      refine jx_eq (st2 := [.inl (-2)]) rfl rfl rfl ?_
      rw [f0] at hn1
      refine jx_of (fun _ _ kz => jw_bipush (-2) d_Y_run_35 (by decide) kz) ?_
      refine jx_icmp_eq 43 d_Y_run_37 (by decide) (fun _ => ?_) (fun h => absurd h (by decide))
      refine jx_of (fun _ _ kz => jw_aload_n 0 d_Y_run_43 rfl rfl kz) ?_
      refine jx_of (fun _ _ kz => jw_aload_n 0 d_Y_run_44 rfl rfl kz) ?_
      refine jx_of (fun _ _ kz => jw_getIe (1) fl_Y_75 d_Y_run_45 rfl rfl hn1 kz) ?_
      refine jx_of (fun _ _ kz => jw_iconst 1 d_Y_run_48 (by decide) kz) ?_
      refine jx_of (fun _ _ kz => jw_iadd d_Y_run_49 kz) ?_
      rw [show (1 + 1 : Int32) = 2 from by decide]
      refine jx_of (fun _ _ kz => jw_iconst 3 d_Y_run_50 (by decide) kz) ?_
      refine jx_of (fun _ _ kz => jw_irem d_Y_run_51 (by decide) kz) ?_
      rw [show (2 - 2 / 3 * 3 : Int32) = 2 from by decide]
      refine jx_of (fun _ _ kz => jw_putI fl_Y_75 (Or.inl rfl) rfl rfl d_Y_run_52 rfl rfl kz) ?_
      refine jx_of (fun _ _ kz => jw_iincc 1 d_Y_run_55 (by decide) rfl (Nat.le_of_ble_eq_true rfl) kz) ?_
      dsimp only [List.set]
      refine jx_of (fun _ _ kz => jw_goto 17 d_Y_run_58 (by decide) kz) ?_
      rw [nI_1]
      exact jx_mono (ih (i + 1) _ (by omega) (cid_sN hm1 (by decide)) (by simp [me_I_sI]) c0 s0) (fun r M2 h => ⟨h.1, kp_tr hk (kp_tr (kp_sI kp_rf (by decide)) h.2)⟩)
    · skip
      refine jx_of (fun _ _ kz => jw_iload_n 3 d_Y_run_17 rfl rfl kz) ?_
      refine jx_of (fun _ _ kz => jw_iload_n 1 d_Y_run_18 rfl rfl kz) ?_
      refine jx_icmp_ge 61 d_Y_run_19 (by decide) (fun h => absurd h (nI_ge (by omega) (by omega))) (fun _ => ?_)
      refine jx_of (fun _ _ kz => jw_aload_n 0 d_Y_run_22 rfl rfl kz) ?_
      refine jx_of (fun _ _ kz => jw_aload_n 0 d_Y_run_23 rfl rfl kz) ?_
      refine jx_of (fun _ _ kz => jw_getPe (some (19, 0)) fl_Y_38 d_Y_run_24 rfl rfl (by simp [me_I_sI, me_I_sP, me_I_nx, me_P_sI, me_P_sP, me_P_nx, me_N_sI, me_N_sP, me_N_nx, me_L_sI, me_L_sP, me_L_nx, f0, show me_P M 0 0 5 = some (19, 0) from hm.1 (0, 0, 5, 19, 0) (by decide)]) kz) ?_
      refine jx_of (fun _ _ kz => jw_aload_n 0 d_Y_run_27 rfl rfl kz) ?_
      refine jx_of (fun _ _ kz => jw_getIe (2) fl_Y_75 d_Y_run_28 rfl rfl (by simp [me_I_sI, me_I_sP, me_I_nx, me_P_sI, me_P_sP, me_P_nx, me_N_sI, me_N_sP, me_N_nx, me_L_sI, me_L_sP, me_L_nx, f0]) kz) ?_
      refine jx_of (fun _ _ kz => jw_aalde (some (3, 2)) d_Y_run_31 rfl rfl (by rw [show me_L _ 19 0 = 3 from (by simp [me_I_sI, me_I_sP, me_I_nx, me_P_sI, me_P_sP, me_P_nx, me_N_sI, me_N_sP, me_N_nx, me_L_sI, me_L_sP, me_L_nx, f0, show me_L M 19 0 = 3 from hm.2.1 (19, 0, 3) (by decide)])]; unfold vp_in; decide) (by simp [me_I_sI, me_I_sP, me_I_nx, me_P_sI, me_P_sP, me_P_nx, me_N_sI, me_N_sP, me_N_nx, me_L_sI, me_L_sP, me_L_nx, f0, show me_P M 19 0 2 = some (3, 2) from hm.1 (19, 0, 2, 3, 2) (by decide)]) kz) ?_
      refine jx_callV (x_Y_takeTurn_2 _  hm) mt_Y_takeTurn cf_Y rfl rfl ml_Y_106 im_Y_takeTurn se_Y_takeTurn d_Y_run_32 rfl rfl (Nat.le_of_ble_eq_true rfl) ?_
      rintro _ M1 ⟨rfl, hm1, hk, hn1⟩
      refine jx_eq (st2 := [.inl (-2)]) rfl rfl rfl ?_
      rw [f0] at hn1
      refine jx_of (fun _ _ kz => jw_bipush (-2) d_Y_run_35 (by decide) kz) ?_
      refine jx_icmp_eq 43 d_Y_run_37 (by decide) (fun _ => ?_) (fun h => absurd h (by decide))
      refine jx_of (fun _ _ kz => jw_aload_n 0 d_Y_run_43 rfl rfl kz) ?_
      refine jx_of (fun _ _ kz => jw_aload_n 0 d_Y_run_44 rfl rfl kz) ?_
      refine jx_of (fun _ _ kz => jw_getIe (2) fl_Y_75 d_Y_run_45 rfl rfl hn1 kz) ?_
      refine jx_of (fun _ _ kz => jw_iconst 1 d_Y_run_48 (by decide) kz) ?_
      refine jx_of (fun _ _ kz => jw_iadd d_Y_run_49 kz) ?_
      rw [show (2 + 1 : Int32) = 3 from by decide]
      refine jx_of (fun _ _ kz => jw_iconst 3 d_Y_run_50 (by decide) kz) ?_
      refine jx_of (fun _ _ kz => jw_irem d_Y_run_51 (by decide) kz) ?_
      rw [show (3 - 3 / 3 * 3 : Int32) = 0 from by decide]
      refine jx_of (fun _ _ kz => jw_putI fl_Y_75 (Or.inl rfl) rfl rfl d_Y_run_52 rfl rfl kz) ?_
      refine jx_of (fun _ _ kz => jw_iincc 1 d_Y_run_55 (by decide) rfl (Nat.le_of_ble_eq_true rfl) kz) ?_
      dsimp only [List.set]
      refine jx_of (fun _ _ kz => jw_goto 17 d_Y_run_58 (by decide) kz) ?_
      rw [nI_1]
      exact jx_mono (ih (i + 1) _ (by omega) (cid_sN hm1 (by decide)) (by simp [me_I_sI]) c0 s0) (fun r M2 h => ⟨h.1, kp_tr hk (kp_tr (kp_sI kp_rf (by decide)) h.2)⟩)
