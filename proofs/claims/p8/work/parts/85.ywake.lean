set_option maxRecDepth 20000 in
set_option maxHeartbeats 4000000 in
theorem y_Y_ownerOf {G : Gt} {M : Me} (d : Nat) (x : Int32) (np : Nat) (nt : Nat) (hY : yI M np nt) : sx G yt_Y_ownerOf yn_Y_ownerOf (d + 2) [.inr (some (0, 0)), .inl x] M (fun r M' => (r = some (.inr none) ∨ ∃ t, t < nt ∧ ¬ x < 0 ∧ r = some (.inr (some (2, t)))) ∧ M = M') := by
  refine sx_of (k := 0) (lc := [some (.inr (some (0, 0))), some (.inl x)]) mt_Y_ownerOf (Nat.le_of_ble_eq_true rfl) rfl ?_
  refine jx_of (fun _ _ kz => jw_iload_n 1 d_Y_ownerOf_0 rfl rfl kz) ?_
  refine jx_if_ge 8 d_Y_ownerOf_1 (by decide) (fun b_1 => ?_) (fun b_1 => ?_)
  · skip
    refine jx_of (fun _ _ kz => jw_aload_n 0 d_Y_ownerOf_8 rfl rfl kz) ?_
    refine jx_of (fun _ _ kz => jw_iload_n 1 d_Y_ownerOf_9 rfl rfl kz) ?_
    refine jx_of (fun _ _ kz => jw_bipush 12 d_Y_ownerOf_10 (by decide) kz) ?_
    refine jx_of (fun _ _ kz => jw_idiv d_Y_ownerOf_12 (by decide) kz) ?_
    refine jx_callV (y_Y_taskAt d ((x / 12)) np nt hY) mt_Y_taskAt cf_Y rfl rfl ml_Y_113 im_Y_taskAt se_Y_taskAt d_Y_ownerOf_13 rfl rfl (Nat.le_of_ble_eq_true rfl) ?_
    rintro r _ ⟨hr, rfl⟩
    rcases hr with rfl | ⟨t9, ht9, ex9, rfl⟩
    · skip
      refine jx_eq (st2 := [.inr none]) rfl rfl rfl ?_
      refine jx_aret d_Y_ownerOf_16 rfl ?_
      first | exact ⟨Or.inl rfl, rfl⟩ | exact ⟨Or.inr ⟨t9, ht9, fun q => by rw [Int32.lt_iff_toInt_lt] at q; rw [Int32.le_iff_toInt_le] at b_1; omega, rfl⟩, rfl⟩
    · skip
      refine jx_eq (st2 := [.inr (some (2, t9))]) rfl rfl rfl ?_
      refine jx_aret d_Y_ownerOf_16 rfl ?_
      first | exact ⟨Or.inl rfl, rfl⟩ | exact ⟨Or.inr ⟨t9, ht9, fun q => by rw [Int32.lt_iff_toInt_lt] at q; rw [Int32.le_iff_toInt_le] at b_1; omega, rfl⟩, rfl⟩
  · skip
    refine jx_of (fun _ _ kz => jw_null d_Y_ownerOf_4 kz) ?_
    refine jx_of (fun _ _ kz => jw_goto 16 d_Y_ownerOf_5 (by decide) kz) ?_
    refine jx_aret d_Y_ownerOf_16 rfl ?_
    first | exact ⟨Or.inl rfl, rfl⟩ | exact ⟨Or.inr ⟨t9, ht9, fun q => by rw [Int32.lt_iff_toInt_lt] at q; rw [Int32.le_iff_toInt_le] at b_1; omega, rfl⟩, rfl⟩
set_option maxRecDepth 20000 in
set_option maxHeartbeats 4000000 in
theorem y_Y_wakeTask {G : Gt} {M : Me} (d : Nat) (t : Nat) (np : Nat) (nt : Nat) (hY : yI M np nt) (ht : t < nt) : sx G yt_Y_wakeTask yn_Y_wakeTask (d + 2) [.inr (some (0, 0)), .inr (some (2, t))] M (fun r M' => r = none ∧ yI M' np nt ∧ yk M M') := by
  refine sx_of (k := 0) (lc := [some (.inr (some (0, 0))), some (.inr (some (2, t)))]) mt_Y_wakeTask (Nat.le_of_ble_eq_true rfl) rfl ?_
  refine jx_of (fun _ _ kz => jw_aload_n 1 d_Y_wakeTask_0 rfl rfl kz) ?_
  refine jx_of (fun _ _ kz => jw_getIe (me_I M 2 t 3) fl_Y_123 d_Y_wakeTask_1 rfl rfl rfl kz) ?_
  refine jx_if_ne 26 d_Y_wakeTask_4 (by decide) (fun b_4 => ?_) (fun b_4 => ?_)
  · skip
    refine jx_of (fun _ _ kz => jw_aload_n 1 d_Y_wakeTask_26 rfl rfl kz) ?_
    refine jx_of (fun _ _ kz => jw_getIe (me_I M 2 t 3) fl_Y_123 d_Y_wakeTask_27 rfl rfl rfl kz) ?_
    refine jx_of (fun _ _ kz => jw_iconst 5 d_Y_wakeTask_30 (by decide) kz) ?_
    refine jx_icmp_ne 39 d_Y_wakeTask_31 (by decide) (fun b_31 => ?_) (fun b_31 => ?_)
    · skip
      refine jx_vret d_Y_wakeTask_39 rfl ?_
      first | exact ⟨rfl, yI_rc (yI_tc hY (tc_sI tc_rf (by omega))) c1 r1, yk_tr (yk_tc (tc_sI tc_rf (by omega))) (yk_rc c1)⟩ | exact ⟨rfl, hY, yk_rf⟩ | exact ⟨rfl, yI_tc hY (tc_sI tc_rf (by omega)), yk_tc (tc_sI tc_rf (by omega))⟩
    · skip
      refine jx_of (fun _ _ kz => jw_aload_n 1 d_Y_wakeTask_34 rfl rfl kz) ?_
      refine jx_of (fun _ _ kz => jw_iconst 1 d_Y_wakeTask_35 (by decide) kz) ?_
      refine jx_of (fun _ _ kz => jw_putI fl_Y_214 (Or.inl rfl) rfl rfl d_Y_wakeTask_36 rfl rfl kz) ?_
      refine jx_vret d_Y_wakeTask_39 rfl ?_
      first | exact ⟨rfl, yI_rc (yI_tc hY (tc_sI tc_rf (by omega))) c1 r1, yk_tr (yk_tc (tc_sI tc_rf (by omega))) (yk_rc c1)⟩ | exact ⟨rfl, hY, yk_rf⟩ | exact ⟨rfl, yI_tc hY (tc_sI tc_rf (by omega)), yk_tc (tc_sI tc_rf (by omega))⟩
  · skip
    refine jx_of (fun _ _ kz => jw_aload_n 1 d_Y_wakeTask_7 rfl rfl kz) ?_
    refine jx_of (fun _ _ kz => jw_iconst 1 d_Y_wakeTask_8 (by decide) kz) ?_
    refine jx_of (fun _ _ kz => jw_putI fl_Y_123 (Or.inl rfl) rfl rfl d_Y_wakeTask_9 rfl rfl kz) ?_
    refine jx_of (fun _ _ kz => jw_aload_n 0 d_Y_wakeTask_12 rfl rfl kz) ?_
    refine jx_of (fun _ _ kz => jw_getPe (some (4, 4)) fl_Y_49 d_Y_wakeTask_13 rfl rfl (by simp [me_I_sI, me_I_sP, me_I_nx, me_P_sI, me_P_sP, me_P_nx, me_N_sI, me_N_sP, me_N_nx, me_L_sI, me_L_sP, me_L_nx, show me_P M 0 0 7 = some (4, 4) from hY.1.1 (0, 0, 7, 4, 4) (by decide)]) kz) ?_
    refine jx_of (fun _ _ kz => jw_aload_n 1 d_Y_wakeTask_16 rfl rfl kz) ?_
    refine jx_of (fun _ _ kz => jw_getIe (me_I M 2 t 0) fl_Y_213 d_Y_wakeTask_17 rfl rfl (by simp [me_I_sI]) kz) ?_
    refine jx_callV (y_R_add d 4 ((me_I M 2 t 0)) (rO_tc (hY.1.2.2 4 (by omega)) (tc_sI tc_rf (by omega)))) mt_R_add cf_R rfl rfl ml_Y_210 im_R_add se_R_add d_Y_wakeTask_20 rfl rfl (Nat.le_of_ble_eq_true rfl) ?_
    rintro _ M1 ⟨rfl, r1, c1⟩
    refine jx_eq (st2 := []) rfl rfl rfl ?_
    refine jx_of (fun _ _ kz => jw_goto 39 d_Y_wakeTask_23 (by decide) kz) ?_
    refine jx_vret d_Y_wakeTask_39 rfl ?_
    first | exact ⟨rfl, yI_rc (yI_tc hY (tc_sI tc_rf (by omega))) c1 r1, yk_tr (yk_tc (tc_sI tc_rf (by omega))) (yk_rc c1)⟩ | exact ⟨rfl, hY, yk_rf⟩ | exact ⟨rfl, yI_tc hY (tc_sI tc_rf (by omega)), yk_tc (tc_sI tc_rf (by omega))⟩
set_option maxRecDepth 20000 in
set_option maxHeartbeats 4000000 in
theorem y_Y_iw_l {G : Gt} {M : Me} (d n np nt : Nat) (h12 : n ≤ 144) (c0 s0 : Nat) : ∀ (m k : Nat) (M1 : Me), k + m = n → yI M1 np nt → yk M M1 → me_I M1 4 4 1 = nI n → jx G yt_Y_injectWoken (d + 2) c0 s0 M1 2 [some (.inr (some (0, 0))), some (.inl (nI k))] [] (fun r M' => r = none ∧ yI M' np nt ∧ yk M M') := by
  intro m
  induction m with
  | zero =>
    intro k M1 hk hY1 hk1 hs
    refine jx_of (fun _ _ kz => jw_iload_n 1 d_Y_injectWoken_2 rfl rfl kz) ?_
    refine jx_of (fun _ _ kz => jw_aload_n 0 d_Y_injectWoken_3 rfl rfl kz) ?_
    refine jx_of (fun _ _ kz => jw_getPe (some (4, 4)) fl_Y_49 d_Y_injectWoken_4 rfl rfl (by simp [me_I_sI, me_I_sP, me_I_nx, me_P_sI, me_P_sP, me_P_nx, me_N_sI, me_N_sP, me_N_nx, me_L_sI, me_L_sP, me_L_nx, show me_P M1 0 0 7 = some (4, 4) from hY1.1.1 (0, 0, 7, 4, 4) (by decide)]) kz) ?_
    refine jx_of (fun _ _ kz => jw_getIe (nI n) fl_Y_168 d_Y_injectWoken_7 rfl rfl hs kz) ?_
    refine jx_icmp_ge 34 d_Y_injectWoken_10 (by decide) (fun _ => ?_) (fun h => absurd (nI_le (by omega) (by omega)) h)
    refine jx_of (fun _ _ kz => jw_aload_n 0 d_Y_injectWoken_34 rfl rfl kz) ?_
    refine jx_of (fun _ _ kz => jw_getPe (some (4, 4)) fl_Y_49 d_Y_injectWoken_35 rfl rfl (by simp [me_I_sI, me_I_sP, me_I_nx, me_P_sI, me_P_sP, me_P_nx, me_N_sI, me_N_sP, me_N_nx, me_L_sI, me_L_sP, me_L_nx, show me_P M1 0 0 7 = some (4, 4) from hY1.1.1 (0, 0, 7, 4, 4) (by decide)]) kz) ?_
    refine jx_of (fun _ _ kz => jw_iconst 0 d_Y_injectWoken_38 (by decide) kz) ?_
    refine jx_of (fun _ _ kz => jw_putI fl_Y_168 (Or.inl rfl) rfl rfl d_Y_injectWoken_39 rfl rfl kz) ?_
    refine jx_vret d_Y_injectWoken_42 rfl ?_
    exact ⟨rfl, yI_rc hY1 (rc_n rc_rf) (rO_n (n := 0) (hY1.1.2.2 4 (by omega)) (Nat.zero_le _)), yk_tr hk1 (yk_rc (rc_n rc_rf))⟩
  | succ m ih =>
    intro k M1 hk hY1 hk1 hs
    refine jx_of (fun _ _ kz => jw_iload_n 1 d_Y_injectWoken_2 rfl rfl kz) ?_
    refine jx_of (fun _ _ kz => jw_aload_n 0 d_Y_injectWoken_3 rfl rfl kz) ?_
    refine jx_of (fun _ _ kz => jw_getPe (some (4, 4)) fl_Y_49 d_Y_injectWoken_4 rfl rfl (by simp [me_I_sI, me_I_sP, me_I_nx, me_P_sI, me_P_sP, me_P_nx, me_N_sI, me_N_sP, me_N_nx, me_L_sI, me_L_sP, me_L_nx, show me_P M1 0 0 7 = some (4, 4) from hY1.1.1 (0, 0, 7, 4, 4) (by decide)]) kz) ?_
    refine jx_of (fun _ _ kz => jw_getIe (nI n) fl_Y_168 d_Y_injectWoken_7 rfl rfl hs kz) ?_
    refine jx_icmp_ge 34 d_Y_injectWoken_10 (by decide) (fun h => absurd h (nI_ge (by omega) (by omega))) (fun _ => ?_)
    refine jx_of (fun _ _ kz => jw_aload_n 0 d_Y_injectWoken_13 rfl rfl kz) ?_
    refine jx_of (fun _ _ kz => jw_getPe (some (4, 3)) fl_Y_45 d_Y_injectWoken_14 rfl rfl (by simp [me_I_sI, me_I_sP, me_I_nx, me_P_sI, me_P_sP, me_P_nx, me_N_sI, me_N_sP, me_N_nx, me_L_sI, me_L_sP, me_L_nx, show me_P M1 0 0 6 = some (4, 3) from hY1.1.1 (0, 0, 6, 4, 3) (by decide)]) kz) ?_
    refine jx_of (fun _ _ kz => jw_aload_n 0 d_Y_injectWoken_17 rfl rfl kz) ?_
    refine jx_of (fun _ _ kz => jw_getPe (some (4, 4)) fl_Y_49 d_Y_injectWoken_18 rfl rfl (by simp [me_I_sI, me_I_sP, me_I_nx, me_P_sI, me_P_sP, me_P_nx, me_N_sI, me_N_sP, me_N_nx, me_L_sI, me_L_sP, me_L_nx, show me_P M1 0 0 7 = some (4, 4) from hY1.1.1 (0, 0, 7, 4, 4) (by decide)]) kz) ?_
    refine jx_of (fun _ _ kz => jw_iload_n 1 d_Y_injectWoken_21 rfl rfl kz) ?_
    refine jx_callV (y_R_at d 4 ((nI k)) (hY1.1.2.2 4 (by omega))) mt_R_at cf_R rfl rfl ml_Y_169 im_R_at se_R_at d_Y_injectWoken_22 rfl rfl (Nat.le_of_ble_eq_true rfl) ?_
    rintro _ _ ⟨⟨v, rfl⟩, rfl⟩
    refine jx_eq (st2 := [.inl v, .inr (some (4, 3))]) rfl rfl rfl ?_
    refine jx_callV (y_R_add d 3 v (hY1.1.2.2 3 (by omega))) mt_R_add cf_R rfl rfl ml_Y_210 im_R_add se_R_add d_Y_injectWoken_25 rfl rfl (Nat.le_of_ble_eq_true rfl) ?_
    rintro _ M2 ⟨rfl, r2, c2⟩
    refine jx_eq (st2 := []) rfl rfl rfl ?_
    refine jx_of (fun _ _ kz => jw_iincc 1 d_Y_injectWoken_28 (by decide) rfl (Nat.le_of_ble_eq_true rfl) kz) ?_
    dsimp only [List.set]
    refine jx_of (fun _ _ kz => jw_goto 2 d_Y_injectWoken_31 (by decide) kz) ?_
    rw [nI_1]
    exact ih (k + 1) M2 (by omega) (yI_rc hY1 c2 r2) (yk_tr hk1 (yk_rc c2)) (by rw [c2.2 4 4 1 (by omega) (by omega)]; exact hs)
set_option maxRecDepth 20000 in
set_option maxHeartbeats 4000000 in
theorem y_Y_injectWoken {G : Gt} {M : Me} (d : Nat) (np : Nat) (nt : Nat) (hY : yI M np nt) : sx G yt_Y_injectWoken yn_Y_injectWoken (d + 2) [.inr (some (0, 0))] M (fun r M' => r = none ∧ yI M' np nt ∧ yk M M') := by
  refine sx_of (k := 1) (lc := [some (.inr (some (0, 0))), none]) mt_Y_injectWoken (Nat.le_of_ble_eq_true rfl) rfl ?_
  refine jx_of (fun _ _ kz => jw_iconst 0 d_Y_injectWoken_0 (by decide) kz) ?_
  refine jx_of (fun _ _ kz => jw_istore_n 1 d_Y_injectWoken_1 rfl (Nat.le_of_ble_eq_true rfl) kz) ?_
  dsimp only [List.set]
  obtain ⟨n, h1, h2⟩ := (hY.1.2.2 4 (by omega)).2.2
  have h3 := (hY.1.2.2 4 (by omega)).2.1
  exact y_Y_iw_l d n np nt (by omega) _ _ n 0 M (by omega) hY yk_rf h2
