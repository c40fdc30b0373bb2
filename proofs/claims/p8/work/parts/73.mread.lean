theorem n_m3 (a : Nat) : nI (a + 3) - 3 = nI a := by rw [← nI_add, show (nI 3 : Int32) = 3 from rfl, Int32.add_sub_cancel]
set_option maxRecDepth 20000 in
set_option maxHeartbeats 4000000 in
theorem z_M_worker_f {G : Gt} {M : Me} (d : Nat) (u : Int32) (k : Int32) (np : Nat) (nt : Nat) (hJ : mJ M np nt) (hu : u < 0 ∨ 2 < u) : sx G yt_M_worker yn_M_worker (d + 2) [.inr (some (7, 0)), .inl u, .inl k] M (fun r M' => (∃ v : Int32, r = some (.inl v)) ∧ M = M') := by
  refine sx_of (k := 0) (lc := [some (.inr (some (7, 0))), some (.inl u), some (.inl k)]) mt_M_worker (Nat.le_of_ble_eq_true rfl) rfl ?_
  refine jx_of (fun _ _ kz => jw_iload_n 1 d_M_worker_0 rfl rfl kz) ?_
  refine jx_of (fun _ _ kz => jw_iconst 0 d_M_worker_1 (by decide) kz) ?_
  refine jx_of (fun _ _ kz => jw_iconst 2 d_M_worker_2 (by decide) kz) ?_
  refine jx_callS (x_M_is_f d u 0 2  hu) mt_M_is ml_M_93 sm_M_is d_M_worker_3 rfl rfl (Nat.le_of_ble_eq_true rfl) ?_
  rintro _ _ ⟨rfl, rfl⟩
  refine jx_eq (st2 := [.inl 0]) rfl rfl rfl ?_
  refine jx_if_eq 19 d_M_worker_6 (by decide) (fun _ => ?_) (fun h => absurd h (by decide))
  refine jx_of (fun _ _ kz => jw_iconst (-1) d_M_worker_19 (by decide) kz) ?_
  refine jx_iret d_M_worker_20 rfl ?_
  exact ⟨⟨_, rfl⟩, rfl⟩
set_option maxRecDepth 20000 in
set_option maxHeartbeats 4000000 in
theorem z_M_worker_f2 {G : Gt} {M : Me} (d : Nat) (u : Int32) (k : Int32) (np : Nat) (nt : Nat) (hJ : mJ M np nt) (h1 : ¬ u < 0) (h2 : ¬ 2 < u) (hu : k < 0 ∨ 7 < k) : sx G yt_M_worker yn_M_worker (d + 2) [.inr (some (7, 0)), .inl u, .inl k] M (fun r M' => (∃ v : Int32, r = some (.inl v)) ∧ M = M') := by
  refine sx_of (k := 0) (lc := [some (.inr (some (7, 0))), some (.inl u), some (.inl k)]) mt_M_worker (Nat.le_of_ble_eq_true rfl) rfl ?_
  refine jx_of (fun _ _ kz => jw_iload_n 1 d_M_worker_0 rfl rfl kz) ?_
  refine jx_of (fun _ _ kz => jw_iconst 0 d_M_worker_1 (by decide) kz) ?_
  refine jx_of (fun _ _ kz => jw_iconst 2 d_M_worker_2 (by decide) kz) ?_
  refine jx_callS (x_M_is_t d u 0 2  h1 h2) mt_M_is ml_M_93 sm_M_is d_M_worker_3 rfl rfl (Nat.le_of_ble_eq_true rfl) ?_
  rintro _ _ ⟨rfl, rfl⟩
  refine jx_eq (st2 := [.inl 1]) rfl rfl rfl ?_
  refine jx_if_eq 19 d_M_worker_6 (by decide) (fun h => absurd h (by decide)) (fun _ => ?_)
  refine jx_of (fun _ _ kz => jw_iload_n 2 d_M_worker_9 rfl rfl kz) ?_
  refine jx_of (fun _ _ kz => jw_iconst 0 d_M_worker_10 (by decide) kz) ?_
  refine jx_of (fun _ _ kz => jw_bipush 7 d_M_worker_11 (by decide) kz) ?_
  refine jx_callS (x_M_is_f d k 0 7  hu) mt_M_is ml_M_93 sm_M_is d_M_worker_13 rfl rfl (Nat.le_of_ble_eq_true rfl) ?_
  rintro _ _ ⟨rfl, rfl⟩
  refine jx_eq (st2 := [.inl 0]) rfl rfl rfl ?_
  refine jx_if_ne 21 d_M_worker_16 (by decide) (fun h => absurd h (by decide)) (fun _ => ?_)
  refine jx_of (fun _ _ kz => jw_iconst (-1) d_M_worker_19 (by decide) kz) ?_
  refine jx_iret d_M_worker_20 rfl ?_
  exact ⟨⟨_, rfl⟩, rfl⟩
set_option maxRecDepth 20000 in
set_option maxHeartbeats 4000000 in
theorem z_M_worker_0 {G : Gt} {M : Me} (d : Nat) (w : Nat) (np : Nat) (nt : Nat) (hJ : mJ M np nt) (hw : w < 3) (h1 : ¬ nI w < 0) (h2 : ¬ 2 < nI w) : sx G yt_M_worker yn_M_worker (d + 2) [.inr (some (7, 0)), .inl (nI w), .inl 0] M (fun r M' => (∃ v : Int32, r = some (.inl v)) ∧ M = M') := by
  refine sx_of (k := 0) (lc := [some (.inr (some (7, 0))), some (.inl (nI w)), some (.inl 0)]) mt_M_worker (Nat.le_of_ble_eq_true rfl) rfl ?_
  refine jx_of (fun _ _ kz => jw_iload_n 1 d_M_worker_0 rfl rfl kz) ?_
  refine jx_of (fun _ _ kz => jw_iconst 0 d_M_worker_1 (by decide) kz) ?_
  refine jx_of (fun _ _ kz => jw_iconst 2 d_M_worker_2 (by decide) kz) ?_
  refine jx_callS (x_M_is_t d ((nI w)) 0 2  h1 h2) mt_M_is ml_M_93 sm_M_is d_M_worker_3 rfl rfl (Nat.le_of_ble_eq_true rfl) ?_
  rintro _ _ ⟨rfl, rfl⟩
  refine jx_eq (st2 := [.inl 1]) rfl rfl rfl ?_
  refine jx_if_eq 19 d_M_worker_6 (by decide) (fun h => absurd h (by decide)) (fun _ => ?_)
  refine jx_of (fun _ _ kz => jw_iload_n 2 d_M_worker_9 rfl rfl kz) ?_
  refine jx_of (fun _ _ kz => jw_iconst 0 d_M_worker_10 (by decide) kz) ?_
  refine jx_of (fun _ _ kz => jw_bipush 7 d_M_worker_11 (by decide) kz) ?_
  refine jx_callS (x_M_is_t d 0 0 7  (by decide) (by decide)) mt_M_is ml_M_93 sm_M_is d_M_worker_13 rfl rfl (Nat.le_of_ble_eq_true rfl) ?_
  rintro _ _ ⟨rfl, rfl⟩
  refine jx_eq (st2 := [.inl 1]) rfl rfl rfl ?_
  refine jx_if_ne 21 d_M_worker_16 (by decide) (fun _ => ?_) (fun h => absurd h (by decide))
  refine jx_of (fun _ _ kz => jw_iload_n 2 d_M_worker_21 rfl rfl kz) ?_
  refine jx_of (fun _ _ kz => jw_tabIn 68 d_M_worker_22 (by decide) (by decide) rfl (by decide) kz) ?_
  refine jx_of (fun _ _ kz => jw_aload_n 0 d_M_worker_68 rfl rfl kz) ?_
  refine jx_of (fun _ _ kz => jw_getPe (some (48, 0)) fl_M_65 d_M_worker_69 rfl rfl (by simp [me_I_sI, me_I_sP, me_I_nx, me_P_sI, me_P_sP, me_P_nx, me_N_sI, me_N_sP, me_N_nx, me_L_sI, me_L_sP, me_L_nx, show me_P M 7 0 19 = some (48, 0) from hJ.1.1.1 (7, 0, 19, 48, 0) (by decide)]) kz) ?_
  refine jx_of (fun _ _ kz => jw_iload_n 1 d_M_worker_72 rfl rfl kz) ?_
  refine jx_of (fun _ _ kz => jw_ialde (_) d_M_worker_73 rfl rfl (by rw [show me_L _ 48 0 = 3 from (by simp [me_I_sI, me_I_sP, me_I_nx, me_P_sI, me_P_sP, me_P_nx, me_N_sI, me_N_sP, me_N_nx, me_L_sI, me_L_sP, me_L_nx, show me_L M 48 0 = 3 from hJ.1.1.2 (48, 0, 3) (by decide)])]; exact (vp_in_nI hw (by decide))) rfl kz) ?_
  refine jx_iret d_M_worker_74 rfl ?_
  exact ⟨⟨_, rfl⟩, rfl⟩
set_option maxRecDepth 20000 in
set_option maxHeartbeats 4000000 in
theorem z_M_worker_1 {G : Gt} {M : Me} (d : Nat) (w : Nat) (np : Nat) (nt : Nat) (hJ : mJ M np nt) (hw : w < 3) (h1 : ¬ nI w < 0) (h2 : ¬ 2 < nI w) : sx G yt_M_worker yn_M_worker (d + 2) [.inr (some (7, 0)), .inl (nI w), .inl 1] M (fun r M' => (∃ v : Int32, r = some (.inl v)) ∧ M = M') := by
  refine sx_of (k := 0) (lc := [some (.inr (some (7, 0))), some (.inl (nI w)), some (.inl 1)]) mt_M_worker (Nat.le_of_ble_eq_true rfl) rfl ?_
  refine jx_of (fun _ _ kz => jw_iload_n 1 d_M_worker_0 rfl rfl kz) ?_
  refine jx_of (fun _ _ kz => jw_iconst 0 d_M_worker_1 (by decide) kz) ?_
  refine jx_of (fun _ _ kz => jw_iconst 2 d_M_worker_2 (by decide) kz) ?_
  refine jx_callS (x_M_is_t d ((nI w)) 0 2  h1 h2) mt_M_is ml_M_93 sm_M_is d_M_worker_3 rfl rfl (Nat.le_of_ble_eq_true rfl) ?_
  rintro _ _ ⟨rfl, rfl⟩
  refine jx_eq (st2 := [.inl 1]) rfl rfl rfl ?_
  refine jx_if_eq 19 d_M_worker_6 (by decide) (fun h => absurd h (by decide)) (fun _ => ?_)
  refine jx_of (fun _ _ kz => jw_iload_n 2 d_M_worker_9 rfl rfl kz) ?_
  refine jx_of (fun _ _ kz => jw_iconst 0 d_M_worker_10 (by decide) kz) ?_
  refine jx_of (fun _ _ kz => jw_bipush 7 d_M_worker_11 (by decide) kz) ?_
  refine jx_callS (x_M_is_t d 1 0 7  (by decide) (by decide)) mt_M_is ml_M_93 sm_M_is d_M_worker_13 rfl rfl (Nat.le_of_ble_eq_true rfl) ?_
  rintro _ _ ⟨rfl, rfl⟩
  refine jx_eq (st2 := [.inl 1]) rfl rfl rfl ?_
  refine jx_if_ne 21 d_M_worker_16 (by decide) (fun _ => ?_) (fun h => absurd h (by decide))
  refine jx_of (fun _ _ kz => jw_iload_n 2 d_M_worker_21 rfl rfl kz) ?_
  refine jx_of (fun _ _ kz => jw_tabIn 75 d_M_worker_22 (by decide) (by decide) rfl (by decide) kz) ?_
  refine jx_of (fun _ _ kz => jw_aload_n 0 d_M_worker_75 rfl rfl kz) ?_
  refine jx_of (fun _ _ kz => jw_getPe (some (49, 0)) fl_M_68 d_M_worker_76 rfl rfl (by simp [me_I_sI, me_I_sP, me_I_nx, me_P_sI, me_P_sP, me_P_nx, me_N_sI, me_N_sP, me_N_nx, me_L_sI, me_L_sP, me_L_nx, show me_P M 7 0 20 = some (49, 0) from hJ.1.1.1 (7, 0, 20, 49, 0) (by decide)]) kz) ?_
  refine jx_of (fun _ _ kz => jw_iload_n 1 d_M_worker_79 rfl rfl kz) ?_
  refine jx_of (fun _ _ kz => jw_ialde (_) d_M_worker_80 rfl rfl (by rw [show me_L _ 49 0 = 3 from (by simp [me_I_sI, me_I_sP, me_I_nx, me_P_sI, me_P_sP, me_P_nx, me_N_sI, me_N_sP, me_N_nx, me_L_sI, me_L_sP, me_L_nx, show me_L M 49 0 = 3 from hJ.1.1.2 (49, 0, 3) (by decide)])]; exact (vp_in_nI hw (by decide))) rfl kz) ?_
  refine jx_iret d_M_worker_81 rfl ?_
  exact ⟨⟨_, rfl⟩, rfl⟩
set_option maxRecDepth 20000 in
set_option maxHeartbeats 4000000 in
theorem z_M_worker_2 {G : Gt} {M : Me} (d : Nat) (w : Nat) (np : Nat) (nt : Nat) (hJ : mJ M np nt) (hw : w < 3) (h1 : ¬ nI w < 0) (h2 : ¬ 2 < nI w) : sx G yt_M_worker yn_M_worker (d + 2) [.inr (some (7, 0)), .inl (nI w), .inl 2] M (fun r M' => (∃ v : Int32, r = some (.inl v)) ∧ M = M') := by
  refine sx_of (k := 0) (lc := [some (.inr (some (7, 0))), some (.inl (nI w)), some (.inl 2)]) mt_M_worker (Nat.le_of_ble_eq_true rfl) rfl ?_
  refine jx_of (fun _ _ kz => jw_iload_n 1 d_M_worker_0 rfl rfl kz) ?_
  refine jx_of (fun _ _ kz => jw_iconst 0 d_M_worker_1 (by decide) kz) ?_
  refine jx_of (fun _ _ kz => jw_iconst 2 d_M_worker_2 (by decide) kz) ?_
  refine jx_callS (x_M_is_t d ((nI w)) 0 2  h1 h2) mt_M_is ml_M_93 sm_M_is d_M_worker_3 rfl rfl (Nat.le_of_ble_eq_true rfl) ?_
  rintro _ _ ⟨rfl, rfl⟩
  refine jx_eq (st2 := [.inl 1]) rfl rfl rfl ?_
  refine jx_if_eq 19 d_M_worker_6 (by decide) (fun h => absurd h (by decide)) (fun _ => ?_)
  refine jx_of (fun _ _ kz => jw_iload_n 2 d_M_worker_9 rfl rfl kz) ?_
  refine jx_of (fun _ _ kz => jw_iconst 0 d_M_worker_10 (by decide) kz) ?_
  refine jx_of (fun _ _ kz => jw_bipush 7 d_M_worker_11 (by decide) kz) ?_
  refine jx_callS (x_M_is_t d 2 0 7  (by decide) (by decide)) mt_M_is ml_M_93 sm_M_is d_M_worker_13 rfl rfl (Nat.le_of_ble_eq_true rfl) ?_
  rintro _ _ ⟨rfl, rfl⟩
  refine jx_eq (st2 := [.inl 1]) rfl rfl rfl ?_
  refine jx_if_ne 21 d_M_worker_16 (by decide) (fun _ => ?_) (fun h => absurd h (by decide))
  refine jx_of (fun _ _ kz => jw_iload_n 2 d_M_worker_21 rfl rfl kz) ?_
  refine jx_of (fun _ _ kz => jw_tabIn 82 d_M_worker_22 (by decide) (by decide) rfl (by decide) kz) ?_
  refine jx_of (fun _ _ kz => jw_aload_n 0 d_M_worker_82 rfl rfl kz) ?_
  refine jx_of (fun _ _ kz => jw_getPe (some (52, 0)) fl_M_77 d_M_worker_83 rfl rfl (by simp [me_I_sI, me_I_sP, me_I_nx, me_P_sI, me_P_sP, me_P_nx, me_N_sI, me_N_sP, me_N_nx, me_L_sI, me_L_sP, me_L_nx, show me_P M 7 0 23 = some (52, 0) from hJ.1.1.1 (7, 0, 23, 52, 0) (by decide)]) kz) ?_
  refine jx_of (fun _ _ kz => jw_iload_n 1 d_M_worker_86 rfl rfl kz) ?_
  refine jx_of (fun _ _ kz => jw_ialde (_) d_M_worker_87 rfl rfl (by rw [show me_L _ 52 0 = 3 from (by simp [me_I_sI, me_I_sP, me_I_nx, me_P_sI, me_P_sP, me_P_nx, me_N_sI, me_N_sP, me_N_nx, me_L_sI, me_L_sP, me_L_nx, show me_L M 52 0 = 3 from hJ.1.1.2 (52, 0, 3) (by decide)])]; exact (vp_in_nI hw (by decide))) rfl kz) ?_
  refine jx_iret d_M_worker_88 rfl ?_
  exact ⟨⟨_, rfl⟩, rfl⟩
set_option maxRecDepth 20000 in
set_option maxHeartbeats 4000000 in
theorem z_M_worker_3 {G : Gt} {M : Me} (d : Nat) (w : Nat) (np : Nat) (nt : Nat) (hJ : mJ M np nt) (hw : w < 3) (h1 : ¬ nI w < 0) (h2 : ¬ 2 < nI w) : sx G yt_M_worker yn_M_worker (d + 2) [.inr (some (7, 0)), .inl (nI w), .inl 3] M (fun r M' => (∃ v : Int32, r = some (.inl v)) ∧ M = M') := by
  refine sx_of (k := 0) (lc := [some (.inr (some (7, 0))), some (.inl (nI w)), some (.inl 3)]) mt_M_worker (Nat.le_of_ble_eq_true rfl) rfl ?_
  refine jx_of (fun _ _ kz => jw_iload_n 1 d_M_worker_0 rfl rfl kz) ?_
  refine jx_of (fun _ _ kz => jw_iconst 0 d_M_worker_1 (by decide) kz) ?_
  refine jx_of (fun _ _ kz => jw_iconst 2 d_M_worker_2 (by decide) kz) ?_
  refine jx_callS (x_M_is_t d ((nI w)) 0 2  h1 h2) mt_M_is ml_M_93 sm_M_is d_M_worker_3 rfl rfl (Nat.le_of_ble_eq_true rfl) ?_
  rintro _ _ ⟨rfl, rfl⟩
  refine jx_eq (st2 := [.inl 1]) rfl rfl rfl ?_
  refine jx_if_eq 19 d_M_worker_6 (by decide) (fun h => absurd h (by decide)) (fun _ => ?_)
  refine jx_of (fun _ _ kz => jw_iload_n 2 d_M_worker_9 rfl rfl kz) ?_
  refine jx_of (fun _ _ kz => jw_iconst 0 d_M_worker_10 (by decide) kz) ?_
  refine jx_of (fun _ _ kz => jw_bipush 7 d_M_worker_11 (by decide) kz) ?_
  refine jx_callS (x_M_is_t d 3 0 7  (by decide) (by decide)) mt_M_is ml_M_93 sm_M_is d_M_worker_13 rfl rfl (Nat.le_of_ble_eq_true rfl) ?_
  rintro _ _ ⟨rfl, rfl⟩
  refine jx_eq (st2 := [.inl 1]) rfl rfl rfl ?_
  refine jx_if_ne 21 d_M_worker_16 (by decide) (fun _ => ?_) (fun h => absurd h (by decide))
  refine jx_of (fun _ _ kz => jw_iload_n 2 d_M_worker_21 rfl rfl kz) ?_
  refine jx_of (fun _ _ kz => jw_tabIn 96 d_M_worker_22 (by decide) (by decide) rfl (by decide) kz) ?_
  refine jx_of (fun _ _ kz => jw_iload_n 2 d_M_worker_96 rfl rfl kz) ?_
  refine jx_of (fun _ _ kz => jw_iconst 3 d_M_worker_97 (by decide) kz) ?_
  refine jx_of (fun _ _ kz => jw_isub d_M_worker_98 kz) ?_
  rw [show (3 - 3 : Int32) = 0 from by decide]
  refine jx_of (fun _ _ kz => jw_aload_n 0 d_M_worker_99 rfl rfl kz) ?_
  refine jx_of (fun _ _ kz => jw_getPe (some (52, 0)) fl_M_77 d_M_worker_100 rfl rfl (by simp [me_I_sI, me_I_sP, me_I_nx, me_P_sI, me_P_sP, me_P_nx, me_N_sI, me_N_sP, me_N_nx, me_L_sI, me_L_sP, me_L_nx, show me_P M 7 0 23 = some (52, 0) from hJ.1.1.1 (7, 0, 23, 52, 0) (by decide)]) kz) ?_
  refine jx_of (fun _ _ kz => jw_iload_n 1 d_M_worker_103 rfl rfl kz) ?_
  refine jx_of (fun _ _ kz => jw_ialde (_) d_M_worker_104 rfl rfl (by rw [show me_L _ 52 0 = 3 from (by simp [me_I_sI, me_I_sP, me_I_nx, me_P_sI, me_P_sP, me_P_nx, me_N_sI, me_N_sP, me_N_nx, me_L_sI, me_L_sP, me_L_nx, show me_L M 52 0 = 3 from hJ.1.1.2 (52, 0, 3) (by decide)])]; exact (vp_in_nI hw (by decide))) rfl kz) ?_
  refine jx_icmp_ge 123 d_M_worker_105 (by decide) (fun b_105 => ?_) (fun b_105 => ?_)
  · skip
    refine jx_of (fun _ _ kz => jw_iconst (-1) d_M_worker_123 (by decide) kz) ?_
    refine jx_iret d_M_worker_124 rfl ?_
    exact ⟨⟨_, rfl⟩, rfl⟩
  · skip
    refine jx_of (fun _ _ kz => jw_aload_n 0 d_M_worker_108 rfl rfl kz) ?_
    refine jx_of (fun _ _ kz => jw_getPe (some (51, 0)) fl_M_74 d_M_worker_109 rfl rfl (by simp [me_I_sI, me_I_sP, me_I_nx, me_P_sI, me_P_sP, me_P_nx, me_N_sI, me_N_sP, me_N_nx, me_L_sI, me_L_sP, me_L_nx, show me_P M 7 0 22 = some (51, 0) from hJ.1.1.1 (7, 0, 22, 51, 0) (by decide)]) kz) ?_
    refine jx_of (fun _ _ kz => jw_iconst 4 d_M_worker_112 (by decide) kz) ?_
    refine jx_of (fun _ _ kz => jw_iload_n 1 d_M_worker_113 rfl rfl kz) ?_
    refine jx_of (fun _ _ kz => jw_imul d_M_worker_114 kz) ?_
    rw [show (4 * (nI w) : Int32) = nI (4 * w) from n4 w]
    refine jx_of (fun _ _ kz => jw_iload_n 2 d_M_worker_115 rfl rfl kz) ?_
    refine jx_of (fun _ _ kz => jw_iadd d_M_worker_116 kz) ?_
    rw [show ((nI (4 * w)) + 3 : Int32) = nI (4 * w + 3) from nI_add _ 3]
    refine jx_of (fun _ _ kz => jw_iconst 3 d_M_worker_117 (by decide) kz) ?_
    refine jx_of (fun _ _ kz => jw_isub d_M_worker_118 kz) ?_
    rw [show ((nI (4 * w + 3)) - 3 : Int32) = nI (4 * w + 0) from n_m3 (4 * w + 0)]
    refine jx_of (fun _ _ kz => jw_ialde (_) d_M_worker_119 rfl rfl (by rw [show me_L _ 51 0 = 12 from (by simp [me_I_sI, me_I_sP, me_I_nx, me_P_sI, me_P_sP, me_P_nx, me_N_sI, me_N_sP, me_N_nx, me_L_sI, me_L_sP, me_L_nx, show me_L M 51 0 = 12 from hJ.1.1.2 (51, 0, 12) (by decide)])]; exact (vp_in_nI (by omega) (by decide))) rfl kz) ?_
    refine jx_of (fun _ _ kz => jw_goto 124 d_M_worker_120 (by decide) kz) ?_
    refine jx_iret d_M_worker_124 rfl ?_
    exact ⟨⟨_, rfl⟩, rfl⟩
set_option maxRecDepth 20000 in
set_option maxHeartbeats 4000000 in
theorem z_M_worker_4 {G : Gt} {M : Me} (d : Nat) (w : Nat) (np : Nat) (nt : Nat) (hJ : mJ M np nt) (hw : w < 3) (h1 : ¬ nI w < 0) (h2 : ¬ 2 < nI w) : sx G yt_M_worker yn_M_worker (d + 2) [.inr (some (7, 0)), .inl (nI w), .inl 4] M (fun r M' => (∃ v : Int32, r = some (.inl v)) ∧ M = M') := by
  refine sx_of (k := 0) (lc := [some (.inr (some (7, 0))), some (.inl (nI w)), some (.inl 4)]) mt_M_worker (Nat.le_of_ble_eq_true rfl) rfl ?_
  refine jx_of (fun _ _ kz => jw_iload_n 1 d_M_worker_0 rfl rfl kz) ?_
  refine jx_of (fun _ _ kz => jw_iconst 0 d_M_worker_1 (by decide) kz) ?_
  refine jx_of (fun _ _ kz => jw_iconst 2 d_M_worker_2 (by decide) kz) ?_
  refine jx_callS (x_M_is_t d ((nI w)) 0 2  h1 h2) mt_M_is ml_M_93 sm_M_is d_M_worker_3 rfl rfl (Nat.le_of_ble_eq_true rfl) ?_
  rintro _ _ ⟨rfl, rfl⟩
  refine jx_eq (st2 := [.inl 1]) rfl rfl rfl ?_
  refine jx_if_eq 19 d_M_worker_6 (by decide) (fun h => absurd h (by decide)) (fun _ => ?_)
  refine jx_of (fun _ _ kz => jw_iload_n 2 d_M_worker_9 rfl rfl kz) ?_
  refine jx_of (fun _ _ kz => jw_iconst 0 d_M_worker_10 (by decide) kz) ?_
  refine jx_of (fun _ _ kz => jw_bipush 7 d_M_worker_11 (by decide) kz) ?_
  refine jx_callS (x_M_is_t d 4 0 7  (by decide) (by decide)) mt_M_is ml_M_93 sm_M_is d_M_worker_13 rfl rfl (Nat.le_of_ble_eq_true rfl) ?_
  rintro _ _ ⟨rfl, rfl⟩
  refine jx_eq (st2 := [.inl 1]) rfl rfl rfl ?_
  refine jx_if_ne 21 d_M_worker_16 (by decide) (fun _ => ?_) (fun h => absurd h (by decide))
  refine jx_of (fun _ _ kz => jw_iload_n 2 d_M_worker_21 rfl rfl kz) ?_
  refine jx_of (fun _ _ kz => jw_tabIn 96 d_M_worker_22 (by decide) (by decide) rfl (by decide) kz) ?_
  refine jx_of (fun _ _ kz => jw_iload_n 2 d_M_worker_96 rfl rfl kz) ?_
  refine jx_of (fun _ _ kz => jw_iconst 3 d_M_worker_97 (by decide) kz) ?_
  refine jx_of (fun _ _ kz => jw_isub d_M_worker_98 kz) ?_
  rw [show (4 - 3 : Int32) = 1 from by decide]
  refine jx_of (fun _ _ kz => jw_aload_n 0 d_M_worker_99 rfl rfl kz) ?_
  refine jx_of (fun _ _ kz => jw_getPe (some (52, 0)) fl_M_77 d_M_worker_100 rfl rfl (by simp [me_I_sI, me_I_sP, me_I_nx, me_P_sI, me_P_sP, me_P_nx, me_N_sI, me_N_sP, me_N_nx, me_L_sI, me_L_sP, me_L_nx, show me_P M 7 0 23 = some (52, 0) from hJ.1.1.1 (7, 0, 23, 52, 0) (by decide)]) kz) ?_
  refine jx_of (fun _ _ kz => jw_iload_n 1 d_M_worker_103 rfl rfl kz) ?_
  refine jx_of (fun _ _ kz => jw_ialde (_) d_M_worker_104 rfl rfl (by rw [show me_L _ 52 0 = 3 from (by simp [me_I_sI, me_I_sP, me_I_nx, me_P_sI, me_P_sP, me_P_nx, me_N_sI, me_N_sP, me_N_nx, me_L_sI, me_L_sP, me_L_nx, show me_L M 52 0 = 3 from hJ.1.1.2 (52, 0, 3) (by decide)])]; exact (vp_in_nI hw (by decide))) rfl kz) ?_
  refine jx_icmp_ge 123 d_M_worker_105 (by decide) (fun b_105 => ?_) (fun b_105 => ?_)
  · skip
    refine jx_of (fun _ _ kz => jw_iconst (-1) d_M_worker_123 (by decide) kz) ?_
    refine jx_iret d_M_worker_124 rfl ?_
    exact ⟨⟨_, rfl⟩, rfl⟩
  · skip
    refine jx_of (fun _ _ kz => jw_aload_n 0 d_M_worker_108 rfl rfl kz) ?_
    refine jx_of (fun _ _ kz => jw_getPe (some (51, 0)) fl_M_74 d_M_worker_109 rfl rfl (by simp [me_I_sI, me_I_sP, me_I_nx, me_P_sI, me_P_sP, me_P_nx, me_N_sI, me_N_sP, me_N_nx, me_L_sI, me_L_sP, me_L_nx, show me_P M 7 0 22 = some (51, 0) from hJ.1.1.1 (7, 0, 22, 51, 0) (by decide)]) kz) ?_
    refine jx_of (fun _ _ kz => jw_iconst 4 d_M_worker_112 (by decide) kz) ?_
    refine jx_of (fun _ _ kz => jw_iload_n 1 d_M_worker_113 rfl rfl kz) ?_
    refine jx_of (fun _ _ kz => jw_imul d_M_worker_114 kz) ?_
    rw [show (4 * (nI w) : Int32) = nI (4 * w) from n4 w]
    refine jx_of (fun _ _ kz => jw_iload_n 2 d_M_worker_115 rfl rfl kz) ?_
    refine jx_of (fun _ _ kz => jw_iadd d_M_worker_116 kz) ?_
    rw [show ((nI (4 * w)) + 4 : Int32) = nI (4 * w + 4) from nI_add _ 4]
    refine jx_of (fun _ _ kz => jw_iconst 3 d_M_worker_117 (by decide) kz) ?_
    refine jx_of (fun _ _ kz => jw_isub d_M_worker_118 kz) ?_
    rw [show ((nI (4 * w + 4)) - 3 : Int32) = nI (4 * w + 1) from n_m3 (4 * w + 1)]
    refine jx_of (fun _ _ kz => jw_ialde (_) d_M_worker_119 rfl rfl (by rw [show me_L _ 51 0 = 12 from (by simp [me_I_sI, me_I_sP, me_I_nx, me_P_sI, me_P_sP, me_P_nx, me_N_sI, me_N_sP, me_N_nx, me_L_sI, me_L_sP, me_L_nx, show me_L M 51 0 = 12 from hJ.1.1.2 (51, 0, 12) (by decide)])]; exact (vp_in_nI (by omega) (by decide))) rfl kz) ?_
    refine jx_of (fun _ _ kz => jw_goto 124 d_M_worker_120 (by decide) kz) ?_
    refine jx_iret d_M_worker_124 rfl ?_
    exact ⟨⟨_, rfl⟩, rfl⟩
set_option maxRecDepth 20000 in
set_option maxHeartbeats 4000000 in
theorem z_M_worker_5 {G : Gt} {M : Me} (d : Nat) (w : Nat) (np : Nat) (nt : Nat) (hJ : mJ M np nt) (hw : w < 3) (h1 : ¬ nI w < 0) (h2 : ¬ 2 < nI w) : sx G yt_M_worker yn_M_worker (d + 2) [.inr (some (7, 0)), .inl (nI w), .inl 5] M (fun r M' => (∃ v : Int32, r = some (.inl v)) ∧ M = M') := by
  refine sx_of (k := 0) (lc := [some (.inr (some (7, 0))), some (.inl (nI w)), some (.inl 5)]) mt_M_worker (Nat.le_of_ble_eq_true rfl) rfl ?_
  refine jx_of (fun _ _ kz => jw_iload_n 1 d_M_worker_0 rfl rfl kz) ?_
  refine jx_of (fun _ _ kz => jw_iconst 0 d_M_worker_1 (by decide) kz) ?_
  refine jx_of (fun _ _ kz => jw_iconst 2 d_M_worker_2 (by decide) kz) ?_
  refine jx_callS (x_M_is_t d ((nI w)) 0 2  h1 h2) mt_M_is ml_M_93 sm_M_is d_M_worker_3 rfl rfl (Nat.le_of_ble_eq_true rfl) ?_
  rintro _ _ ⟨rfl, rfl⟩
  refine jx_eq (st2 := [.inl 1]) rfl rfl rfl ?_
  refine jx_if_eq 19 d_M_worker_6 (by decide) (fun h => absurd h (by decide)) (fun _ => ?_)
  refine jx_of (fun _ _ kz => jw_iload_n 2 d_M_worker_9 rfl rfl kz) ?_
  refine jx_of (fun _ _ kz => jw_iconst 0 d_M_worker_10 (by decide) kz) ?_
  refine jx_of (fun _ _ kz => jw_bipush 7 d_M_worker_11 (by decide) kz) ?_
  refine jx_callS (x_M_is_t d 5 0 7  (by decide) (by decide)) mt_M_is ml_M_93 sm_M_is d_M_worker_13 rfl rfl (Nat.le_of_ble_eq_true rfl) ?_
  rintro _ _ ⟨rfl, rfl⟩
  refine jx_eq (st2 := [.inl 1]) rfl rfl rfl ?_
  refine jx_if_ne 21 d_M_worker_16 (by decide) (fun _ => ?_) (fun h => absurd h (by decide))
  refine jx_of (fun _ _ kz => jw_iload_n 2 d_M_worker_21 rfl rfl kz) ?_
  refine jx_of (fun _ _ kz => jw_tabIn 96 d_M_worker_22 (by decide) (by decide) rfl (by decide) kz) ?_
  refine jx_of (fun _ _ kz => jw_iload_n 2 d_M_worker_96 rfl rfl kz) ?_
  refine jx_of (fun _ _ kz => jw_iconst 3 d_M_worker_97 (by decide) kz) ?_
  refine jx_of (fun _ _ kz => jw_isub d_M_worker_98 kz) ?_
  rw [show (5 - 3 : Int32) = 2 from by decide]
  refine jx_of (fun _ _ kz => jw_aload_n 0 d_M_worker_99 rfl rfl kz) ?_
  refine jx_of (fun _ _ kz => jw_getPe (some (52, 0)) fl_M_77 d_M_worker_100 rfl rfl (by simp [me_I_sI, me_I_sP, me_I_nx, me_P_sI, me_P_sP, me_P_nx, me_N_sI, me_N_sP, me_N_nx, me_L_sI, me_L_sP, me_L_nx, show me_P M 7 0 23 = some (52, 0) from hJ.1.1.1 (7, 0, 23, 52, 0) (by decide)]) kz) ?_
  refine jx_of (fun _ _ kz => jw_iload_n 1 d_M_worker_103 rfl rfl kz) ?_
  refine jx_of (fun _ _ kz => jw_ialde (_) d_M_worker_104 rfl rfl (by rw [show me_L _ 52 0 = 3 from (by simp [me_I_sI, me_I_sP, me_I_nx, me_P_sI, me_P_sP, me_P_nx, me_N_sI, me_N_sP, me_N_nx, me_L_sI, me_L_sP, me_L_nx, show me_L M 52 0 = 3 from hJ.1.1.2 (52, 0, 3) (by decide)])]; exact (vp_in_nI hw (by decide))) rfl kz) ?_
  refine jx_icmp_ge 123 d_M_worker_105 (by decide) (fun b_105 => ?_) (fun b_105 => ?_)
  · skip
    refine jx_of (fun _ _ kz => jw_iconst (-1) d_M_worker_123 (by decide) kz) ?_
    refine jx_iret d_M_worker_124 rfl ?_
    exact ⟨⟨_, rfl⟩, rfl⟩
  · skip
    refine jx_of (fun _ _ kz => jw_aload_n 0 d_M_worker_108 rfl rfl kz) ?_
    refine jx_of (fun _ _ kz => jw_getPe (some (51, 0)) fl_M_74 d_M_worker_109 rfl rfl (by simp [me_I_sI, me_I_sP, me_I_nx, me_P_sI, me_P_sP, me_P_nx, me_N_sI, me_N_sP, me_N_nx, me_L_sI, me_L_sP, me_L_nx, show me_P M 7 0 22 = some (51, 0) from hJ.1.1.1 (7, 0, 22, 51, 0) (by decide)]) kz) ?_
    refine jx_of (fun _ _ kz => jw_iconst 4 d_M_worker_112 (by decide) kz) ?_
    refine jx_of (fun _ _ kz => jw_iload_n 1 d_M_worker_113 rfl rfl kz) ?_
    refine jx_of (fun _ _ kz => jw_imul d_M_worker_114 kz) ?_
    rw [show (4 * (nI w) : Int32) = nI (4 * w) from n4 w]
    refine jx_of (fun _ _ kz => jw_iload_n 2 d_M_worker_115 rfl rfl kz) ?_
    refine jx_of (fun _ _ kz => jw_iadd d_M_worker_116 kz) ?_
    rw [show ((nI (4 * w)) + 5 : Int32) = nI (4 * w + 5) from nI_add _ 5]
    refine jx_of (fun _ _ kz => jw_iconst 3 d_M_worker_117 (by decide) kz) ?_
    refine jx_of (fun _ _ kz => jw_isub d_M_worker_118 kz) ?_
    rw [show ((nI (4 * w + 5)) - 3 : Int32) = nI (4 * w + 2) from n_m3 (4 * w + 2)]
    refine jx_of (fun _ _ kz => jw_ialde (_) d_M_worker_119 rfl rfl (by rw [show me_L _ 51 0 = 12 from (by simp [me_I_sI, me_I_sP, me_I_nx, me_P_sI, me_P_sP, me_P_nx, me_N_sI, me_N_sP, me_N_nx, me_L_sI, me_L_sP, me_L_nx, show me_L M 51 0 = 12 from hJ.1.1.2 (51, 0, 12) (by decide)])]; exact (vp_in_nI (by omega) (by decide))) rfl kz) ?_
    refine jx_of (fun _ _ kz => jw_goto 124 d_M_worker_120 (by decide) kz) ?_
    refine jx_iret d_M_worker_124 rfl ?_
    exact ⟨⟨_, rfl⟩, rfl⟩
set_option maxRecDepth 20000 in
set_option maxHeartbeats 4000000 in
theorem z_M_worker_6 {G : Gt} {M : Me} (d : Nat) (w : Nat) (np : Nat) (nt : Nat) (hJ : mJ M np nt) (hw : w < 3) (h1 : ¬ nI w < 0) (h2 : ¬ 2 < nI w) : sx G yt_M_worker yn_M_worker (d + 2) [.inr (some (7, 0)), .inl (nI w), .inl 6] M (fun r M' => (∃ v : Int32, r = some (.inl v)) ∧ M = M') := by
  refine sx_of (k := 0) (lc := [some (.inr (some (7, 0))), some (.inl (nI w)), some (.inl 6)]) mt_M_worker (Nat.le_of_ble_eq_true rfl) rfl ?_
  refine jx_of (fun _ _ kz => jw_iload_n 1 d_M_worker_0 rfl rfl kz) ?_
  refine jx_of (fun _ _ kz => jw_iconst 0 d_M_worker_1 (by decide) kz) ?_
  refine jx_of (fun _ _ kz => jw_iconst 2 d_M_worker_2 (by decide) kz) ?_
  refine jx_callS (x_M_is_t d ((nI w)) 0 2  h1 h2) mt_M_is ml_M_93 sm_M_is d_M_worker_3 rfl rfl (Nat.le_of_ble_eq_true rfl) ?_
  rintro _ _ ⟨rfl, rfl⟩
  refine jx_eq (st2 := [.inl 1]) rfl rfl rfl ?_
  refine jx_if_eq 19 d_M_worker_6 (by decide) (fun h => absurd h (by decide)) (fun _ => ?_)
  refine jx_of (fun _ _ kz => jw_iload_n 2 d_M_worker_9 rfl rfl kz) ?_
  refine jx_of (fun _ _ kz => jw_iconst 0 d_M_worker_10 (by decide) kz) ?_
  refine jx_of (fun _ _ kz => jw_bipush 7 d_M_worker_11 (by decide) kz) ?_
  refine jx_callS (x_M_is_t d 6 0 7  (by decide) (by decide)) mt_M_is ml_M_93 sm_M_is d_M_worker_13 rfl rfl (Nat.le_of_ble_eq_true rfl) ?_
  rintro _ _ ⟨rfl, rfl⟩
  refine jx_eq (st2 := [.inl 1]) rfl rfl rfl ?_
  refine jx_if_ne 21 d_M_worker_16 (by decide) (fun _ => ?_) (fun h => absurd h (by decide))
  refine jx_of (fun _ _ kz => jw_iload_n 2 d_M_worker_21 rfl rfl kz) ?_
  refine jx_of (fun _ _ kz => jw_tabIn 96 d_M_worker_22 (by decide) (by decide) rfl (by decide) kz) ?_
  refine jx_of (fun _ _ kz => jw_iload_n 2 d_M_worker_96 rfl rfl kz) ?_
  refine jx_of (fun _ _ kz => jw_iconst 3 d_M_worker_97 (by decide) kz) ?_
  refine jx_of (fun _ _ kz => jw_isub d_M_worker_98 kz) ?_
  rw [show (6 - 3 : Int32) = 3 from by decide]
  refine jx_of (fun _ _ kz => jw_aload_n 0 d_M_worker_99 rfl rfl kz) ?_
  refine jx_of (fun _ _ kz => jw_getPe (some (52, 0)) fl_M_77 d_M_worker_100 rfl rfl (by simp [me_I_sI, me_I_sP, me_I_nx, me_P_sI, me_P_sP, me_P_nx, me_N_sI, me_N_sP, me_N_nx, me_L_sI, me_L_sP, me_L_nx, show me_P M 7 0 23 = some (52, 0) from hJ.1.1.1 (7, 0, 23, 52, 0) (by decide)]) kz) ?_
  refine jx_of (fun _ _ kz => jw_iload_n 1 d_M_worker_103 rfl rfl kz) ?_
  refine jx_of (fun _ _ kz => jw_ialde (_) d_M_worker_104 rfl rfl (by rw [show me_L _ 52 0 = 3 from (by simp [me_I_sI, me_I_sP, me_I_nx, me_P_sI, me_P_sP, me_P_nx, me_N_sI, me_N_sP, me_N_nx, me_L_sI, me_L_sP, me_L_nx, show me_L M 52 0 = 3 from hJ.1.1.2 (52, 0, 3) (by decide)])]; exact (vp_in_nI hw (by decide))) rfl kz) ?_
  refine jx_icmp_ge 123 d_M_worker_105 (by decide) (fun b_105 => ?_) (fun b_105 => ?_)
  · skip
    refine jx_of (fun _ _ kz => jw_iconst (-1) d_M_worker_123 (by decide) kz) ?_
    refine jx_iret d_M_worker_124 rfl ?_
    exact ⟨⟨_, rfl⟩, rfl⟩
  · skip
    refine jx_of (fun _ _ kz => jw_aload_n 0 d_M_worker_108 rfl rfl kz) ?_
    refine jx_of (fun _ _ kz => jw_getPe (some (51, 0)) fl_M_74 d_M_worker_109 rfl rfl (by simp [me_I_sI, me_I_sP, me_I_nx, me_P_sI, me_P_sP, me_P_nx, me_N_sI, me_N_sP, me_N_nx, me_L_sI, me_L_sP, me_L_nx, show me_P M 7 0 22 = some (51, 0) from hJ.1.1.1 (7, 0, 22, 51, 0) (by decide)]) kz) ?_
    refine jx_of (fun _ _ kz => jw_iconst 4 d_M_worker_112 (by decide) kz) ?_
    refine jx_of (fun _ _ kz => jw_iload_n 1 d_M_worker_113 rfl rfl kz) ?_
    refine jx_of (fun _ _ kz => jw_imul d_M_worker_114 kz) ?_
    rw [show (4 * (nI w) : Int32) = nI (4 * w) from n4 w]
    refine jx_of (fun _ _ kz => jw_iload_n 2 d_M_worker_115 rfl rfl kz) ?_
    refine jx_of (fun _ _ kz => jw_iadd d_M_worker_116 kz) ?_
    rw [show ((nI (4 * w)) + 6 : Int32) = nI (4 * w + 6) from nI_add _ 6]
    refine jx_of (fun _ _ kz => jw_iconst 3 d_M_worker_117 (by decide) kz) ?_
    refine jx_of (fun _ _ kz => jw_isub d_M_worker_118 kz) ?_
    rw [show ((nI (4 * w + 6)) - 3 : Int32) = nI (4 * w + 3) from n_m3 (4 * w + 3)]
    refine jx_of (fun _ _ kz => jw_ialde (_) d_M_worker_119 rfl rfl (by rw [show me_L _ 51 0 = 12 from (by simp [me_I_sI, me_I_sP, me_I_nx, me_P_sI, me_P_sP, me_P_nx, me_N_sI, me_N_sP, me_N_nx, me_L_sI, me_L_sP, me_L_nx, show me_L M 51 0 = 12 from hJ.1.1.2 (51, 0, 12) (by decide)])]; exact (vp_in_nI (by omega) (by decide))) rfl kz) ?_
    refine jx_of (fun _ _ kz => jw_goto 124 d_M_worker_120 (by decide) kz) ?_
    refine jx_iret d_M_worker_124 rfl ?_
    exact ⟨⟨_, rfl⟩, rfl⟩
set_option maxRecDepth 20000 in
set_option maxHeartbeats 4000000 in
theorem z_M_worker_7 {G : Gt} {M : Me} (d : Nat) (w : Nat) (np : Nat) (nt : Nat) (hJ : mJ M np nt) (hw : w < 3) (h1 : ¬ nI w < 0) (h2 : ¬ 2 < nI w) : sx G yt_M_worker yn_M_worker (d + 2) [.inr (some (7, 0)), .inl (nI w), .inl 7] M (fun r M' => (∃ v : Int32, r = some (.inl v)) ∧ M = M') := by
  refine sx_of (k := 0) (lc := [some (.inr (some (7, 0))), some (.inl (nI w)), some (.inl 7)]) mt_M_worker (Nat.le_of_ble_eq_true rfl) rfl ?_
  refine jx_of (fun _ _ kz => jw_iload_n 1 d_M_worker_0 rfl rfl kz) ?_
  refine jx_of (fun _ _ kz => jw_iconst 0 d_M_worker_1 (by decide) kz) ?_
  refine jx_of (fun _ _ kz => jw_iconst 2 d_M_worker_2 (by decide) kz) ?_
  refine jx_callS (x_M_is_t d ((nI w)) 0 2  h1 h2) mt_M_is ml_M_93 sm_M_is d_M_worker_3 rfl rfl (Nat.le_of_ble_eq_true rfl) ?_
  rintro _ _ ⟨rfl, rfl⟩
  refine jx_eq (st2 := [.inl 1]) rfl rfl rfl ?_
  refine jx_if_eq 19 d_M_worker_6 (by decide) (fun h => absurd h (by decide)) (fun _ => ?_)
  refine jx_of (fun _ _ kz => jw_iload_n 2 d_M_worker_9 rfl rfl kz) ?_
  refine jx_of (fun _ _ kz => jw_iconst 0 d_M_worker_10 (by decide) kz) ?_
  refine jx_of (fun _ _ kz => jw_bipush 7 d_M_worker_11 (by decide) kz) ?_
  refine jx_callS (x_M_is_t d 7 0 7  (by decide) (by decide)) mt_M_is ml_M_93 sm_M_is d_M_worker_13 rfl rfl (Nat.le_of_ble_eq_true rfl) ?_
  rintro _ _ ⟨rfl, rfl⟩
  refine jx_eq (st2 := [.inl 1]) rfl rfl rfl ?_
  refine jx_if_ne 21 d_M_worker_16 (by decide) (fun _ => ?_) (fun h => absurd h (by decide))
  refine jx_of (fun _ _ kz => jw_iload_n 2 d_M_worker_21 rfl rfl kz) ?_
  refine jx_of (fun _ _ kz => jw_tabIn 89 d_M_worker_22 (by decide) (by decide) rfl (by decide) kz) ?_
  refine jx_of (fun _ _ kz => jw_aload_n 0 d_M_worker_89 rfl rfl kz) ?_
  refine jx_of (fun _ _ kz => jw_getPe (some (50, 0)) fl_M_71 d_M_worker_90 rfl rfl (by simp [me_I_sI, me_I_sP, me_I_nx, me_P_sI, me_P_sP, me_P_nx, me_N_sI, me_N_sP, me_N_nx, me_L_sI, me_L_sP, me_L_nx, show me_P M 7 0 21 = some (50, 0) from hJ.1.1.1 (7, 0, 21, 50, 0) (by decide)]) kz) ?_
  refine jx_of (fun _ _ kz => jw_iload_n 1 d_M_worker_93 rfl rfl kz) ?_
  refine jx_of (fun _ _ kz => jw_ialde (_) d_M_worker_94 rfl rfl (by rw [show me_L _ 50 0 = 3 from (by simp [me_I_sI, me_I_sP, me_I_nx, me_P_sI, me_P_sP, me_P_nx, me_N_sI, me_N_sP, me_N_nx, me_L_sI, me_L_sP, me_L_nx, show me_L M 50 0 = 3 from hJ.1.1.2 (50, 0, 3) (by decide)])]; exact (vp_in_nI hw (by decide))) rfl kz) ?_
  refine jx_iret d_M_worker_95 rfl ?_
  exact ⟨⟨_, rfl⟩, rfl⟩
theorem z_M_worker {G : Gt} {M : Me} (d : Nat) (u k : Int32) (np nt : Nat) (hJ : mJ M np nt) : sx G yt_M_worker yn_M_worker (d + 2) [.inr (some (7, 0)), .inl u, .inl k] M (fun r M' => (∃ v : Int32, r = some (.inl v)) ∧ M = M') := by
  rcases r01 u 0 2 with h | ⟨h1, h2⟩
  · exact z_M_worker_f d u k np nt hJ h
  · rcases r01 k 0 7 with h | ⟨h3, h4⟩
    · exact z_M_worker_f2 d u k np nt hJ h1 h2 h
    · obtain ⟨w, hw, rfl⟩ := r_of (n := 2) (by decide) h1 h2
      obtain ⟨j, hj, rfl⟩ := r_of (n := 7) (by decide) h3 h4
      rcases (show j = 0 ∨ j = 1 ∨ j = 2 ∨ j = 3 ∨ j = 4 ∨ j = 5 ∨ j = 6 ∨ j = 7 by omega) with rfl | rfl | rfl | rfl | rfl | rfl | rfl | rfl
      · exact z_M_worker_0 d w np nt hJ (by omega) h1 h2
      · exact z_M_worker_1 d w np nt hJ (by omega) h1 h2
      · exact z_M_worker_2 d w np nt hJ (by omega) h1 h2
      · exact z_M_worker_3 d w np nt hJ (by omega) h1 h2
      · exact z_M_worker_4 d w np nt hJ (by omega) h1 h2
      · exact z_M_worker_5 d w np nt hJ (by omega) h1 h2
      · exact z_M_worker_6 d w np nt hJ (by omega) h1 h2
      · exact z_M_worker_7 d w np nt hJ (by omega) h1 h2
set_option maxRecDepth 20000 in
set_option maxHeartbeats 4000000 in
theorem z_M_injected_f {G : Gt} {M : Me} (d : Nat) (u : Int32) (n : Nat) (np : Nat) (nt : Nat) (hJ : mJ M np nt) (hn : me_I M 7 0 28 = nI n) (hu : u < 0 ∨ nI n - 1 < u) : sx G yt_M_injected yn_M_injected (d + 2) [.inr (some (7, 0)), .inl u] M (fun r M' => (∃ v : Int32, r = some (.inl v)) ∧ M = M') := by
  refine sx_of (k := 0) (lc := [some (.inr (some (7, 0))), some (.inl u)]) mt_M_injected (Nat.le_of_ble_eq_true rfl) rfl ?_
  refine jx_of (fun _ _ kz => jw_iload_n 1 d_M_injected_0 rfl rfl kz) ?_
  refine jx_of (fun _ _ kz => jw_iconst 0 d_M_injected_1 (by decide) kz) ?_
  refine jx_of (fun _ _ kz => jw_aload_n 0 d_M_injected_2 rfl rfl kz) ?_
  refine jx_of (fun _ _ kz => jw_getIe (nI n) fl_M_119 d_M_injected_3 rfl rfl hn kz) ?_
  refine jx_of (fun _ _ kz => jw_iconst 1 d_M_injected_6 (by decide) kz) ?_
  refine jx_of (fun _ _ kz => jw_isub d_M_injected_7 kz) ?_
  refine jx_callS (x_M_is_f d u 0 (((nI n) - 1))  hu) mt_M_is ml_M_93 sm_M_is d_M_injected_8 rfl rfl (Nat.le_of_ble_eq_true rfl) ?_
  rintro _ _ ⟨rfl, rfl⟩
  refine jx_eq (st2 := [.inl 0]) rfl rfl rfl ?_
  refine jx_if_eq 23 d_M_injected_11 (by decide) (fun _ => ?_) (fun h => absurd h (by decide))
  refine jx_of (fun _ _ kz => jw_iconst (-1) d_M_injected_23 (by decide) kz) ?_
  refine jx_iret d_M_injected_24 rfl ?_
  exact ⟨⟨_, rfl⟩, rfl⟩
set_option maxRecDepth 20000 in
set_option maxHeartbeats 4000000 in
theorem z_M_injected_t {G : Gt} {M : Me} (d : Nat) (k : Nat) (n : Nat) (np : Nat) (nt : Nat) (hJ : mJ M np nt) (hn : me_I M 7 0 28 = nI n) (hk : k < n) (h12 : n ≤ 12) (h1 : ¬ nI k < 0) (h2 : ¬ nI n - 1 < nI k) : sx G yt_M_injected yn_M_injected (d + 2) [.inr (some (7, 0)), .inl (nI k)] M (fun r M' => (∃ v : Int32, r = some (.inl v)) ∧ M = M') := by
  refine sx_of (k := 0) (lc := [some (.inr (some (7, 0))), some (.inl (nI k))]) mt_M_injected (Nat.le_of_ble_eq_true rfl) rfl ?_
  refine jx_of (fun _ _ kz => jw_iload_n 1 d_M_injected_0 rfl rfl kz) ?_
  refine jx_of (fun _ _ kz => jw_iconst 0 d_M_injected_1 (by decide) kz) ?_
  refine jx_of (fun _ _ kz => jw_aload_n 0 d_M_injected_2 rfl rfl kz) ?_
  refine jx_of (fun _ _ kz => jw_getIe (nI n) fl_M_119 d_M_injected_3 rfl rfl hn kz) ?_
  refine jx_of (fun _ _ kz => jw_iconst 1 d_M_injected_6 (by decide) kz) ?_
  refine jx_of (fun _ _ kz => jw_isub d_M_injected_7 kz) ?_
  refine jx_callS (x_M_is_t d ((nI k)) 0 (((nI n) - 1))  h1 h2) mt_M_is ml_M_93 sm_M_is d_M_injected_8 rfl rfl (Nat.le_of_ble_eq_true rfl) ?_
  rintro _ _ ⟨rfl, rfl⟩
  refine jx_eq (st2 := [.inl 1]) rfl rfl rfl ?_
  refine jx_if_eq 23 d_M_injected_11 (by decide) (fun h => absurd h (by decide)) (fun _ => ?_)
  refine jx_of (fun _ _ kz => jw_aload_n 0 d_M_injected_14 rfl rfl kz) ?_
  refine jx_of (fun _ _ kz => jw_getPe (some (53, 0)) fl_M_80 d_M_injected_15 rfl rfl (by simp [me_I_sI, me_I_sP, me_I_nx, me_P_sI, me_P_sP, me_P_nx, me_N_sI, me_N_sP, me_N_nx, me_L_sI, me_L_sP, me_L_nx, show me_P M 7 0 24 = some (53, 0) from hJ.1.1.1 (7, 0, 24, 53, 0) (by decide)]) kz) ?_
  refine jx_of (fun _ _ kz => jw_iload_n 1 d_M_injected_18 rfl rfl kz) ?_
  refine jx_of (fun _ _ kz => jw_ialde (_) d_M_injected_19 rfl rfl (by rw [show me_L _ 53 0 = 12 from (by simp [me_I_sI, me_I_sP, me_I_nx, me_P_sI, me_P_sP, me_P_nx, me_N_sI, me_N_sP, me_N_nx, me_L_sI, me_L_sP, me_L_nx, show me_L M 53 0 = 12 from hJ.1.1.2 (53, 0, 12) (by decide)])]; exact (vp_in_nI (by omega) (by decide))) rfl kz) ?_
  refine jx_of (fun _ _ kz => jw_goto 24 d_M_injected_20 (by decide) kz) ?_
  refine jx_iret d_M_injected_24 rfl ?_
  exact ⟨⟨_, rfl⟩, rfl⟩
theorem z_M_injected {G : Gt} {M : Me} (d : Nat) (u : Int32) (np nt : Nat) (hJ : mJ M np nt) : sx G yt_M_injected yn_M_injected (d + 2) [.inr (some (7, 0)), .inl u] M (fun r M' => (∃ v : Int32, r = some (.inl v)) ∧ M = M') := by
  obtain ⟨inj, rg, sl, hq⟩ := hJ.1.2.2.2.1
  have h12 := qX_len0 hq
  rcases rng u inj.length (by omega) with h | ⟨j, hj, rfl, h1, h2⟩
  · exact z_M_injected_f d u _ np nt hJ hq.1.1 h
  · exact z_M_injected_t d j _ np nt hJ hq.1.1 hj h12 h1 h2
set_option maxRecDepth 20000 in
set_option maxHeartbeats 4000000 in
theorem z_M_gate_f {G : Gt} {M : Me} (d : Nat) (u : Int32) (k : Int32) (np : Nat) (nt : Nat) (hJ : mJ M np nt) (hu : u < 0 ∨ 1 < u) : sx G yt_M_gate yn_M_gate (d + 3) [.inr (some (7, 0)), .inl u, .inl k] M (fun r M' => (∃ v : Int32, r = some (.inl v)) ∧ M = M') := by
  refine sx_of (k := 1) (lc := [some (.inr (some (7, 0))), some (.inl u), some (.inl k), none]) mt_M_gate (Nat.le_of_ble_eq_true rfl) rfl ?_
  refine jx_of (fun _ _ kz => jw_iload_n 1 d_M_gate_0 rfl rfl kz) ?_
  refine jx_of (fun _ _ kz => jw_iconst 0 d_M_gate_1 (by decide) kz) ?_
  refine jx_of (fun _ _ kz => jw_iconst 1 d_M_gate_2 (by decide) kz) ?_
  refine jx_callS (x_M_is_f (d + 1) u 0 1  hu) mt_M_is ml_M_93 sm_M_is d_M_gate_3 rfl rfl (Nat.le_of_ble_eq_true rfl) ?_
  rintro _ _ ⟨rfl, rfl⟩
  refine jx_eq (st2 := [.inl 0]) rfl rfl rfl ?_
  refine jx_if_eq 18 d_M_gate_6 (by decide) (fun _ => ?_) (fun h => absurd h (by decide))
  refine jx_of (fun _ _ kz => jw_iconst (-1) d_M_gate_18 (by decide) kz) ?_
  refine jx_iret d_M_gate_19 rfl ?_
  exact ⟨⟨_, rfl⟩, rfl⟩
set_option maxRecDepth 20000 in
set_option maxHeartbeats 4000000 in
theorem z_M_gate_f2 {G : Gt} {M : Me} (d : Nat) (u : Int32) (k : Int32) (np : Nat) (nt : Nat) (hJ : mJ M np nt) (h1 : ¬ u < 0) (h2 : ¬ 1 < u) (hu : k < 0 ∨ 4 < k) : sx G yt_M_gate yn_M_gate (d + 3) [.inr (some (7, 0)), .inl u, .inl k] M (fun r M' => (∃ v : Int32, r = some (.inl v)) ∧ M = M') := by
  refine sx_of (k := 1) (lc := [some (.inr (some (7, 0))), some (.inl u), some (.inl k), none]) mt_M_gate (Nat.le_of_ble_eq_true rfl) rfl ?_
  refine jx_of (fun _ _ kz => jw_iload_n 1 d_M_gate_0 rfl rfl kz) ?_
  refine jx_of (fun _ _ kz => jw_iconst 0 d_M_gate_1 (by decide) kz) ?_
  refine jx_of (fun _ _ kz => jw_iconst 1 d_M_gate_2 (by decide) kz) ?_
  refine jx_callS (x_M_is_t (d + 1) u 0 1  h1 h2) mt_M_is ml_M_93 sm_M_is d_M_gate_3 rfl rfl (Nat.le_of_ble_eq_true rfl) ?_
  rintro _ _ ⟨rfl, rfl⟩
  refine jx_eq (st2 := [.inl 1]) rfl rfl rfl ?_
  refine jx_if_eq 18 d_M_gate_6 (by decide) (fun h => absurd h (by decide)) (fun _ => ?_)
  refine jx_of (fun _ _ kz => jw_iload_n 2 d_M_gate_9 rfl rfl kz) ?_
  refine jx_of (fun _ _ kz => jw_iconst 0 d_M_gate_10 (by decide) kz) ?_
  refine jx_of (fun _ _ kz => jw_iconst 4 d_M_gate_11 (by decide) kz) ?_
  refine jx_callS (x_M_is_f (d + 1) k 0 4  hu) mt_M_is ml_M_93 sm_M_is d_M_gate_12 rfl rfl (Nat.le_of_ble_eq_true rfl) ?_
  rintro _ _ ⟨rfl, rfl⟩
  refine jx_eq (st2 := [.inl 0]) rfl rfl rfl ?_
  refine jx_if_ne 20 d_M_gate_15 (by decide) (fun h => absurd h (by decide)) (fun _ => ?_)
  refine jx_of (fun _ _ kz => jw_iconst (-1) d_M_gate_18 (by decide) kz) ?_
  refine jx_iret d_M_gate_19 rfl ?_
  exact ⟨⟨_, rfl⟩, rfl⟩
set_option maxRecDepth 20000 in
set_option maxHeartbeats 4000000 in
theorem z_M_gate_t {G : Gt} {M : Me} (d : Nat) (g : Nat) (k : Int32) (np : Nat) (nt : Nat) (hJ : mJ M np nt) (hg : g < 2) (h1 : ¬ nI g < 0) (h2 : ¬ 1 < nI g) (h3 : ¬ k < 0) (h4 : ¬ 4 < k) : sx G yt_M_gate yn_M_gate (d + 3) [.inr (some (7, 0)), .inl (nI g), .inl k] M (fun r M' => (∃ v : Int32, r = some (.inl v)) ∧ M = M') := by
  refine sx_of (k := 1) (lc := [some (.inr (some (7, 0))), some (.inl (nI g)), some (.inl k), none]) mt_M_gate (Nat.le_of_ble_eq_true rfl) rfl ?_
  refine jx_of (fun _ _ kz => jw_iload_n 1 d_M_gate_0 rfl rfl kz) ?_
  refine jx_of (fun _ _ kz => jw_iconst 0 d_M_gate_1 (by decide) kz) ?_
  refine jx_of (fun _ _ kz => jw_iconst 1 d_M_gate_2 (by decide) kz) ?_
  refine jx_callS (x_M_is_t (d + 1) ((nI g)) 0 1  h1 h2) mt_M_is ml_M_93 sm_M_is d_M_gate_3 rfl rfl (Nat.le_of_ble_eq_true rfl) ?_
  rintro _ _ ⟨rfl, rfl⟩
  refine jx_eq (st2 := [.inl 1]) rfl rfl rfl ?_
  refine jx_if_eq 18 d_M_gate_6 (by decide) (fun h => absurd h (by decide)) (fun _ => ?_)
  refine jx_of (fun _ _ kz => jw_iload_n 2 d_M_gate_9 rfl rfl kz) ?_
  refine jx_of (fun _ _ kz => jw_iconst 0 d_M_gate_10 (by decide) kz) ?_
  refine jx_of (fun _ _ kz => jw_iconst 4 d_M_gate_11 (by decide) kz) ?_
  refine jx_callS (x_M_is_t (d + 1) k 0 4  h3 h4) mt_M_is ml_M_93 sm_M_is d_M_gate_12 rfl rfl (Nat.le_of_ble_eq_true rfl) ?_
  rintro _ _ ⟨rfl, rfl⟩
  refine jx_eq (st2 := [.inl 1]) rfl rfl rfl ?_
  refine jx_if_ne 20 d_M_gate_15 (by decide) (fun _ => ?_) (fun h => absurd h (by decide))
  refine jx_of (fun _ _ kz => jw_aload_n 0 d_M_gate_20 rfl rfl kz) ?_
  refine jx_of (fun _ _ kz => jw_iconst 3 d_M_gate_21 (by decide) kz) ?_
  refine jx_of (fun _ _ kz => jw_iload_n 1 d_M_gate_22 rfl rfl kz) ?_
  refine jx_callV (z_M_firstAt d 3 ((nI g)) np nt hJ.1.1  hJ.1.2.1 hJ.1.2.2.1) mt_M_firstAt cf_M rfl rfl ml_M_135 im_M_firstAt se_M_firstAt d_M_gate_23 rfl rfl (Nat.le_of_ble_eq_true rfl) ?_
  rintro _ _ ⟨⟨ks, rfl, hb⟩, rfl⟩
  refine jx_eq (st2 := [.inl ks]) rfl rfl rfl ?_
  refine jx_of (fun _ _ kz => jw_istore_n 3 d_M_gate_26 rfl (Nat.le_of_ble_eq_true rfl) kz) ?_
  dsimp only [List.set]
  refine jx_of (fun _ _ kz => jw_iload_n 2 d_M_gate_27 rfl rfl kz) ?_
  rcases sw_cases (k) 4 (by decide) with t_28 | t_28
  · skip
    refine jx_of (fun _ _ kz => jw_tabOut 104 d_M_gate_28 (by simpa using t_28) (by decide) kz) ?_
    refine jx_of (fun _ _ kz => jw_aload_n 0 d_M_gate_104 rfl rfl kz) ?_
    refine jx_of (fun _ _ kz => jw_iconst 5 d_M_gate_105 (by decide) kz) ?_
    refine jx_of (fun _ _ kz => jw_iload_n 1 d_M_gate_106 rfl rfl kz) ?_
    refine jx_callV (z_M_waiting d 5 ((nI g)) np nt hJ.1.1  hJ.1.2.1 hJ.1.2.2.1) mt_M_waiting cf_M rfl rfl ml_M_229 im_M_waiting se_M_waiting d_M_gate_107 rfl rfl (Nat.le_of_ble_eq_true rfl) ?_
    rintro _ _ ⟨⟨wv, rfl⟩, rfl⟩
    refine jx_eq (st2 := [.inl wv]) rfl rfl rfl ?_
    refine jx_iret d_M_gate_110 rfl ?_
    exact ⟨⟨_, rfl⟩, rfl⟩
  · skip
    obtain ⟨j_28, t_28, e_28⟩ := t_28
    rcases (show j_28 = 0 ∨ j_28 = 1 ∨ j_28 = 2 ∨ j_28 = 3 by omega) with rfl | rfl | rfl | rfl
    · skip
      refine jx_of (fun _ _ kz => jw_tabIn 60 d_M_gate_28 (by rw [e_28]; decide) (by rw [e_28]; decide) (by rw [e_28]; rfl) (by decide) kz) ?_
      refine jx_of (fun _ _ kz => jw_aload_n 0 d_M_gate_60 rfl rfl kz) ?_
      refine jx_of (fun _ _ kz => jw_getPe (some (54, 0)) fl_M_83 d_M_gate_61 rfl rfl (by simp [me_I_sI, me_I_sP, me_I_nx, me_P_sI, me_P_sP, me_P_nx, me_N_sI, me_N_sP, me_N_nx, me_L_sI, me_L_sP, me_L_nx, show me_P M 7 0 25 = some (54, 0) from hJ.1.1.1 (7, 0, 25, 54, 0) (by decide)]) kz) ?_
      refine jx_of (fun _ _ kz => jw_iload_n 1 d_M_gate_64 rfl rfl kz) ?_
      refine jx_of (fun _ _ kz => jw_ialde (_) d_M_gate_65 rfl rfl (by rw [show me_L _ 54 0 = 2 from (by simp [me_I_sI, me_I_sP, me_I_nx, me_P_sI, me_P_sP, me_P_nx, me_N_sI, me_N_sP, me_N_nx, me_L_sI, me_L_sP, me_L_nx, show me_L M 54 0 = 2 from hJ.1.1.2 (54, 0, 2) (by decide)])]; exact (vp_in_nI hg (by decide))) rfl kz) ?_
      refine jx_iret d_M_gate_66 rfl ?_
      exact ⟨⟨_, rfl⟩, rfl⟩
    · skip
      refine jx_of (fun _ _ kz => jw_tabIn 67 d_M_gate_28 (by rw [e_28]; decide) (by rw [e_28]; decide) (by rw [e_28]; rfl) (by decide) kz) ?_
      refine jx_of (fun _ _ kz => jw_aload_n 0 d_M_gate_67 rfl rfl kz) ?_
      refine jx_of (fun _ _ kz => jw_iconst 3 d_M_gate_68 (by decide) kz) ?_
      refine jx_of (fun _ _ kz => jw_iload_n 1 d_M_gate_69 rfl rfl kz) ?_
      refine jx_callV (z_M_waiting d 3 ((nI g)) np nt hJ.1.1  hJ.1.2.1 hJ.1.2.2.1) mt_M_waiting cf_M rfl rfl ml_M_229 im_M_waiting se_M_waiting d_M_gate_70 rfl rfl (Nat.le_of_ble_eq_true rfl) ?_
      rintro _ _ ⟨⟨wv, rfl⟩, rfl⟩
      refine jx_eq (st2 := [.inl wv]) rfl rfl rfl ?_
      refine jx_iret d_M_gate_73 rfl ?_
      exact ⟨⟨_, rfl⟩, rfl⟩
    · skip
      refine jx_of (fun _ _ kz => jw_tabIn 74 d_M_gate_28 (by rw [e_28]; decide) (by rw [e_28]; decide) (by rw [e_28]; rfl) (by decide) kz) ?_
      refine jx_of (fun _ _ kz => jw_iload_n 3 d_M_gate_74 rfl rfl kz) ?_
      refine jx_if_ge 82 d_M_gate_75 (by decide) (fun b_75 => ?_) (fun b_75 => ?_)
      · skip
        obtain ⟨b, hb1, rfl, hb3⟩ := hb.resolve_left (fun q => absurd b_75 (by rw [q]; decide))
        have hnt := hJ.1.2.2.1.2.1
        refine jx_of (fun _ _ kz => jw_aload_n 0 d_M_gate_82 rfl rfl kz) ?_
        refine jx_of (fun _ _ kz => jw_getPe (some (42, 0)) fl_M_47 d_M_gate_83 rfl rfl (by simp [me_I_sI, me_I_sP, me_I_nx, me_P_sI, me_P_sP, me_P_nx, me_N_sI, me_N_sP, me_N_nx, me_L_sI, me_L_sP, me_L_nx, show me_P M 7 0 13 = some (42, 0) from hJ.1.1.1 (7, 0, 13, 42, 0) (by decide)]) kz) ?_
        refine jx_of (fun _ _ kz => jw_iload_n 3 d_M_gate_86 rfl rfl kz) ?_
        refine jx_of (fun _ _ kz => jw_ialde (_) d_M_gate_87 rfl rfl (by rw [show me_L _ 42 0 = 144 from (by simp [me_I_sI, me_I_sP, me_I_nx, me_P_sI, me_P_sP, me_P_nx, me_N_sI, me_N_sP, me_N_nx, me_L_sI, me_L_sP, me_L_nx, show me_L M 42 0 = 144 from hJ.1.1.2 (42, 0, 144) (by decide)])]; exact (vp_in_nI (by omega) (by decide))) rfl kz) ?_
        refine jx_iret d_M_gate_88 rfl ?_
        exact ⟨⟨_, rfl⟩, rfl⟩
      · skip
        refine jx_of (fun _ _ kz => jw_iconst 0 d_M_gate_78 (by decide) kz) ?_
        refine jx_of (fun _ _ kz => jw_goto 88 d_M_gate_79 (by decide) kz) ?_
        refine jx_iret d_M_gate_88 rfl ?_
        exact ⟨⟨_, rfl⟩, rfl⟩
    · skip
      refine jx_of (fun _ _ kz => jw_tabIn 89 d_M_gate_28 (by rw [e_28]; decide) (by rw [e_28]; decide) (by rw [e_28]; rfl) (by decide) kz) ?_
      refine jx_of (fun _ _ kz => jw_aload_n 0 d_M_gate_89 rfl rfl kz) ?_
      refine jx_of (fun _ _ kz => jw_getPe (some (55, 0)) fl_M_86 d_M_gate_90 rfl rfl (by simp [me_I_sI, me_I_sP, me_I_nx, me_P_sI, me_P_sP, me_P_nx, me_N_sI, me_N_sP, me_N_nx, me_L_sI, me_L_sP, me_L_nx, show me_P M 7 0 26 = some (55, 0) from hJ.1.1.1 (7, 0, 26, 55, 0) (by decide)]) kz) ?_
      refine jx_of (fun _ _ kz => jw_iload_n 1 d_M_gate_93 rfl rfl kz) ?_
      refine jx_of (fun _ _ kz => jw_zalde (_) d_M_gate_94 rfl rfl (by rw [show me_L _ 55 0 = 2 from (by simp [me_I_sI, me_I_sP, me_I_nx, me_P_sI, me_P_sP, me_P_nx, me_N_sI, me_N_sP, me_N_nx, me_L_sI, me_L_sP, me_L_nx, show me_L M 55 0 = 2 from hJ.1.1.2 (55, 0, 2) (by decide)])]; exact (vp_in_nI hg (by decide))) rfl kz) ?_
      refine jx_if_eq 102 d_M_gate_95 (by decide) (fun b_95 => ?_) (fun b_95 => ?_)
      · skip
        refine jx_of (fun _ _ kz => jw_iconst 0 d_M_gate_102 (by decide) kz) ?_
        refine jx_iret d_M_gate_103 rfl ?_
        exact ⟨⟨_, rfl⟩, rfl⟩
      · skip
        refine jx_of (fun _ _ kz => jw_iconst 1 d_M_gate_98 (by decide) kz) ?_
        refine jx_of (fun _ _ kz => jw_goto 103 d_M_gate_99 (by decide) kz) ?_
        refine jx_iret d_M_gate_103 rfl ?_
        exact ⟨⟨_, rfl⟩, rfl⟩
theorem z_M_gate {G : Gt} {M : Me} (d : Nat) (u k : Int32) (np nt : Nat) (hJ : mJ M np nt) : sx G yt_M_gate yn_M_gate (d + 3) [.inr (some (7, 0)), .inl u, .inl k] M (fun r M' => (∃ v : Int32, r = some (.inl v)) ∧ M = M') := by
  rcases r01 u 0 1 with h | ⟨h1, h2⟩
  · exact z_M_gate_f d u k np nt hJ h
  · rcases r01 k 0 4 with h | ⟨h3, h4⟩
    · exact z_M_gate_f2 d u k np nt hJ h1 h2 h
    · obtain ⟨j, hj, rfl⟩ := r_of (n := 1) (by decide) h1 h2
      exact z_M_gate_t d j k np nt hJ (by omega) h1 h2 h3 h4
set_option maxRecDepth 20000 in
set_option maxHeartbeats 4000000 in
theorem z_M_count_loop {G : Gt} {M : Me} (d : Nat) (u : Int32) (np nt : Nat) (hJ : mJ M np nt) (c0 s0 : Nat) : ∀ (m t : Nat) (v : Int32), t + m = nt → jx G yt_M_count (d + 2) c0 s0 M 60 [some (.inr (some (7, 0))), some (.inl u), some (.inl v), some (.inl (nI t))] [] (fun r M' => (∃ v : Int32, r = some (.inl v)) ∧ M = M') := by
  have hnt := hJ.1.2.2.1.2.1
  intro m
  induction m with
  | zero =>
    intro t v hk
    refine jx_of (fun _ _ kz => jw_iload_n 3 d_M_count_60 rfl rfl kz) ?_
    refine jx_of (fun _ _ kz => jw_aload_n 0 d_M_count_61 rfl rfl kz) ?_
    refine jx_of (fun _ _ kz => jw_getIe (nI nt) fl_M_112 d_M_count_62 rfl rfl hJ.1.2.2.1.1 kz) ?_
    refine jx_icmp_ge 91 d_M_count_65 (by decide) (fun _ => ?_) (fun h => absurd (nI_le (by omega) (by omega)) h)
    refine jx_of (fun _ _ kz => jw_iload_n 2 d_M_count_91 rfl rfl kz) ?_
    refine jx_iret d_M_count_92 rfl ?_
    exact ⟨⟨_, rfl⟩, rfl⟩
  | succ m ih =>
    intro t v hk
    refine jx_of (fun _ _ kz => jw_iload_n 3 d_M_count_60 rfl rfl kz) ?_
    refine jx_of (fun _ _ kz => jw_aload_n 0 d_M_count_61 rfl rfl kz) ?_
    refine jx_of (fun _ _ kz => jw_getIe (nI nt) fl_M_112 d_M_count_62 rfl rfl hJ.1.2.2.1.1 kz) ?_
    refine jx_icmp_ge 91 d_M_count_65 (by decide) (fun h => absurd h (nI_ge (by omega) (by omega))) (fun _ => ?_)
    refine jx_of (fun _ _ kz => jw_aload_n 0 d_M_count_68 rfl rfl kz) ?_
    refine jx_of (fun _ _ kz => jw_getPe (some (33, 0)) fl_M_19 d_M_count_69 rfl rfl (by simp [me_I_sI, me_I_sP, me_I_nx, me_P_sI, me_P_sP, me_P_nx, me_N_sI, me_N_sP, me_N_nx, me_L_sI, me_L_sP, me_L_nx, show me_P M 7 0 4 = some (33, 0) from hJ.1.1.1 (7, 0, 4, 33, 0) (by decide)]) kz) ?_
    refine jx_of (fun _ _ kz => jw_iload_n 3 d_M_count_72 rfl rfl kz) ?_
    refine jx_of (fun _ _ kz => jw_ialde (me_I M 33 0 t) d_M_count_73 rfl rfl (by rw [show me_L _ 33 0 = 12 from (by simp [me_I_sI, me_I_sP, me_I_nx, me_P_sI, me_P_sP, me_P_nx, me_N_sI, me_N_sP, me_N_nx, me_L_sI, me_L_sP, me_L_nx, show me_L M 33 0 = 12 from hJ.1.1.2 (33, 0, 12) (by decide)])]; exact (vp_in_nI (by omega) (by decide))) (by rw [nI_clamp (by omega)] <;> simp [me_I_sI]) kz) ?_
    refine jx_of (fun _ _ kz => jw_iconst 2 d_M_count_74 (by decide) kz) ?_
    refine jx_of (fun _ _ kz => jw_iconst 4 d_M_count_75 (by decide) kz) ?_
    refine jx_callS (x_M_is d ((me_I M 33 0 t)) 2 4) mt_M_is ml_M_93 sm_M_is d_M_count_76 rfl rfl (Nat.le_of_ble_eq_true rfl) ?_
    rintro _ _ ⟨rfl, rfl⟩
    refine jx_eq (st2 := [.inl (if (me_I M 33 0 t) < 2 then 0 else if 4 < (me_I M 33 0 t) then 0 else 1)]) rfl rfl rfl ?_
    refine jx_if_ne 85 d_M_count_79 (by decide) (fun b_79 => ?_) (fun b_79 => ?_)
    · skip
      refine jx_of (fun _ _ kz => jw_iincc 1 d_M_count_85 (by decide) rfl (Nat.le_of_ble_eq_true rfl) kz) ?_
      dsimp only [List.set]
      refine jx_of (fun _ _ kz => jw_goto 60 d_M_count_88 (by decide) kz) ?_
      rw [nI_1]
      exact ih (t + 1) _ (by omega)
    · skip
      refine jx_of (fun _ _ kz => jw_iincc 1 d_M_count_82 (by decide) rfl (Nat.le_of_ble_eq_true rfl) kz) ?_
      dsimp only [List.set]
      refine jx_of (fun _ _ kz => jw_iincc 1 d_M_count_85 (by decide) rfl (Nat.le_of_ble_eq_true rfl) kz) ?_
      dsimp only [List.set]
      refine jx_of (fun _ _ kz => jw_goto 60 d_M_count_88 (by decide) kz) ?_
      rw [nI_1]
      exact ih (t + 1) _ (by omega)
set_option maxRecDepth 20000 in
set_option maxHeartbeats 4000000 in
theorem z_M_count {G : Gt} {M : Me} (d : Nat) (u : Int32) (np : Nat) (nt : Nat) (hJ : mJ M np nt) : sx G yt_M_count yn_M_count (d + 2) [.inr (some (7, 0)), .inl u] M (fun r M' => (∃ v : Int32, r = some (.inl v)) ∧ M = M') := by
  refine sx_of (k := 2) (lc := [some (.inr (some (7, 0))), some (.inl u), none, none]) mt_M_count (Nat.le_of_ble_eq_true rfl) rfl ?_
  refine jx_of (fun _ _ kz => jw_iconst 0 d_M_count_0 (by decide) kz) ?_
  refine jx_of (fun _ _ kz => jw_istore_n 2 d_M_count_1 rfl (Nat.le_of_ble_eq_true rfl) kz) ?_
  dsimp only [List.set]
  refine jx_of (fun _ _ kz => jw_iload_n 1 d_M_count_2 rfl rfl kz) ?_
  rcases sw_cases (u) 8 (by decide) with t_3 | t_3
  · skip
    refine jx_of (fun _ _ kz => jw_tabOut 121 d_M_count_3 (by simpa using t_3) (by decide) kz) ?_
    refine jx_of (fun _ _ kz => jw_iconst (-1) d_M_count_121 (by decide) kz) ?_
    refine jx_iret d_M_count_122 rfl ?_
    exact ⟨⟨_, rfl⟩, rfl⟩
  · skip
    obtain ⟨j_3, t_3, e_3⟩ := t_3
    rcases (show j_3 = 0 ∨ j_3 = 1 ∨ j_3 = 2 ∨ j_3 = 3 ∨ j_3 = 4 ∨ j_3 = 5 ∨ j_3 = 6 ∨ j_3 = 7 by omega) with rfl | rfl | rfl | rfl | rfl | rfl | rfl | rfl
    · skip
      refine jx_of (fun _ _ kz => jw_tabIn 48 d_M_count_3 (by rw [e_3]; decide) (by rw [e_3]; decide) (by rw [e_3]; rfl) (by decide) kz) ?_
      refine jx_of (fun _ _ kz => jw_aload_n 0 d_M_count_48 rfl rfl kz) ?_
      refine jx_of (fun _ _ kz => jw_getIe (_) fl_M_105 d_M_count_49 rfl rfl rfl kz) ?_
      refine jx_iret d_M_count_52 rfl ?_
      exact ⟨⟨_, rfl⟩, rfl⟩
    · skip
      refine jx_of (fun _ _ kz => jw_tabIn 53 d_M_count_3 (by rw [e_3]; decide) (by rw [e_3]; decide) (by rw [e_3]; rfl) (by decide) kz) ?_
      refine jx_of (fun _ _ kz => jw_aload_n 0 d_M_count_53 rfl rfl kz) ?_
      refine jx_of (fun _ _ kz => jw_getIe (_) fl_M_112 d_M_count_54 rfl rfl rfl kz) ?_
      refine jx_iret d_M_count_57 rfl ?_
      exact ⟨⟨_, rfl⟩, rfl⟩
    · skip
      refine jx_of (fun _ _ kz => jw_tabIn 58 d_M_count_3 (by rw [e_3]; decide) (by rw [e_3]; decide) (by rw [e_3]; rfl) (by decide) kz) ?_
      refine jx_of (fun _ _ kz => jw_iconst 0 d_M_count_58 (by decide) kz) ?_
      refine jx_of (fun _ _ kz => jw_istore_n 3 d_M_count_59 rfl (Nat.le_of_ble_eq_true rfl) kz) ?_
      dsimp only [List.set]
      exact z_M_count_loop d u np nt hJ _ _ nt 0 0 (by omega)
    · skip
      refine jx_of (fun _ _ kz => jw_tabIn 93 d_M_count_3 (by rw [e_3]; decide) (by rw [e_3]; decide) (by rw [e_3]; rfl) (by decide) kz) ?_
      refine jx_of (fun _ _ kz => jw_aload_n 0 d_M_count_93 rfl rfl kz) ?_
      refine jx_of (fun _ _ kz => jw_getIe (_) fl_M_162 d_M_count_94 rfl rfl rfl kz) ?_
      refine jx_iret d_M_count_97 rfl ?_
      exact ⟨⟨_, rfl⟩, rfl⟩
    · skip
      refine jx_of (fun _ _ kz => jw_tabIn 98 d_M_count_3 (by rw [e_3]; decide) (by rw [e_3]; decide) (by rw [e_3]; rfl) (by decide) kz) ?_
      refine jx_of (fun _ _ kz => jw_aload_n 0 d_M_count_98 rfl rfl kz) ?_
      refine jx_of (fun _ _ kz => jw_getIe (_) fl_M_195 d_M_count_99 rfl rfl rfl kz) ?_
      refine jx_iret d_M_count_102 rfl ?_
      exact ⟨⟨_, rfl⟩, rfl⟩
    · skip
      refine jx_of (fun _ _ kz => jw_tabIn 103 d_M_count_3 (by rw [e_3]; decide) (by rw [e_3]; decide) (by rw [e_3]; rfl) (by decide) kz) ?_
      refine jx_of (fun _ _ kz => jw_aload_n 0 d_M_count_103 rfl rfl kz) ?_
      refine jx_of (fun _ _ kz => jw_getIe (_) fl_M_119 d_M_count_104 rfl rfl rfl kz) ?_
      refine jx_iret d_M_count_107 rfl ?_
      exact ⟨⟨_, rfl⟩, rfl⟩
    · skip
      refine jx_of (fun _ _ kz => jw_tabIn 108 d_M_count_3 (by rw [e_3]; decide) (by rw [e_3]; decide) (by rw [e_3]; rfl) (by decide) kz) ?_
      refine jx_of (fun _ _ kz => jw_aload_n 0 d_M_count_108 rfl rfl kz) ?_
      refine jx_of (fun _ _ kz => jw_getIe (_) fl_M_211 d_M_count_109 rfl rfl rfl kz) ?_
      refine jx_iret d_M_count_112 rfl ?_
      exact ⟨⟨_, rfl⟩, rfl⟩
    · skip
      refine jx_of (fun _ _ kz => jw_tabIn 113 d_M_count_3 (by rw [e_3]; decide) (by rw [e_3]; decide) (by rw [e_3]; rfl) (by decide) kz) ?_
      refine jx_of (fun _ _ kz => jw_aload_n 0 d_M_count_113 rfl rfl kz) ?_
      refine jx_of (fun _ _ kz => jw_getPe (some (32, 0)) fl_M_16 d_M_count_114 rfl rfl (by simp [me_I_sI, me_I_sP, me_I_nx, me_P_sI, me_P_sP, me_P_nx, me_N_sI, me_N_sP, me_N_nx, me_L_sI, me_L_sP, me_L_nx, show me_P M 7 0 2 = some (32, 0) from hJ.1.1.1 (7, 0, 2, 32, 0) (by decide)]) kz) ?_
      refine jx_of (fun _ _ kz => jw_bipush 6 d_M_count_117 (by decide) kz) ?_
      refine jx_of (fun _ _ kz => jw_ialde (_) d_M_count_119 rfl rfl (by rw [show me_L _ 32 0 = 7 from (by simp [me_I_sI, me_I_sP, me_I_nx, me_P_sI, me_P_sP, me_P_nx, me_N_sI, me_N_sP, me_N_nx, me_L_sI, me_L_sP, me_L_nx, show me_L M 32 0 = 7 from hJ.1.1.2 (32, 0, 7) (by decide)])]; unfold vp_in; decide) rfl kz) ?_
      refine jx_iret d_M_count_120 rfl ?_
      exact ⟨⟨_, rfl⟩, rfl⟩
set_option maxRecDepth 20000 in
set_option maxHeartbeats 4000000 in
theorem z_M_clear {G : Gt} {M : Me} (d : Nat) (hm : mSh M) : sx G yt_M_clear yn_M_clear (d + 1) [.inr (some (7, 0))] M (fun r M' => r = some (.inl (me_I M 32 0 6)) ∧ me_sI M 32 0 6 0 = M') := by
  refine sx_of (k := 1) (lc := [some (.inr (some (7, 0))), none]) mt_M_clear (Nat.le_of_ble_eq_true rfl) rfl ?_
  refine jx_of (fun _ _ kz => jw_aload_n 0 d_M_clear_0 rfl rfl kz) ?_
  refine jx_of (fun _ _ kz => jw_getPe (some (32, 0)) fl_M_16 d_M_clear_1 rfl rfl (by simp [me_I_sI, me_I_sP, me_I_nx, me_P_sI, me_P_sP, me_P_nx, me_N_sI, me_N_sP, me_N_nx, me_L_sI, me_L_sP, me_L_nx, show me_P M 7 0 2 = some (32, 0) from hm.1 (7, 0, 2, 32, 0) (by decide)]) kz) ?_
  refine jx_of (fun _ _ kz => jw_bipush 6 d_M_clear_4 (by decide) kz) ?_
  refine jx_of (fun _ _ kz => jw_ialde (me_I M 32 0 6) d_M_clear_6 rfl rfl (by rw [show me_L _ 32 0 = 7 from (by simp [me_I_sI, me_I_sP, me_I_nx, me_P_sI, me_P_sP, me_P_nx, me_N_sI, me_N_sP, me_N_nx, me_L_sI, me_L_sP, me_L_nx, show me_L M 32 0 = 7 from hm.2 (32, 0, 7) (by decide)])]; unfold vp_in; decide) (by rw [show Int32.toNatClampNeg 6 = 6 from by decide]) kz) ?_
  refine jx_of (fun _ _ kz => jw_istore_n 1 d_M_clear_7 rfl (Nat.le_of_ble_eq_true rfl) kz) ?_
  dsimp only [List.set]
  refine jx_of (fun _ _ kz => jw_aload_n 0 d_M_clear_8 rfl rfl kz) ?_
  refine jx_of (fun _ _ kz => jw_getPe (some (32, 0)) fl_M_16 d_M_clear_9 rfl rfl (by simp [me_I_sI, me_I_sP, me_I_nx, me_P_sI, me_P_sP, me_P_nx, me_N_sI, me_N_sP, me_N_nx, me_L_sI, me_L_sP, me_L_nx, show me_P M 7 0 2 = some (32, 0) from hm.1 (7, 0, 2, 32, 0) (by decide)]) kz) ?_
  refine jx_of (fun _ _ kz => jw_bipush 6 d_M_clear_12 (by decide) kz) ?_
  refine jx_of (fun _ _ kz => jw_iconst 0 d_M_clear_14 (by decide) kz) ?_
  refine jx_of (fun _ _ kz => jw_iast d_M_clear_15 rfl rfl (by rw [show me_L _ 32 0 = 7 from (by simp [me_I_sI, me_I_sP, me_I_nx, me_P_sI, me_P_sP, me_P_nx, me_N_sI, me_N_sP, me_N_nx, me_L_sI, me_L_sP, me_L_nx, show me_L M 32 0 = 7 from hm.2 (32, 0, 7) (by decide)])]; unfold vp_in; decide) kz) ?_
  rw [show Int32.toNatClampNeg 6 = 6 from by decide]
  refine jx_of (fun _ _ kz => jw_iload_n 1 d_M_clear_16 rfl rfl kz) ?_
  refine jx_iret d_M_clear_17 rfl ?_
  exact ⟨rfl, rfl⟩
set_option maxRecDepth 20000 in
set_option maxHeartbeats 4000000 in
theorem z_M_token_r {G : Gt} {M : Me} (d : Nat) (x : Int32) (y : Int32) (hm : mSh M) (ht : ¬ tkv x y = 1) : sx G yt_M_token yn_M_token (d + 3) [.inr (some (7, 0)), .inl x, .inl y] M (fun r M' => r = some (.inl (-1)) ∧ M = M') := by
  refine sx_of (k := 0) (lc := [some (.inr (some (7, 0))), some (.inl x), some (.inl y)]) mt_M_token (Nat.le_of_ble_eq_true rfl) rfl ?_
  refine jx_of (fun _ _ kz => jw_iload_n 1 d_M_token_0 rfl rfl kz) ?_
  refine jx_of (fun _ _ kz => jw_iload_n 2 d_M_token_1 rfl rfl kz) ?_
  refine jx_callS (x_M_fits d x y) mt_M_fits ml_M_97 sm_M_fits d_M_token_2 rfl rfl (Nat.le_of_ble_eq_true rfl) ?_
  rintro _ _ ⟨rfl, rfl⟩
  refine jx_eq (st2 := [.inl (if tkv x y = 1 then 1 else 0)]) rfl rfl rfl ?_
  rw [show (if tkv x y = 1 then 1 else 0 : Int32) = 0 from (if_neg ht)]
  refine jx_if_ne 10 d_M_token_5 (by decide) (fun h => absurd h (by decide)) (fun _ => ?_)
  refine jx_of (fun _ _ kz => jw_iconst (-1) d_M_token_8 (by decide) kz) ?_
  refine jx_iret d_M_token_9 rfl ?_
  exact ⟨rfl, rfl⟩
set_option maxRecDepth 20000 in
set_option maxHeartbeats 4000000 in
theorem z_M_token_u {G : Gt} {M : Me} (d : Nat) (x : Int32) (y : Int32) (hm : mSh M) (ht : tkv x y = 1) (hl6 : me_I M 32 0 6 = nI 12) : sx G yt_M_token yn_M_token (d + 3) [.inr (some (7, 0)), .inl x, .inl y] M (fun r M' => r = some (.inl (-2)) ∧ M = M') := by
  refine sx_of (k := 0) (lc := [some (.inr (some (7, 0))), some (.inl x), some (.inl y)]) mt_M_token (Nat.le_of_ble_eq_true rfl) rfl ?_
  refine jx_of (fun _ _ kz => jw_iload_n 1 d_M_token_0 rfl rfl kz) ?_
  refine jx_of (fun _ _ kz => jw_iload_n 2 d_M_token_1 rfl rfl kz) ?_
  refine jx_callS (x_M_fits d x y) mt_M_fits ml_M_97 sm_M_fits d_M_token_2 rfl rfl (Nat.le_of_ble_eq_true rfl) ?_
  rintro _ _ ⟨rfl, rfl⟩
  refine jx_eq (st2 := [.inl (if tkv x y = 1 then 1 else 0)]) rfl rfl rfl ?_
  rw [show (if tkv x y = 1 then 1 else 0 : Int32) = 1 from (if_pos ht)]
  refine jx_if_ne 10 d_M_token_5 (by decide) (fun _ => ?_) (fun h => absurd h (by decide))
  refine jx_of (fun _ _ kz => jw_aload_n 0 d_M_token_10 rfl rfl kz) ?_
  refine jx_of (fun _ _ kz => jw_getPe (some (32, 0)) fl_M_16 d_M_token_11 rfl rfl (by simp [me_I_sI, me_I_sP, me_I_nx, me_P_sI, me_P_sP, me_P_nx, me_N_sI, me_N_sP, me_N_nx, me_L_sI, me_L_sP, me_L_nx, show me_P M 7 0 2 = some (32, 0) from hm.1 (7, 0, 2, 32, 0) (by decide)]) kz) ?_
  refine jx_of (fun _ _ kz => jw_bipush 6 d_M_token_14 (by decide) kz) ?_
  refine jx_of (fun _ _ kz => jw_ialde (nI 12) d_M_token_16 rfl rfl (by rw [show me_L _ 32 0 = 7 from (by simp [me_I_sI, me_I_sP, me_I_nx, me_P_sI, me_P_sP, me_P_nx, me_N_sI, me_N_sP, me_N_nx, me_L_sI, me_L_sP, me_L_nx, show me_L M 32 0 = 7 from hm.2 (32, 0, 7) (by decide)])]; unfold vp_in; decide) (by first | rw [show Int32.toNatClampNeg 6 = 6 from by decide]; first | exact hl6 | (rw [mx_ne (by omega)]; exact hl6) | (rw [mx_ne (by omega), mx_ne (by omega)]; exact hl6)) kz) ?_
  refine jx_of (fun _ _ kz => jw_bipush 12 d_M_token_17 (by decide) kz) ?_
  refine jx_icmp_ne 25 d_M_token_19 (by decide) (fun h => absurd rfl h) (fun _ => ?_)
  refine jx_of (fun _ _ kz => jw_bipush (-2) d_M_token_22 (by decide) kz) ?_
  refine jx_iret d_M_token_24 rfl ?_
  exact ⟨rfl, rfl⟩
set_option maxRecDepth 20000 in
set_option maxHeartbeats 4000000 in
theorem z_M_token_a {G : Gt} {M : Me} (d : Nat) (x : Int32) (y : Int32) (n : Nat) (hm : mSh M) (ht : tkv x y = 1) (hl6 : me_I M 32 0 6 = nI n) (hn : n < 12) : sx G yt_M_token yn_M_token (d + 3) [.inr (some (7, 0)), .inl x, .inl y] M (fun r M' => r = some (.inl (nI (n + 1))) ∧ me_sI (me_sI (me_sI M 30 0 (72 + n) x) 31 0 (72 + n) y) 32 0 6 (nI (n + 1)) = M') := by
  refine sx_of (k := 0) (lc := [some (.inr (some (7, 0))), some (.inl x), some (.inl y)]) mt_M_token (Nat.le_of_ble_eq_true rfl) rfl ?_
  refine jx_of (fun _ _ kz => jw_iload_n 1 d_M_token_0 rfl rfl kz) ?_
  refine jx_of (fun _ _ kz => jw_iload_n 2 d_M_token_1 rfl rfl kz) ?_
  refine jx_callS (x_M_fits d x y) mt_M_fits ml_M_97 sm_M_fits d_M_token_2 rfl rfl (Nat.le_of_ble_eq_true rfl) ?_
  rintro _ _ ⟨rfl, rfl⟩
  refine jx_eq (st2 := [.inl (if tkv x y = 1 then 1 else 0)]) rfl rfl rfl ?_
  rw [show (if tkv x y = 1 then 1 else 0 : Int32) = 1 from (if_pos ht)]
  refine jx_if_ne 10 d_M_token_5 (by decide) (fun _ => ?_) (fun h => absurd h (by decide))
  refine jx_of (fun _ _ kz => jw_aload_n 0 d_M_token_10 rfl rfl kz) ?_
  refine jx_of (fun _ _ kz => jw_getPe (some (32, 0)) fl_M_16 d_M_token_11 rfl rfl (by simp [me_I_sI, me_I_sP, me_I_nx, me_P_sI, me_P_sP, me_P_nx, me_N_sI, me_N_sP, me_N_nx, me_L_sI, me_L_sP, me_L_nx, show me_P M 7 0 2 = some (32, 0) from hm.1 (7, 0, 2, 32, 0) (by decide)]) kz) ?_
  refine jx_of (fun _ _ kz => jw_bipush 6 d_M_token_14 (by decide) kz) ?_
  refine jx_of (fun _ _ kz => jw_ialde (nI n) d_M_token_16 rfl rfl (by rw [show me_L _ 32 0 = 7 from (by simp [me_I_sI, me_I_sP, me_I_nx, me_P_sI, me_P_sP, me_P_nx, me_N_sI, me_N_sP, me_N_nx, me_L_sI, me_L_sP, me_L_nx, show me_L M 32 0 = 7 from hm.2 (32, 0, 7) (by decide)])]; unfold vp_in; decide) (by first | rw [show Int32.toNatClampNeg 6 = 6 from by decide]; first | exact hl6 | (rw [mx_ne (by omega)]; exact hl6) | (rw [mx_ne (by omega), mx_ne (by omega)]; exact hl6)) kz) ?_
  refine jx_of (fun _ _ kz => jw_bipush 12 d_M_token_17 (by decide) kz) ?_
  refine jx_icmp_ne 25 d_M_token_19 (by decide) (fun _ => ?_) (fun h => absurd h (fun q => absurd ((nI_eq (b := 12) (by omega) (by decide)).mp q) (by omega)))
  refine jx_of (fun _ _ kz => jw_aload_n 0 d_M_token_25 rfl rfl kz) ?_
  refine jx_of (fun _ _ kz => jw_getPe (some (30, 0)) fl_M_7 d_M_token_26 rfl rfl (by simp [me_I_sI, me_I_sP, me_I_nx, me_P_sI, me_P_sP, me_P_nx, me_N_sI, me_N_sP, me_N_nx, me_L_sI, me_L_sP, me_L_nx, show me_P M 7 0 0 = some (30, 0) from hm.1 (7, 0, 0, 30, 0) (by decide)]) kz) ?_
  refine jx_of (fun _ _ kz => jw_bipush 72 d_M_token_29 (by decide) kz) ?_
  refine jx_of (fun _ _ kz => jw_aload_n 0 d_M_token_31 rfl rfl kz) ?_
  refine jx_of (fun _ _ kz => jw_getPe (some (32, 0)) fl_M_16 d_M_token_32 rfl rfl (by simp [me_I_sI, me_I_sP, me_I_nx, me_P_sI, me_P_sP, me_P_nx, me_N_sI, me_N_sP, me_N_nx, me_L_sI, me_L_sP, me_L_nx, show me_P M 7 0 2 = some (32, 0) from hm.1 (7, 0, 2, 32, 0) (by decide)]) kz) ?_
  refine jx_of (fun _ _ kz => jw_bipush 6 d_M_token_35 (by decide) kz) ?_
  refine jx_of (fun _ _ kz => jw_ialde (nI n) d_M_token_37 rfl rfl (by rw [show me_L _ 32 0 = 7 from (by simp [me_I_sI, me_I_sP, me_I_nx, me_P_sI, me_P_sP, me_P_nx, me_N_sI, me_N_sP, me_N_nx, me_L_sI, me_L_sP, me_L_nx, show me_L M 32 0 = 7 from hm.2 (32, 0, 7) (by decide)])]; unfold vp_in; decide) (by first | rw [show Int32.toNatClampNeg 6 = 6 from by decide]; first | exact hl6 | (rw [mx_ne (by omega)]; exact hl6) | (rw [mx_ne (by omega), mx_ne (by omega)]; exact hl6)) kz) ?_
  refine jx_of (fun _ _ kz => jw_iadd d_M_token_38 kz) ?_
  rw [show (72 + (nI n) : Int32) = nI (72 + n) from nI_add 72 n]
  refine jx_of (fun _ _ kz => jw_iload_n 1 d_M_token_39 rfl rfl kz) ?_
  refine jx_of (fun _ _ kz => jw_iast d_M_token_40 rfl rfl (by rw [show me_L _ 30 0 = 84 from (by simp [me_I_sI, me_I_sP, me_I_nx, me_P_sI, me_P_sP, me_P_nx, me_N_sI, me_N_sP, me_N_nx, me_L_sI, me_L_sP, me_L_nx, show me_L M 30 0 = 84 from hm.2 (30, 0, 84) (by decide)])]; exact (vp_in_nI (by omega) (by decide))) kz) ?_
  rw [nI_clamp (by omega)]
  refine jx_of (fun _ _ kz => jw_aload_n 0 d_M_token_41 rfl rfl kz) ?_
  refine jx_of (fun _ _ kz => jw_getPe (some (31, 0)) fl_M_13 d_M_token_42 rfl rfl (by simp [me_I_sI, me_I_sP, me_I_nx, me_P_sI, me_P_sP, me_P_nx, me_N_sI, me_N_sP, me_N_nx, me_L_sI, me_L_sP, me_L_nx, show me_P M 7 0 1 = some (31, 0) from hm.1 (7, 0, 1, 31, 0) (by decide)]) kz) ?_
  refine jx_of (fun _ _ kz => jw_bipush 72 d_M_token_45 (by decide) kz) ?_
  refine jx_of (fun _ _ kz => jw_aload_n 0 d_M_token_47 rfl rfl kz) ?_
  refine jx_of (fun _ _ kz => jw_getPe (some (32, 0)) fl_M_16 d_M_token_48 rfl rfl (by simp [me_I_sI, me_I_sP, me_I_nx, me_P_sI, me_P_sP, me_P_nx, me_N_sI, me_N_sP, me_N_nx, me_L_sI, me_L_sP, me_L_nx, show me_P M 7 0 2 = some (32, 0) from hm.1 (7, 0, 2, 32, 0) (by decide)]) kz) ?_
  refine jx_of (fun _ _ kz => jw_bipush 6 d_M_token_51 (by decide) kz) ?_
  refine jx_of (fun _ _ kz => jw_ialde (nI n) d_M_token_53 rfl rfl (by rw [show me_L _ 32 0 = 7 from (by simp [me_I_sI, me_I_sP, me_I_nx, me_P_sI, me_P_sP, me_P_nx, me_N_sI, me_N_sP, me_N_nx, me_L_sI, me_L_sP, me_L_nx, show me_L M 32 0 = 7 from hm.2 (32, 0, 7) (by decide)])]; unfold vp_in; decide) (by first | rw [show Int32.toNatClampNeg 6 = 6 from by decide]; first | exact hl6 | (rw [mx_ne (by omega)]; exact hl6) | (rw [mx_ne (by omega), mx_ne (by omega)]; exact hl6)) kz) ?_
  refine jx_of (fun _ _ kz => jw_iadd d_M_token_54 kz) ?_
  rw [show (72 + (nI n) : Int32) = nI (72 + n) from nI_add 72 n]
  refine jx_of (fun _ _ kz => jw_iload_n 2 d_M_token_55 rfl rfl kz) ?_
  refine jx_of (fun _ _ kz => jw_iast d_M_token_56 rfl rfl (by rw [show me_L _ 31 0 = 84 from (by simp [me_I_sI, me_I_sP, me_I_nx, me_P_sI, me_P_sP, me_P_nx, me_N_sI, me_N_sP, me_N_nx, me_L_sI, me_L_sP, me_L_nx, show me_L M 31 0 = 84 from hm.2 (31, 0, 84) (by decide)])]; exact (vp_in_nI (by omega) (by decide))) kz) ?_
  rw [nI_clamp (by omega)]
  refine jx_of (fun _ _ kz => jw_aload_n 0 d_M_token_57 rfl rfl kz) ?_
  refine jx_of (fun _ _ kz => jw_getPe (some (32, 0)) fl_M_16 d_M_token_58 rfl rfl (by simp [me_I_sI, me_I_sP, me_I_nx, me_P_sI, me_P_sP, me_P_nx, me_N_sI, me_N_sP, me_N_nx, me_L_sI, me_L_sP, me_L_nx, show me_P M 7 0 2 = some (32, 0) from hm.1 (7, 0, 2, 32, 0) (by decide)]) kz) ?_
  refine jx_of (fun _ _ kz => jw_bipush 6 d_M_token_61 (by decide) kz) ?_
  refine jx_of (fun _ _ kz => jw_dup2 d_M_token_63 kz) ?_
  refine jx_of (fun _ _ kz => jw_ialde (nI n) d_M_token_64 rfl rfl (by rw [show me_L _ 32 0 = 7 from (by simp [me_I_sI, me_I_sP, me_I_nx, me_P_sI, me_P_sP, me_P_nx, me_N_sI, me_N_sP, me_N_nx, me_L_sI, me_L_sP, me_L_nx, show me_L M 32 0 = 7 from hm.2 (32, 0, 7) (by decide)])]; unfold vp_in; decide) (by first | rw [show Int32.toNatClampNeg 6 = 6 from by decide]; first | exact hl6 | (rw [mx_ne (by omega)]; exact hl6) | (rw [mx_ne (by omega), mx_ne (by omega)]; exact hl6)) kz) ?_
  refine jx_of (fun _ _ kz => jw_iconst 1 d_M_token_65 (by decide) kz) ?_
  refine jx_of (fun _ _ kz => jw_iadd d_M_token_66 kz) ?_
  rw [show ((nI n) + 1 : Int32) = nI (n + 1) from nI_1 _]
  refine jx_of (fun _ _ kz => jw_dup_x2 d_M_token_67 kz) ?_
  refine jx_of (fun _ _ kz => jw_iast d_M_token_68 rfl rfl (by rw [show me_L _ 32 0 = 7 from (by simp [me_I_sI, me_I_sP, me_I_nx, me_P_sI, me_P_sP, me_P_nx, me_N_sI, me_N_sP, me_N_nx, me_L_sI, me_L_sP, me_L_nx, show me_L M 32 0 = 7 from hm.2 (32, 0, 7) (by decide)])]; unfold vp_in; decide) kz) ?_
  rw [show Int32.toNatClampNeg 6 = 6 from by decide]
  refine jx_iret d_M_token_69 rfl ?_
  exact ⟨rfl, rfl⟩
