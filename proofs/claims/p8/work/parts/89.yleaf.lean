theorem and1 (a : Int32) : ∃ g, g < 2 ∧ a &&& 1 = nI g := by
  refine ⟨a.toBitVec.toNat % 2, Nat.mod_lt _ (by decide), ?_⟩
  apply Int32.toBitVec_inj.mp
  apply BitVec.eq_of_toNat_eq
  have h : (a &&& 1).toBitVec.toNat = a.toBitVec.toNat % 2 := by
    show (a.toBitVec &&& 1#32).toNat = _
    rw [BitVec.toNat_and]
    exact Nat.and_one_is_mod _
  rw [h]
  show _ = (BitVec.ofNat 32 (a.toBitVec.toNat % 2)).toNat
  rw [BitVec.toNat_ofNat]
  omega
theorem yg20 {M : Me} {np nt g : Nat} (h : yI M np nt) (hg : g < 2) : me_P M 20 0 g = some (5, g) := by
  rcases (show g = 0 ∨ g = 1 by omega) with rfl | rfl
  · exact h.1.1 (20, 0, 0, 5, 0) (by decide)
  · exact h.1.1 (20, 0, 1, 5, 1) (by decide)
theorem yg21 {M : Me} {np nt g : Nat} (h : yI M np nt) (hg : g < 2) : me_P M 21 0 g = some (6, g) := by
  rcases (show g = 0 ∨ g = 1 by omega) with rfl | rfl
  · exact h.1.1 (21, 0, 0, 6, 0) (by decide)
  · exact h.1.1 (21, 0, 1, 6, 1) (by decide)
set_option maxRecDepth 20000 in
set_option maxHeartbeats 4000000 in
theorem y_Y_spendUnit {G : Gt} {M : Me} (d : Nat) (t : Nat) (np : Nat) (nt : Nat) (hY : yI M np nt) (ht : t < nt) : sx G yt_Y_spendUnit yn_Y_spendUnit (d + 3) [.inr (some (0, 0)), .inr (some (2, t))] M (fun r M' => (r = some (.inl 0) ∨ r = some (.inl 1)) ∧ yI M' np nt ∧ yk M M') := by
  refine sx_of (k := 0) (lc := [some (.inr (some (0, 0))), some (.inr (some (2, t)))]) mt_Y_spendUnit (Nat.le_of_ble_eq_true rfl) rfl ?_
  refine jx_of (fun _ _ kz => jw_aload_n 1 d_Y_spendUnit_0 rfl rfl kz) ?_
  refine jx_of (fun _ _ kz => jw_getIe (me_I M 2 t 6) fl_Y_153 d_Y_spendUnit_1 rfl rfl rfl kz) ?_
  refine jx_if_gt 14 d_Y_spendUnit_4 (by decide) (fun b_4 => ?_) (fun b_4 => ?_)
  · skip
    refine jx_of (fun _ _ kz => jw_aload_n 1 d_Y_spendUnit_14 rfl rfl kz) ?_
    refine jx_of (fun _ _ kz => jw_dup d_Y_spendUnit_15 kz) ?_
    refine jx_of (fun _ _ kz => jw_getIe (me_I M 2 t 6) fl_Y_153 d_Y_spendUnit_16 rfl rfl rfl kz) ?_
    refine jx_of (fun _ _ kz => jw_iconst 1 d_Y_spendUnit_19 (by decide) kz) ?_
    refine jx_of (fun _ _ kz => jw_isub d_Y_spendUnit_20 kz) ?_
    refine jx_of (fun _ _ kz => jw_putI fl_Y_153 (Or.inl rfl) rfl rfl d_Y_spendUnit_21 rfl rfl kz) ?_
    refine jx_of (fun _ _ kz => jw_iconst 1 d_Y_spendUnit_24 (by decide) kz) ?_
    refine jx_zret d_Y_spendUnit_25 rfl (by decide) ?_
    exact ⟨Or.inr rfl, yI_tc hY (tc_sI tc_rf (by omega)), yk_tc (tc_sI tc_rf (by omega))⟩
  · skip
    refine jx_of (fun _ _ kz => jw_aload_n 0 d_Y_spendUnit_7 rfl rfl kz) ?_
    refine jx_of (fun _ _ kz => jw_aload_n 1 d_Y_spendUnit_8 rfl rfl kz) ?_
    refine jx_callV (y_Y_wakeTask d t np nt hY  ht) mt_Y_wakeTask cf_Y rfl rfl ml_Y_220 im_Y_wakeTask se_Y_wakeTask d_Y_spendUnit_9 rfl rfl (Nat.le_of_ble_eq_true rfl) ?_
    rintro _ M1 ⟨rfl, h1, k1⟩
    refine jx_eq (st2 := []) rfl rfl rfl ?_
    refine jx_of (fun _ _ kz => jw_iconst 0 d_Y_spendUnit_12 (by decide) kz) ?_
    refine jx_zret d_Y_spendUnit_13 rfl (by decide) ?_
    exact ⟨Or.inl rfl, h1, k1⟩
set_option maxRecDepth 20000 in
set_option maxHeartbeats 4000000 in
theorem y_Y_pollTurn {G : Gt} {M : Me} (d : Nat) (t : Nat) (p : Nat) (n : Nat) (o : Nat → Nat) (k : Nat) (a : Int32) (np : Nat) (nt : Nat) (hY : yI M np nt) (ht : t < nt) (hT : tO M t p n o) (hk : k < 12) : sx G yt_Y_pollTurn yn_Y_pollTurn (d + 3) [.inr (some (0, 0)), .inr (some (2, t)), .inl (nI k), .inl a] M (fun r M' => r = none ∧ yI M' np nt ∧ yk M M') := by
  refine sx_of (k := 1) (lc := [some (.inr (some (0, 0))), some (.inr (some (2, t))), some (.inl (nI k)), some (.inl a), none]) mt_Y_pollTurn (Nat.le_of_ble_eq_true rfl) rfl ?_
  refine jx_of (fun _ _ kz => jw_aload_n 1 d_Y_pollTurn_0 rfl rfl kz) ?_
  refine jx_of (fun _ _ kz => jw_getPe (some (16, t)) fl_Y_204 d_Y_pollTurn_1 rfl rfl (by simp [me_I_sI, me_I_sP, me_I_nx, me_P_sI, me_P_sP, me_P_nx, me_N_sI, me_N_sP, me_N_nx, me_L_sI, me_L_sP, me_L_nx, show me_P M 2 t 10 = some (16, t) from hT.1.2.2.2.1]) kz) ?_
  refine jx_of (fun _ _ kz => jw_iload_n 2 d_Y_pollTurn_4 rfl rfl kz) ?_
  refine jx_of (fun _ _ kz => jw_ialde (me_I M 16 t k) d_Y_pollTurn_5 rfl rfl (by rw [show me_L _ 16 t = 12 from (by simp [me_I_sI, me_I_sP, me_I_nx, me_P_sI, me_P_sP, me_P_nx, me_N_sI, me_N_sP, me_N_nx, me_L_sI, me_L_sP, me_L_nx, show me_L M 16 t = 12 from hT.1.2.2.2.2.2.2])]; exact (vp_in_nI (by omega) (by omega))) (by rw [nI_clamp (by omega)]) kz) ?_
  refine jx_of (fun _ _ kz => jw_iconst 0 d_Y_pollTurn_6 (by decide) kz) ?_
  refine jx_of (fun _ _ kz => jw_mmax ml_Y_316 sm_Math_max ii_Math co_Math_max d_Y_pollTurn_7 (Nat.le_of_ble_eq_true rfl) kz) ?_
  refine jx_of (fun _ _ kz => jw_istore d_Y_pollTurn_10 (Nat.le_of_ble_eq_true rfl) kz) ?_
  dsimp only [List.set]
  refine jx_of (fun _ _ kz => jw_iload d_Y_pollTurn_12 rfl kz) ?_
  refine jx_of (fun _ _ kz => jw_iload_n 3 d_Y_pollTurn_14 rfl rfl kz) ?_
  refine jx_icmp_lt 25 d_Y_pollTurn_15 (by decide) (fun b_15 => ?_) (fun b_15 => ?_)
  · skip
    refine jx_of (fun _ _ kz => jw_aload_n 1 d_Y_pollTurn_25 rfl rfl kz) ?_
    refine jx_of (fun _ _ kz => jw_getPe (some (16, t)) fl_Y_204 d_Y_pollTurn_26 rfl rfl (by simp [me_I_sI, me_I_sP, me_I_nx, me_P_sI, me_P_sP, me_P_nx, me_N_sI, me_N_sP, me_N_nx, me_L_sI, me_L_sP, me_L_nx, show me_P M 2 t 10 = some (16, t) from hT.1.2.2.2.1]) kz) ?_
    refine jx_of (fun _ _ kz => jw_iload_n 2 d_Y_pollTurn_29 rfl rfl kz) ?_
    refine jx_of (fun _ _ kz => jw_iload d_Y_pollTurn_30 rfl kz) ?_
    refine jx_of (fun _ _ kz => jw_iconst 1 d_Y_pollTurn_32 (by decide) kz) ?_
    refine jx_of (fun _ _ kz => jw_iadd d_Y_pollTurn_33 kz) ?_
    refine jx_of (fun _ _ kz => jw_iast d_Y_pollTurn_34 rfl rfl (by rw [show me_L _ 16 t = 12 from (by simp [me_I_sI, me_I_sP, me_I_nx, me_P_sI, me_P_sP, me_P_nx, me_N_sI, me_N_sP, me_N_nx, me_L_sI, me_L_sP, me_L_nx, show me_L M 16 t = 12 from hT.1.2.2.2.2.2.2])]; exact (vp_in_nI (by omega) (by omega))) kz) ?_
    rw [nI_clamp (by omega)]
    refine jx_of (fun _ _ kz => jw_aload_n 0 d_Y_pollTurn_35 rfl rfl kz) ?_
    refine jx_of (fun _ _ kz => jw_aload_n 1 d_Y_pollTurn_36 rfl rfl kz) ?_
    refine jx_callV (y_Y_wakeTask d t np nt (yI_tc hY (tc_sI tc_rf (by omega)))  ht) mt_Y_wakeTask cf_Y rfl rfl ml_Y_220 im_Y_wakeTask se_Y_wakeTask d_Y_pollTurn_37 rfl rfl (Nat.le_of_ble_eq_true rfl) ?_
    rintro _ M1 ⟨rfl, h1, k1⟩
    refine jx_eq (st2 := []) rfl rfl rfl ?_
    refine jx_vret d_Y_pollTurn_40 rfl ?_
    exact ⟨rfl, h1, yk_tr (yk_tc (tc_sI tc_rf (by omega))) k1⟩
  · skip
    refine jx_of (fun _ _ kz => jw_aload_n 1 d_Y_pollTurn_18 rfl rfl kz) ?_
    refine jx_of (fun _ _ kz => jw_iload_n 2 d_Y_pollTurn_19 rfl rfl kz) ?_
    refine jx_of (fun _ _ kz => jw_iconst 0 d_Y_pollTurn_20 (by decide) kz) ?_
    refine jx_callV (y_T_makeReady (d + 1) t p n o k 0 hT  hk) mt_T_makeReady cf_T rfl rfl ml_Y_272 im_T_makeReady se_T_makeReady d_Y_pollTurn_21 rfl rfl (Nat.le_of_ble_eq_true rfl) ?_
    rintro _ _c1 ⟨rfl, c1⟩
    refine jx_eq (st2 := []) rfl rfl rfl ?_
    refine jx_vret d_Y_pollTurn_24 rfl ?_
    exact ⟨rfl, yI_tc hY c1, yk_tc c1⟩
set_option maxRecDepth 20000 in
set_option maxHeartbeats 4000000 in
theorem y_Y_pollSleep {G : Gt} {M : Me} (d : Nat) (t : Nat) (p : Nat) (n : Nat) (o : Nat → Nat) (k : Nat) (a : Int32) (np : Nat) (nt : Nat) (hY : yI M np nt) (ht : t < nt) (hT : tO M t p n o) (hk : k < 12) : sx G yt_Y_pollSleep yn_Y_pollSleep (d + 3) [.inr (some (0, 0)), .inr (some (2, t)), .inl (nI k), .inl a] M (fun r M' => r = none ∧ yI M' np nt ∧ yk M M') := by
  refine sx_of (k := 0) (lc := [some (.inr (some (0, 0))), some (.inr (some (2, t))), some (.inl (nI k)), some (.inl a)]) mt_Y_pollSleep (Nat.le_of_ble_eq_true rfl) rfl ?_
  refine jx_of (fun _ _ kz => jw_aload_n 1 d_Y_pollSleep_0 rfl rfl kz) ?_
  refine jx_of (fun _ _ kz => jw_getPe (some (16, t)) fl_Y_204 d_Y_pollSleep_1 rfl rfl (by simp [me_I_sI, me_I_sP, me_I_nx, me_P_sI, me_P_sP, me_P_nx, me_N_sI, me_N_sP, me_N_nx, me_L_sI, me_L_sP, me_L_nx, show me_P M 2 t 10 = some (16, t) from hT.1.2.2.2.1]) kz) ?_
  refine jx_of (fun _ _ kz => jw_iload_n 2 d_Y_pollSleep_4 rfl rfl kz) ?_
  refine jx_of (fun _ _ kz => jw_ialde (me_I M 16 t k) d_Y_pollSleep_5 rfl rfl (by rw [show me_L _ 16 t = 12 from (by simp [me_I_sI, me_I_sP, me_I_nx, me_P_sI, me_P_sP, me_P_nx, me_N_sI, me_N_sP, me_N_nx, me_L_sI, me_L_sP, me_L_nx, show me_L M 16 t = 12 from hT.1.2.2.2.2.2.2])]; exact (vp_in_nI (by omega) (by omega))) (by rw [nI_clamp (by omega)]) kz) ?_
  refine jx_of (fun _ _ kz => jw_iconst (-1) d_Y_pollSleep_6 (by decide) kz) ?_
  refine jx_icmp_ne 20 d_Y_pollSleep_7 (by decide) (fun b_7 => ?_) (fun b_7 => ?_)
  · skip
    refine jx_of (fun _ _ kz => jw_aload_n 0 d_Y_pollSleep_20 rfl rfl kz) ?_
    refine jx_of (fun _ _ kz => jw_getIe (me_I M 0 0 10) fl_Y_66 d_Y_pollSleep_21 rfl rfl (by simp [me_I_sI, me_I_sP, me_I_nx, me_P_sI, me_P_sP, me_P_nx, me_N_sI, me_N_sP, me_N_nx, me_L_sI, me_L_sP, me_L_nx]) kz) ?_
    refine jx_of (fun _ _ kz => jw_aload_n 1 d_Y_pollSleep_24 rfl rfl kz) ?_
    refine jx_of (fun _ _ kz => jw_getPe (some (16, t)) fl_Y_204 d_Y_pollSleep_25 rfl rfl (by simp [me_I_sI, me_I_sP, me_I_nx, me_P_sI, me_P_sP, me_P_nx, me_N_sI, me_N_sP, me_N_nx, me_L_sI, me_L_sP, me_L_nx, show me_P M 2 t 10 = some (16, t) from hT.1.2.2.2.1]) kz) ?_
    refine jx_of (fun _ _ kz => jw_iload_n 2 d_Y_pollSleep_28 rfl rfl kz) ?_
    refine jx_of (fun _ _ kz => jw_ialde (_) d_Y_pollSleep_29 rfl rfl (by rw [show me_L _ 16 t = 12 from (by simp [me_I_sI, me_I_sP, me_I_nx, me_P_sI, me_P_sP, me_P_nx, me_N_sI, me_N_sP, me_N_nx, me_L_sI, me_L_sP, me_L_nx, show me_L M 16 t = 12 from hT.1.2.2.2.2.2.2])]; exact (vp_in_nI (by omega) (by omega))) rfl kz) ?_
    refine jx_of (fun _ _ kz => jw_isub d_Y_pollSleep_30 kz) ?_
    refine jx_of (fun _ _ kz => jw_iload_n 3 d_Y_pollSleep_31 rfl rfl kz) ?_
    refine jx_icmp_lt 41 d_Y_pollSleep_32 (by decide) (fun b_32 => ?_) (fun b_32 => ?_)
    · skip
      refine jx_vret d_Y_pollSleep_41 rfl ?_
      first | exact ⟨rfl, yI_tc hY c1, yk_tc c1⟩ | exact ⟨rfl, yI_tc (yI_tc hY (tc_sI tc_rf (by omega))) c1, yk_tr (yk_tc (tc_sI tc_rf (by omega))) (yk_tc c1)⟩ | exact ⟨rfl, hY, yk_rf⟩ | exact ⟨rfl, yI_tc hY (tc_sI tc_rf (by omega)), yk_tc (tc_sI tc_rf (by omega))⟩
    · skip
      refine jx_of (fun _ _ kz => jw_aload_n 1 d_Y_pollSleep_35 rfl rfl kz) ?_
      refine jx_of (fun _ _ kz => jw_iload_n 2 d_Y_pollSleep_36 rfl rfl kz) ?_
      refine jx_of (fun _ _ kz => jw_iconst 0 d_Y_pollSleep_37 (by decide) kz) ?_
      refine jx_callV (y_T_makeReady (d + 1) t p n o k 0 (by first | exact hT | exact tO_tc hT (tc_sI tc_rf (by omega)))  hk) mt_T_makeReady cf_T rfl rfl ml_Y_272 im_T_makeReady se_T_makeReady d_Y_pollSleep_38 rfl rfl (Nat.le_of_ble_eq_true rfl) ?_
      rintro _ _c1 ⟨rfl, c1⟩
      refine jx_eq (st2 := []) rfl rfl rfl ?_
      refine jx_vret d_Y_pollSleep_41 rfl ?_
      first | exact ⟨rfl, yI_tc hY c1, yk_tc c1⟩ | exact ⟨rfl, yI_tc (yI_tc hY (tc_sI tc_rf (by omega))) c1, yk_tr (yk_tc (tc_sI tc_rf (by omega))) (yk_tc c1)⟩ | exact ⟨rfl, hY, yk_rf⟩ | exact ⟨rfl, yI_tc hY (tc_sI tc_rf (by omega)), yk_tc (tc_sI tc_rf (by omega))⟩
  · skip
    refine jx_of (fun _ _ kz => jw_aload_n 1 d_Y_pollSleep_10 rfl rfl kz) ?_
    refine jx_of (fun _ _ kz => jw_getPe (some (16, t)) fl_Y_204 d_Y_pollSleep_11 rfl rfl (by simp [me_I_sI, me_I_sP, me_I_nx, me_P_sI, me_P_sP, me_P_nx, me_N_sI, me_N_sP, me_N_nx, me_L_sI, me_L_sP, me_L_nx, show me_P M 2 t 10 = some (16, t) from hT.1.2.2.2.1]) kz) ?_
    refine jx_of (fun _ _ kz => jw_iload_n 2 d_Y_pollSleep_14 rfl rfl kz) ?_
    refine jx_of (fun _ _ kz => jw_aload_n 0 d_Y_pollSleep_15 rfl rfl kz) ?_
    refine jx_of (fun _ _ kz => jw_getIe (me_I M 0 0 10) fl_Y_66 d_Y_pollSleep_16 rfl rfl (by simp [me_I_sI, me_I_sP, me_I_nx, me_P_sI, me_P_sP, me_P_nx, me_N_sI, me_N_sP, me_N_nx, me_L_sI, me_L_sP, me_L_nx]) kz) ?_
    refine jx_of (fun _ _ kz => jw_iast d_Y_pollSleep_19 rfl rfl (by rw [show me_L _ 16 t = 12 from (by simp [me_I_sI, me_I_sP, me_I_nx, me_P_sI, me_P_sP, me_P_nx, me_N_sI, me_N_sP, me_N_nx, me_L_sI, me_L_sP, me_L_nx, show me_L M 16 t = 12 from hT.1.2.2.2.2.2.2])]; exact (vp_in_nI (by omega) (by omega))) kz) ?_
    rw [nI_clamp (by omega)]
    refine jx_of (fun _ _ kz => jw_aload_n 0 d_Y_pollSleep_20 rfl rfl kz) ?_
    refine jx_of (fun _ _ kz => jw_getIe (me_I M 0 0 10) fl_Y_66 d_Y_pollSleep_21 rfl rfl (by simp [me_I_sI, me_I_sP, me_I_nx, me_P_sI, me_P_sP, me_P_nx, me_N_sI, me_N_sP, me_N_nx, me_L_sI, me_L_sP, me_L_nx]) kz) ?_
    refine jx_of (fun _ _ kz => jw_aload_n 1 d_Y_pollSleep_24 rfl rfl kz) ?_
    refine jx_of (fun _ _ kz => jw_getPe (some (16, t)) fl_Y_204 d_Y_pollSleep_25 rfl rfl (by simp [me_I_sI, me_I_sP, me_I_nx, me_P_sI, me_P_sP, me_P_nx, me_N_sI, me_N_sP, me_N_nx, me_L_sI, me_L_sP, me_L_nx, show me_P M 2 t 10 = some (16, t) from hT.1.2.2.2.1]) kz) ?_
    refine jx_of (fun _ _ kz => jw_iload_n 2 d_Y_pollSleep_28 rfl rfl kz) ?_
    refine jx_of (fun _ _ kz => jw_ialde (_) d_Y_pollSleep_29 rfl rfl (by rw [show me_L _ 16 t = 12 from (by simp [me_I_sI, me_I_sP, me_I_nx, me_P_sI, me_P_sP, me_P_nx, me_N_sI, me_N_sP, me_N_nx, me_L_sI, me_L_sP, me_L_nx, show me_L M 16 t = 12 from hT.1.2.2.2.2.2.2])]; exact (vp_in_nI (by omega) (by omega))) rfl kz) ?_
    refine jx_of (fun _ _ kz => jw_isub d_Y_pollSleep_30 kz) ?_
    refine jx_of (fun _ _ kz => jw_iload_n 3 d_Y_pollSleep_31 rfl rfl kz) ?_
    refine jx_icmp_lt 41 d_Y_pollSleep_32 (by decide) (fun b_32 => ?_) (fun b_32 => ?_)
    · skip
      refine jx_vret d_Y_pollSleep_41 rfl ?_
      first | exact ⟨rfl, yI_tc hY c1, yk_tc c1⟩ | exact ⟨rfl, yI_tc (yI_tc hY (tc_sI tc_rf (by omega))) c1, yk_tr (yk_tc (tc_sI tc_rf (by omega))) (yk_tc c1)⟩ | exact ⟨rfl, hY, yk_rf⟩ | exact ⟨rfl, yI_tc hY (tc_sI tc_rf (by omega)), yk_tc (tc_sI tc_rf (by omega))⟩
    · skip
      refine jx_of (fun _ _ kz => jw_aload_n 1 d_Y_pollSleep_35 rfl rfl kz) ?_
      refine jx_of (fun _ _ kz => jw_iload_n 2 d_Y_pollSleep_36 rfl rfl kz) ?_
      refine jx_of (fun _ _ kz => jw_iconst 0 d_Y_pollSleep_37 (by decide) kz) ?_
      refine jx_callV (y_T_makeReady (d + 1) t p n o k 0 (by first | exact hT | exact tO_tc hT (tc_sI tc_rf (by omega)))  hk) mt_T_makeReady cf_T rfl rfl ml_Y_272 im_T_makeReady se_T_makeReady d_Y_pollSleep_38 rfl rfl (Nat.le_of_ble_eq_true rfl) ?_
      rintro _ _c1 ⟨rfl, c1⟩
      refine jx_eq (st2 := []) rfl rfl rfl ?_
      refine jx_vret d_Y_pollSleep_41 rfl ?_
      first | exact ⟨rfl, yI_tc hY c1, yk_tc c1⟩ | exact ⟨rfl, yI_tc (yI_tc hY (tc_sI tc_rf (by omega))) c1, yk_tr (yk_tc (tc_sI tc_rf (by omega))) (yk_tc c1)⟩ | exact ⟨rfl, hY, yk_rf⟩ | exact ⟨rfl, yI_tc hY (tc_sI tc_rf (by omega)), yk_tc (tc_sI tc_rf (by omega))⟩
set_option maxRecDepth 20000 in
set_option maxHeartbeats 4000000 in
theorem y_Y_pollTake {G : Gt} {M : Me} (d : Nat) (t : Nat) (p : Nat) (n : Nat) (o : Nat → Nat) (k : Nat) (a : Int32) (np : Nat) (nt : Nat) (hY : yI M np nt) (ht : t < nt) (hT : tO M t p n o) (hk : k < 12) : sx G yt_Y_pollTake yn_Y_pollTake (d + 4) [.inr (some (0, 0)), .inr (some (2, t)), .inl (nI k), .inl a] M (fun r M' => r = none ∧ yI M' np nt ∧ yk M M') := by
  refine sx_of (k := 4) (lc := [some (.inr (some (0, 0))), some (.inr (some (2, t))), some (.inl (nI k)), some (.inl a), none, none, none, none]) mt_Y_pollTake (Nat.le_of_ble_eq_true rfl) rfl ?_
  obtain ⟨g, hg, hga⟩ := and1 a
  refine jx_of (fun _ _ kz => jw_aload_n 0 d_Y_pollTake_0 rfl rfl kz) ?_
  refine jx_of (fun _ _ kz => jw_getPe (some (20, 0)) fl_Y_55 d_Y_pollTake_1 rfl rfl (by simp [me_I_sI, me_I_sP, me_I_nx, me_P_sI, me_P_sP, me_P_nx, me_N_sI, me_N_sP, me_N_nx, me_L_sI, me_L_sP, me_L_nx, show me_P M 0 0 8 = some (20, 0) from hY.1.1 (0, 0, 8, 20, 0) (by decide)]) kz) ?_
  refine jx_of (fun _ _ kz => jw_iload_n 3 d_Y_pollTake_4 rfl rfl kz) ?_
  refine jx_of (fun _ _ kz => jw_iconst 1 d_Y_pollTake_5 (by decide) kz) ?_
  refine jx_of (fun _ _ kz => jw_iand d_Y_pollTake_6 kz) ?_
  rw [show (a &&& 1 : Int32) = nI g from hga]
  refine jx_of (fun _ _ kz => jw_aalde (some (5, g)) d_Y_pollTake_7 rfl rfl (by rw [show me_L _ 20 0 = 2 from (by simp [me_I_sI, me_I_sP, me_I_nx, me_P_sI, me_P_sP, me_P_nx, me_N_sI, me_N_sP, me_N_nx, me_L_sI, me_L_sP, me_L_nx, show me_L M 20 0 = 2 from hY.1.2.1 (20, 0, 2) (by decide)])]; exact (vp_in_nI (by omega) (by omega))) (by rw [nI_clamp (by omega)]; exact yg20 hY hg) kz) ?_
  refine jx_of (fun _ _ kz => jw_astore d_Y_pollTake_8 (Nat.le_of_ble_eq_true rfl) kz) ?_
  dsimp only [List.set]
  refine jx_of (fun _ _ kz => jw_iload_n 3 d_Y_pollTake_10 rfl rfl kz) ?_
  refine jx_callS (y_Y_permitsOf (d + 2) a) mt_Y_permitsOf ml_Y_286 sm_Y_permitsOf d_Y_pollTake_11 rfl rfl (Nat.le_of_ble_eq_true rfl) ?_
  rintro _ _ ⟨rfl, rfl⟩
  refine jx_eq (st2 := [.inl (1 + (a / 2))]) rfl rfl rfl ?_
  refine jx_of (fun _ _ kz => jw_istore d_Y_pollTake_14 (Nat.le_of_ble_eq_true rfl) kz) ?_
  dsimp only [List.set]
  refine jx_of (fun _ _ kz => jw_aload_n 1 d_Y_pollTake_16 rfl rfl kz) ?_
  refine jx_of (fun _ _ kz => jw_getPe (some (16, t)) fl_Y_204 d_Y_pollTake_17 rfl rfl (by simp [me_I_sI, me_I_sP, me_I_nx, me_P_sI, me_P_sP, me_P_nx, me_N_sI, me_N_sP, me_N_nx, me_L_sI, me_L_sP, me_L_nx, show me_P M 2 t 10 = some (16, t) from hT.1.2.2.2.1]) kz) ?_
  refine jx_of (fun _ _ kz => jw_iload_n 2 d_Y_pollTake_20 rfl rfl kz) ?_
  refine jx_of (fun _ _ kz => jw_ialde (me_I M 16 t k) d_Y_pollTake_21 rfl rfl (by rw [show me_L _ 16 t = 12 from (by simp [me_I_sI, me_I_sP, me_I_nx, me_P_sI, me_P_sP, me_P_nx, me_N_sI, me_N_sP, me_N_nx, me_L_sI, me_L_sP, me_L_nx, show me_L M 16 t = 12 from hT.1.2.2.2.2.2.2])]; exact (vp_in_nI (by omega) (by omega))) (by rw [nI_clamp (by omega)]) kz) ?_
  refine jx_of (fun _ _ kz => jw_iconst (-1) d_Y_pollTake_22 (by decide) kz) ?_
  refine jx_icmp_ne 30 d_Y_pollTake_23 (by decide) (fun b_23 => ?_) (fun b_23 => ?_)
  · skip
    refine jx_of (fun _ _ kz => jw_iconst 0 d_Y_pollTake_30 (by decide) kz) ?_
    refine jx_of (fun _ _ kz => jw_istore d_Y_pollTake_31 (Nat.le_of_ble_eq_true rfl) kz) ?_
    dsimp only [List.set]
    refine jx_of (fun _ _ kz => jw_iload d_Y_pollTake_33 rfl kz) ?_
    refine jx_if_eq 67 d_Y_pollTake_35 (by decide) (fun _ => ?_) (fun h => absurd h (by decide))
    refine jx_of (fun _ _ kz => jw_aload_n 1 d_Y_pollTake_67 rfl rfl kz) ?_
    refine jx_of (fun _ _ kz => jw_getPe (some (16, t)) fl_Y_204 d_Y_pollTake_68 rfl rfl (by simp [me_I_sI, me_I_sP, me_I_nx, me_P_sI, me_P_sP, me_P_nx, me_N_sI, me_N_sP, me_N_nx, me_L_sI, me_L_sP, me_L_nx, show me_P M 2 t 10 = some (16, t) from hT.1.2.2.2.1]) kz) ?_
    refine jx_of (fun _ _ kz => jw_iload_n 2 d_Y_pollTake_71 rfl rfl kz) ?_
    refine jx_of (fun _ _ kz => jw_ialde (me_I M 16 t k) d_Y_pollTake_72 rfl rfl (by rw [show me_L _ 16 t = 12 from (by simp [me_I_sI, me_I_sP, me_I_nx, me_P_sI, me_P_sP, me_P_nx, me_N_sI, me_N_sP, me_N_nx, me_L_sI, me_L_sP, me_L_nx, show me_L M 16 t = 12 from hT.1.2.2.2.2.2.2])]; exact (vp_in_nI (by omega) (by omega))) (by rw [nI_clamp (by omega)]) kz) ?_
    refine jx_of (fun _ _ kz => jw_iload d_Y_pollTake_73 rfl kz) ?_
    refine jx_icmp_lt 82 d_Y_pollTake_75 (by decide) (fun b_75 => ?_) (fun b_75 => ?_)
    · skip
      refine jx_of (fun _ _ kz => jw_iconst 0 d_Y_pollTake_82 (by decide) kz) ?_
      refine jx_of (fun _ _ kz => jw_istore d_Y_pollTake_83 (Nat.le_of_ble_eq_true rfl) kz) ?_
      dsimp only [List.set]
      refine jx_of (fun _ _ kz => jw_iload d_Y_pollTake_85 rfl kz) ?_
      refine jx_if_eq 129 d_Y_pollTake_87 (by decide) (fun _ => ?_) (fun h => absurd h (by decide))
      refine jx_of (fun _ _ kz => jw_iload d_Y_pollTake_129 rfl kz) ?_
      refine jx_if_eq 164 d_Y_pollTake_131 (by decide) (fun _ => ?_) (fun h => absurd h (by decide))
      refine jx_vret d_Y_pollTake_164 rfl ?_
      first | exact ⟨rfl, yI_tc (yI_k h1 (by omega)) c2, yk_tr (yk_sI k1 (by omega)) (yk_tc c2)⟩ | exact ⟨rfl, yI_rc (yI_k (yI_tc hY (tc_sI tc_rf (by omega))) (by omega)) c1 r1, yk_tr (yk_sI (yk_tc (tc_sI tc_rf (by omega))) (by omega)) (yk_rc c1)⟩ | exact ⟨rfl, h1, k1⟩ | exact ⟨rfl, hY, yk_rf⟩
    · skip
      refine jx_of (fun _ _ kz => jw_iconst 1 d_Y_pollTake_78 (by decide) kz) ?_
      refine jx_of (fun _ _ kz => jw_goto 83 d_Y_pollTake_79 (by decide) kz) ?_
      refine jx_of (fun _ _ kz => jw_istore d_Y_pollTake_83 (Nat.le_of_ble_eq_true rfl) kz) ?_
      dsimp only [List.set]
      refine jx_of (fun _ _ kz => jw_iload d_Y_pollTake_85 rfl kz) ?_
      refine jx_if_eq 129 d_Y_pollTake_87 (by decide) (fun h => absurd h (by decide)) (fun _ => ?_)
      refine jx_of (fun _ _ kz => jw_aload_n 0 d_Y_pollTake_90 rfl rfl kz) ?_
      refine jx_of (fun _ _ kz => jw_aload_n 1 d_Y_pollTake_91 rfl rfl kz) ?_
      refine jx_callV (y_Y_spendUnit d t np nt hY  ht) mt_Y_spendUnit cf_Y rfl rfl ml_Y_322 im_Y_spendUnit se_Y_spendUnit d_Y_pollTake_92 rfl rfl (Nat.le_of_ble_eq_true rfl) ?_
      rintro r M1 ⟨hr, h1, k1⟩
      obtain ⟨rv2, rfl⟩ : ∃ v : Int32, r = some (.inl v) := by rcases hr with hr | hr; exact ⟨_, hr⟩; exact ⟨_, hr⟩
      have hT1 := tO_yk hT k1
      refine jx_eq (st2 := [.inl rv2]) rfl rfl rfl ?_
      refine jx_if_eq 164 d_Y_pollTake_95 (by decide) (fun b_95 => ?_) (fun b_95 => ?_)
      · skip
        refine jx_vret d_Y_pollTake_164 rfl ?_
        first | exact ⟨rfl, yI_tc (yI_k h1 (by omega)) c2, yk_tr (yk_sI k1 (by omega)) (yk_tc c2)⟩ | exact ⟨rfl, yI_rc (yI_k (yI_tc hY (tc_sI tc_rf (by omega))) (by omega)) c1 r1, yk_tr (yk_sI (yk_tc (tc_sI tc_rf (by omega))) (by omega)) (yk_rc c1)⟩ | exact ⟨rfl, h1, k1⟩ | exact ⟨rfl, hY, yk_rf⟩
      · skip
        refine jx_of (fun _ _ kz => jw_aload d_Y_pollTake_98 rfl kz) ?_
        refine jx_of (fun _ _ kz => jw_dup d_Y_pollTake_100 kz) ?_
        refine jx_of (fun _ _ kz => jw_getIe (me_I M1 5 g 1) fl_Y_137 d_Y_pollTake_101 rfl rfl rfl kz) ?_
        refine jx_of (fun _ _ kz => jw_iload d_Y_pollTake_104 rfl kz) ?_
        refine jx_if_eq 114 d_Y_pollTake_106 (by decide) (fun _ => ?_) (fun h => absurd h (by decide))
        refine jx_of (fun _ _ kz => jw_iconst 0 d_Y_pollTake_114 (by decide) kz) ?_
        refine jx_of (fun _ _ kz => jw_isub d_Y_pollTake_115 kz) ?_
        refine jx_of (fun _ _ kz => jw_putI fl_Y_137 (Or.inl rfl) rfl rfl d_Y_pollTake_116 rfl rfl kz) ?_
        refine jx_of (fun _ _ kz => jw_aload_n 1 d_Y_pollTake_119 rfl rfl kz) ?_
        refine jx_of (fun _ _ kz => jw_iload_n 2 d_Y_pollTake_120 rfl rfl kz) ?_
        refine jx_of (fun _ _ kz => jw_iload d_Y_pollTake_121 rfl kz) ?_
        refine jx_callV (y_T_makeReady (d + 2) t p n o k ((1 + (a / 2))) (tO_yk hT1 (yk_sI yk_rf (by omega)))  hk) mt_T_makeReady cf_T rfl rfl ml_Y_272 im_T_makeReady se_T_makeReady d_Y_pollTake_123 rfl rfl (Nat.le_of_ble_eq_true rfl) ?_
        rintro _ _c2 ⟨rfl, c2⟩
        refine jx_eq (st2 := []) rfl rfl rfl ?_
        refine jx_of (fun _ _ kz => jw_goto 164 d_Y_pollTake_126 (by decide) kz) ?_
        refine jx_vret d_Y_pollTake_164 rfl ?_
        first | exact ⟨rfl, yI_tc (yI_k h1 (by omega)) c2, yk_tr (yk_sI k1 (by omega)) (yk_tc c2)⟩ | exact ⟨rfl, yI_rc (yI_k (yI_tc hY (tc_sI tc_rf (by omega))) (by omega)) c1 r1, yk_tr (yk_sI (yk_tc (tc_sI tc_rf (by omega))) (by omega)) (yk_rc c1)⟩ | exact ⟨rfl, h1, k1⟩ | exact ⟨rfl, hY, yk_rf⟩
  · skip
    refine jx_of (fun _ _ kz => jw_iconst 1 d_Y_pollTake_26 (by decide) kz) ?_
    refine jx_of (fun _ _ kz => jw_goto 31 d_Y_pollTake_27 (by decide) kz) ?_
    refine jx_of (fun _ _ kz => jw_istore d_Y_pollTake_31 (Nat.le_of_ble_eq_true rfl) kz) ?_
    dsimp only [List.set]
    refine jx_of (fun _ _ kz => jw_iload d_Y_pollTake_33 rfl kz) ?_
    refine jx_if_eq 67 d_Y_pollTake_35 (by decide) (fun h => absurd h (by decide)) (fun _ => ?_)
    refine jx_of (fun _ _ kz => jw_aload d_Y_pollTake_38 rfl kz) ?_
    refine jx_of (fun _ _ kz => jw_getPe (some (4, (5 + g))) fl_Y_175 d_Y_pollTake_40 rfl rfl (by simp [me_I_sI, me_I_sP, me_I_nx, me_P_sI, me_P_sP, me_P_nx, me_N_sI, me_N_sP, me_N_nx, me_L_sI, me_L_sP, me_L_nx, show me_P M 5 g 0 = some (4, 5 + g) from yg5 hY hg]) kz) ?_
    refine jx_callV (y_R_isEmpty (d + 2) (((5 + g))) (hY.1.2.2 (5 + g) (by omega))) mt_R_isEmpty cf_R rfl rfl ml_Y_198 im_R_isEmpty se_R_isEmpty d_Y_pollTake_43 rfl rfl (Nat.le_of_ble_eq_true rfl) ?_
    rintro r _ ⟨hr, rfl⟩
    obtain ⟨rv1, rfl⟩ : ∃ v : Int32, r = some (.inl v) := by rcases hr with hr | hr; exact ⟨_, hr⟩; exact ⟨_, hr⟩
    refine jx_eq (st2 := [.inl rv1]) rfl rfl rfl ?_
    refine jx_if_eq 63 d_Y_pollTake_46 (by decide) (fun b_46 => ?_) (fun b_46 => ?_)
    · skip
      refine jx_of (fun _ _ kz => jw_iconst 0 d_Y_pollTake_63 (by decide) kz) ?_
      refine jx_of (fun _ _ kz => jw_goto 83 d_Y_pollTake_64 (by decide) kz) ?_
      refine jx_of (fun _ _ kz => jw_istore d_Y_pollTake_83 (Nat.le_of_ble_eq_true rfl) kz) ?_
      dsimp only [List.set]
      refine jx_of (fun _ _ kz => jw_iload d_Y_pollTake_85 rfl kz) ?_
      refine jx_if_eq 129 d_Y_pollTake_87 (by decide) (fun _ => ?_) (fun h => absurd h (by decide))
      refine jx_of (fun _ _ kz => jw_iload d_Y_pollTake_129 rfl kz) ?_
      refine jx_if_eq 164 d_Y_pollTake_131 (by decide) (fun h => absurd h (by decide)) (fun _ => ?_)
      refine jx_of (fun _ _ kz => jw_aload_n 1 d_Y_pollTake_134 rfl rfl kz) ?_
      refine jx_of (fun _ _ kz => jw_getPe (some (16, t)) fl_Y_204 d_Y_pollTake_135 rfl rfl (by simp [me_I_sI, me_I_sP, me_I_nx, me_P_sI, me_P_sP, me_P_nx, me_N_sI, me_N_sP, me_N_nx, me_L_sI, me_L_sP, me_L_nx, show me_P M 2 t 10 = some (16, t) from hT.1.2.2.2.1]) kz) ?_
      refine jx_of (fun _ _ kz => jw_iload_n 2 d_Y_pollTake_138 rfl rfl kz) ?_
      refine jx_of (fun _ _ kz => jw_aload d_Y_pollTake_139 rfl kz) ?_
      refine jx_of (fun _ _ kz => jw_getIe (me_I M 5 g 1) fl_Y_137 d_Y_pollTake_141 rfl rfl rfl kz) ?_
      refine jx_of (fun _ _ kz => jw_iast d_Y_pollTake_144 rfl rfl (by rw [show me_L _ 16 t = 12 from (by simp [me_I_sI, me_I_sP, me_I_nx, me_P_sI, me_P_sP, me_P_nx, me_N_sI, me_N_sP, me_N_nx, me_L_sI, me_L_sP, me_L_nx, show me_L M 16 t = 12 from hT.1.2.2.2.2.2.2])]; exact (vp_in_nI (by omega) (by omega))) kz) ?_
      rw [nI_clamp (by omega)]
      refine jx_of (fun _ _ kz => jw_aload d_Y_pollTake_145 rfl kz) ?_
      refine jx_of (fun _ _ kz => jw_iconst 0 d_Y_pollTake_147 (by decide) kz) ?_
      refine jx_of (fun _ _ kz => jw_putI fl_Y_137 (Or.inl rfl) rfl rfl d_Y_pollTake_148 rfl rfl kz) ?_
      refine jx_of (fun _ _ kz => jw_aload d_Y_pollTake_151 rfl kz) ?_
      refine jx_of (fun _ _ kz => jw_getPe (some (4, (5 + g))) fl_Y_175 d_Y_pollTake_153 rfl rfl (by simp [me_I_sI, me_I_sP, me_I_nx, me_P_sI, me_P_sP, me_P_nx, me_N_sI, me_N_sP, me_N_nx, me_L_sI, me_L_sP, me_L_nx, show me_P M 5 g 0 = some (4, 5 + g) from yg5 hY hg]) kz) ?_
      refine jx_of (fun _ _ kz => jw_aload_n 1 d_Y_pollTake_156 rfl rfl kz) ?_
      refine jx_of (fun _ _ kz => jw_iload_n 2 d_Y_pollTake_157 rfl rfl kz) ?_
      refine jx_callV (y_T_placeOf (d + 2) t p n o ((nI k)) (tO_yk (tO_tc hT (tc_sI tc_rf (by omega))) (yk_sI yk_rf (by omega)))) mt_T_placeOf cf_T rfl rfl ml_Y_326 im_T_placeOf se_T_placeOf d_Y_pollTake_158 rfl rfl (Nat.le_of_ble_eq_true rfl) ?_
      rintro _ _ ⟨⟨vp, rfl⟩, rfl⟩
      refine jx_eq (st2 := [.inl vp, .inr (some (4, (5 + g)))]) rfl rfl rfl ?_
      refine jx_callV (y_R_add (d + 2) (((5 + g))) vp ((yI_k (yI_tc hY (tc_sI tc_rf (by omega))) (by omega)).1.2.2 (5 + g) (by omega))) mt_R_add cf_R rfl rfl ml_Y_210 im_R_add se_R_add d_Y_pollTake_161 rfl rfl (Nat.le_of_ble_eq_true rfl) ?_
      rintro _ M1 ⟨rfl, r1, c1⟩
      refine jx_eq (st2 := []) rfl rfl rfl ?_
      refine jx_vret d_Y_pollTake_164 rfl ?_
      first | exact ⟨rfl, yI_tc (yI_k h1 (by omega)) c2, yk_tr (yk_sI k1 (by omega)) (yk_tc c2)⟩ | exact ⟨rfl, yI_rc (yI_k (yI_tc hY (tc_sI tc_rf (by omega))) (by omega)) c1 r1, yk_tr (yk_sI (yk_tc (tc_sI tc_rf (by omega))) (by omega)) (yk_rc c1)⟩ | exact ⟨rfl, h1, k1⟩ | exact ⟨rfl, hY, yk_rf⟩
    · skip
      refine jx_of (fun _ _ kz => jw_aload d_Y_pollTake_49 rfl kz) ?_
      refine jx_of (fun _ _ kz => jw_getIe (me_I M 5 g 1) fl_Y_137 d_Y_pollTake_51 rfl rfl rfl kz) ?_
      refine jx_of (fun _ _ kz => jw_iload d_Y_pollTake_54 rfl kz) ?_
      refine jx_icmp_lt 63 d_Y_pollTake_56 (by decide) (fun b_56 => ?_) (fun b_56 => ?_)
      · skip
        refine jx_of (fun _ _ kz => jw_iconst 0 d_Y_pollTake_63 (by decide) kz) ?_
        refine jx_of (fun _ _ kz => jw_goto 83 d_Y_pollTake_64 (by decide) kz) ?_
        refine jx_of (fun _ _ kz => jw_istore d_Y_pollTake_83 (Nat.le_of_ble_eq_true rfl) kz) ?_
        dsimp only [List.set]
        refine jx_of (fun _ _ kz => jw_iload d_Y_pollTake_85 rfl kz) ?_
        refine jx_if_eq 129 d_Y_pollTake_87 (by decide) (fun _ => ?_) (fun h => absurd h (by decide))
        refine jx_of (fun _ _ kz => jw_iload d_Y_pollTake_129 rfl kz) ?_
        refine jx_if_eq 164 d_Y_pollTake_131 (by decide) (fun h => absurd h (by decide)) (fun _ => ?_)
        refine jx_of (fun _ _ kz => jw_aload_n 1 d_Y_pollTake_134 rfl rfl kz) ?_
        refine jx_of (fun _ _ kz => jw_getPe (some (16, t)) fl_Y_204 d_Y_pollTake_135 rfl rfl (by simp [me_I_sI, me_I_sP, me_I_nx, me_P_sI, me_P_sP, me_P_nx, me_N_sI, me_N_sP, me_N_nx, me_L_sI, me_L_sP, me_L_nx, show me_P M 2 t 10 = some (16, t) from hT.1.2.2.2.1]) kz) ?_
        refine jx_of (fun _ _ kz => jw_iload_n 2 d_Y_pollTake_138 rfl rfl kz) ?_
        refine jx_of (fun _ _ kz => jw_aload d_Y_pollTake_139 rfl kz) ?_
        refine jx_of (fun _ _ kz => jw_getIe (me_I M 5 g 1) fl_Y_137 d_Y_pollTake_141 rfl rfl rfl kz) ?_
        refine jx_of (fun _ _ kz => jw_iast d_Y_pollTake_144 rfl rfl (by rw [show me_L _ 16 t = 12 from (by simp [me_I_sI, me_I_sP, me_I_nx, me_P_sI, me_P_sP, me_P_nx, me_N_sI, me_N_sP, me_N_nx, me_L_sI, me_L_sP, me_L_nx, show me_L M 16 t = 12 from hT.1.2.2.2.2.2.2])]; exact (vp_in_nI (by omega) (by omega))) kz) ?_
        rw [nI_clamp (by omega)]
        refine jx_of (fun _ _ kz => jw_aload d_Y_pollTake_145 rfl kz) ?_
        refine jx_of (fun _ _ kz => jw_iconst 0 d_Y_pollTake_147 (by decide) kz) ?_
        refine jx_of (fun _ _ kz => jw_putI fl_Y_137 (Or.inl rfl) rfl rfl d_Y_pollTake_148 rfl rfl kz) ?_
        refine jx_of (fun _ _ kz => jw_aload d_Y_pollTake_151 rfl kz) ?_
        refine jx_of (fun _ _ kz => jw_getPe (some (4, (5 + g))) fl_Y_175 d_Y_pollTake_153 rfl rfl (by simp [me_I_sI, me_I_sP, me_I_nx, me_P_sI, me_P_sP, me_P_nx, me_N_sI, me_N_sP, me_N_nx, me_L_sI, me_L_sP, me_L_nx, show me_P M 5 g 0 = some (4, 5 + g) from yg5 hY hg]) kz) ?_
        refine jx_of (fun _ _ kz => jw_aload_n 1 d_Y_pollTake_156 rfl rfl kz) ?_
        refine jx_of (fun _ _ kz => jw_iload_n 2 d_Y_pollTake_157 rfl rfl kz) ?_
        refine jx_callV (y_T_placeOf (d + 2) t p n o ((nI k)) (tO_yk (tO_tc hT (tc_sI tc_rf (by omega))) (yk_sI yk_rf (by omega)))) mt_T_placeOf cf_T rfl rfl ml_Y_326 im_T_placeOf se_T_placeOf d_Y_pollTake_158 rfl rfl (Nat.le_of_ble_eq_true rfl) ?_
        rintro _ _ ⟨⟨vp, rfl⟩, rfl⟩
        refine jx_eq (st2 := [.inl vp, .inr (some (4, (5 + g)))]) rfl rfl rfl ?_
        refine jx_callV (y_R_add (d + 2) (((5 + g))) vp ((yI_k (yI_tc hY (tc_sI tc_rf (by omega))) (by omega)).1.2.2 (5 + g) (by omega))) mt_R_add cf_R rfl rfl ml_Y_210 im_R_add se_R_add d_Y_pollTake_161 rfl rfl (Nat.le_of_ble_eq_true rfl) ?_
        rintro _ M1 ⟨rfl, r1, c1⟩
        refine jx_eq (st2 := []) rfl rfl rfl ?_
        refine jx_vret d_Y_pollTake_164 rfl ?_
        first | exact ⟨rfl, yI_tc (yI_k h1 (by omega)) c2, yk_tr (yk_sI k1 (by omega)) (yk_tc c2)⟩ | exact ⟨rfl, yI_rc (yI_k (yI_tc hY (tc_sI tc_rf (by omega))) (by omega)) c1 r1, yk_tr (yk_sI (yk_tc (tc_sI tc_rf (by omega))) (by omega)) (yk_rc c1)⟩ | exact ⟨rfl, h1, k1⟩ | exact ⟨rfl, hY, yk_rf⟩
      · skip
        refine jx_of (fun _ _ kz => jw_iconst 1 d_Y_pollTake_59 (by decide) kz) ?_
        refine jx_of (fun _ _ kz => jw_goto 83 d_Y_pollTake_60 (by decide) kz) ?_
        refine jx_of (fun _ _ kz => jw_istore d_Y_pollTake_83 (Nat.le_of_ble_eq_true rfl) kz) ?_
        dsimp only [List.set]
        refine jx_of (fun _ _ kz => jw_iload d_Y_pollTake_85 rfl kz) ?_
        refine jx_if_eq 129 d_Y_pollTake_87 (by decide) (fun h => absurd h (by decide)) (fun _ => ?_)
        refine jx_of (fun _ _ kz => jw_aload_n 0 d_Y_pollTake_90 rfl rfl kz) ?_
        refine jx_of (fun _ _ kz => jw_aload_n 1 d_Y_pollTake_91 rfl rfl kz) ?_
        refine jx_callV (y_Y_spendUnit d t np nt hY  ht) mt_Y_spendUnit cf_Y rfl rfl ml_Y_322 im_Y_spendUnit se_Y_spendUnit d_Y_pollTake_92 rfl rfl (Nat.le_of_ble_eq_true rfl) ?_
        rintro r M1 ⟨hr, h1, k1⟩
        obtain ⟨rv2, rfl⟩ : ∃ v : Int32, r = some (.inl v) := by rcases hr with hr | hr; exact ⟨_, hr⟩; exact ⟨_, hr⟩
        have hT1 := tO_yk hT k1
        refine jx_eq (st2 := [.inl rv2]) rfl rfl rfl ?_
        refine jx_if_eq 164 d_Y_pollTake_95 (by decide) (fun b_95 => ?_) (fun b_95 => ?_)
        · skip
          refine jx_vret d_Y_pollTake_164 rfl ?_
          first | exact ⟨rfl, yI_tc (yI_k h1 (by omega)) c2, yk_tr (yk_sI k1 (by omega)) (yk_tc c2)⟩ | exact ⟨rfl, yI_rc (yI_k (yI_tc hY (tc_sI tc_rf (by omega))) (by omega)) c1 r1, yk_tr (yk_sI (yk_tc (tc_sI tc_rf (by omega))) (by omega)) (yk_rc c1)⟩ | exact ⟨rfl, h1, k1⟩ | exact ⟨rfl, hY, yk_rf⟩
        · skip
          refine jx_of (fun _ _ kz => jw_aload d_Y_pollTake_98 rfl kz) ?_
          refine jx_of (fun _ _ kz => jw_dup d_Y_pollTake_100 kz) ?_
          refine jx_of (fun _ _ kz => jw_getIe (me_I M1 5 g 1) fl_Y_137 d_Y_pollTake_101 rfl rfl rfl kz) ?_
          refine jx_of (fun _ _ kz => jw_iload d_Y_pollTake_104 rfl kz) ?_
          refine jx_if_eq 114 d_Y_pollTake_106 (by decide) (fun h => absurd h (by decide)) (fun _ => ?_)
          refine jx_of (fun _ _ kz => jw_iload d_Y_pollTake_109 rfl kz) ?_
          refine jx_of (fun _ _ kz => jw_goto 115 d_Y_pollTake_111 (by decide) kz) ?_
          refine jx_of (fun _ _ kz => jw_isub d_Y_pollTake_115 kz) ?_
          refine jx_of (fun _ _ kz => jw_putI fl_Y_137 (Or.inl rfl) rfl rfl d_Y_pollTake_116 rfl rfl kz) ?_
          refine jx_of (fun _ _ kz => jw_aload_n 1 d_Y_pollTake_119 rfl rfl kz) ?_
          refine jx_of (fun _ _ kz => jw_iload_n 2 d_Y_pollTake_120 rfl rfl kz) ?_
          refine jx_of (fun _ _ kz => jw_iload d_Y_pollTake_121 rfl kz) ?_
          refine jx_callV (y_T_makeReady (d + 2) t p n o k ((1 + (a / 2))) (tO_yk hT1 (yk_sI yk_rf (by omega)))  hk) mt_T_makeReady cf_T rfl rfl ml_Y_272 im_T_makeReady se_T_makeReady d_Y_pollTake_123 rfl rfl (Nat.le_of_ble_eq_true rfl) ?_
          rintro _ _c2 ⟨rfl, c2⟩
          refine jx_eq (st2 := []) rfl rfl rfl ?_
          refine jx_of (fun _ _ kz => jw_goto 164 d_Y_pollTake_126 (by decide) kz) ?_
          refine jx_vret d_Y_pollTake_164 rfl ?_
          first | exact ⟨rfl, yI_tc (yI_k h1 (by omega)) c2, yk_tr (yk_sI k1 (by omega)) (yk_tc c2)⟩ | exact ⟨rfl, yI_rc (yI_k (yI_tc hY (tc_sI tc_rf (by omega))) (by omega)) c1 r1, yk_tr (yk_sI (yk_tc (tc_sI tc_rf (by omega))) (by omega)) (yk_rc c1)⟩ | exact ⟨rfl, h1, k1⟩ | exact ⟨rfl, hY, yk_rf⟩
set_option maxRecDepth 20000 in
set_option maxHeartbeats 4000000 in
theorem y_Y_pollWait {G : Gt} {M : Me} (d : Nat) (t : Nat) (p : Nat) (n : Nat) (o : Nat → Nat) (k : Nat) (a : Int32) (np : Nat) (nt : Nat) (hY : yI M np nt) (ht : t < nt) (hT : tO M t p n o) (hk : k < 12) : sx G yt_Y_pollWait yn_Y_pollWait (d + 4) [.inr (some (0, 0)), .inr (some (2, t)), .inl (nI k), .inl a] M (fun r M' => r = none ∧ yI M' np nt ∧ yk M M') := by
  refine sx_of (k := 3) (lc := [some (.inr (some (0, 0))), some (.inr (some (2, t))), some (.inl (nI k)), some (.inl a), none, none, none]) mt_Y_pollWait (Nat.le_of_ble_eq_true rfl) rfl ?_
  obtain ⟨g, hg, hga⟩ := and1 a
  refine jx_of (fun _ _ kz => jw_aload_n 0 d_Y_pollWait_0 rfl rfl kz) ?_
  refine jx_of (fun _ _ kz => jw_getPe (some (21, 0)) fl_Y_62 d_Y_pollWait_1 rfl rfl (by simp [me_I_sI, me_I_sP, me_I_nx, me_P_sI, me_P_sP, me_P_nx, me_N_sI, me_N_sP, me_N_nx, me_L_sI, me_L_sP, me_L_nx, show me_P M 0 0 9 = some (21, 0) from hY.1.1 (0, 0, 9, 21, 0) (by decide)]) kz) ?_
  refine jx_of (fun _ _ kz => jw_iload_n 3 d_Y_pollWait_4 rfl rfl kz) ?_
  refine jx_of (fun _ _ kz => jw_iconst 1 d_Y_pollWait_5 (by decide) kz) ?_
  refine jx_of (fun _ _ kz => jw_iand d_Y_pollWait_6 kz) ?_
  rw [show (a &&& 1 : Int32) = nI g from hga]
  refine jx_of (fun _ _ kz => jw_aalde (some (6, g)) d_Y_pollWait_7 rfl rfl (by rw [show me_L _ 21 0 = 2 from (by simp [me_I_sI, me_I_sP, me_I_nx, me_P_sI, me_P_sP, me_P_nx, me_N_sI, me_N_sP, me_N_nx, me_L_sI, me_L_sP, me_L_nx, show me_L M 21 0 = 2 from hY.1.2.1 (21, 0, 2) (by decide)])]; exact (vp_in_nI (by omega) (by omega))) (by rw [nI_clamp (by omega)]; exact yg21 hY hg) kz) ?_
  refine jx_of (fun _ _ kz => jw_astore d_Y_pollWait_8 (Nat.le_of_ble_eq_true rfl) kz) ?_
  dsimp only [List.set]
  refine jx_of (fun _ _ kz => jw_aload_n 1 d_Y_pollWait_10 rfl rfl kz) ?_
  refine jx_of (fun _ _ kz => jw_getPe (some (16, t)) fl_Y_204 d_Y_pollWait_11 rfl rfl (by simp [me_I_sI, me_I_sP, me_I_nx, me_P_sI, me_P_sP, me_P_nx, me_N_sI, me_N_sP, me_N_nx, me_L_sI, me_L_sP, me_L_nx, show me_P M 2 t 10 = some (16, t) from hT.1.2.2.2.1]) kz) ?_
  refine jx_of (fun _ _ kz => jw_iload_n 2 d_Y_pollWait_14 rfl rfl kz) ?_
  refine jx_of (fun _ _ kz => jw_ialde (me_I M 16 t k) d_Y_pollWait_15 rfl rfl (by rw [show me_L _ 16 t = 12 from (by simp [me_I_sI, me_I_sP, me_I_nx, me_P_sI, me_P_sP, me_P_nx, me_N_sI, me_N_sP, me_N_nx, me_L_sI, me_L_sP, me_L_nx, show me_L M 16 t = 12 from hT.1.2.2.2.2.2.2])]; exact (vp_in_nI (by omega) (by omega))) (by rw [nI_clamp (by omega)]) kz) ?_
  refine jx_of (fun _ _ kz => jw_iconst (-1) d_Y_pollWait_16 (by decide) kz) ?_
  refine jx_icmp_ne 24 d_Y_pollWait_17 (by decide) (fun b_17 => ?_) (fun b_17 => ?_)
  · skip
    refine jx_of (fun _ _ kz => jw_iconst 0 d_Y_pollWait_24 (by decide) kz) ?_
    refine jx_of (fun _ _ kz => jw_istore d_Y_pollWait_25 (Nat.le_of_ble_eq_true rfl) kz) ?_
    dsimp only [List.set]
    refine jx_of (fun _ _ kz => jw_iload d_Y_pollWait_27 rfl kz) ?_
    refine jx_if_eq 40 d_Y_pollWait_29 (by decide) (fun _ => ?_) (fun h => absurd h (by decide))
    refine jx_of (fun _ _ kz => jw_aload_n 1 d_Y_pollWait_40 rfl rfl kz) ?_
    refine jx_of (fun _ _ kz => jw_getPe (some (16, t)) fl_Y_204 d_Y_pollWait_41 rfl rfl (by simp [me_I_sI, me_I_sP, me_I_nx, me_P_sI, me_P_sP, me_P_nx, me_N_sI, me_N_sP, me_N_nx, me_L_sI, me_L_sP, me_L_nx, show me_P M 2 t 10 = some (16, t) from hT.1.2.2.2.1]) kz) ?_
    refine jx_of (fun _ _ kz => jw_iload_n 2 d_Y_pollWait_44 rfl rfl kz) ?_
    refine jx_of (fun _ _ kz => jw_ialde (me_I M 16 t k) d_Y_pollWait_45 rfl rfl (by rw [show me_L _ 16 t = 12 from (by simp [me_I_sI, me_I_sP, me_I_nx, me_P_sI, me_P_sP, me_P_nx, me_N_sI, me_N_sP, me_N_nx, me_L_sI, me_L_sP, me_L_nx, show me_L M 16 t = 12 from hT.1.2.2.2.2.2.2])]; exact (vp_in_nI (by omega) (by omega))) (by rw [nI_clamp (by omega)]) kz) ?_
    refine jx_of (fun _ _ kz => jw_iconst 1 d_Y_pollWait_46 (by decide) kz) ?_
    refine jx_icmp_ne 54 d_Y_pollWait_47 (by decide) (fun b_47 => ?_) (fun b_47 => ?_)
    · skip
      refine jx_of (fun _ _ kz => jw_iconst 0 d_Y_pollWait_54 (by decide) kz) ?_
      refine jx_of (fun _ _ kz => jw_istore d_Y_pollWait_55 (Nat.le_of_ble_eq_true rfl) kz) ?_
      dsimp only [List.set]
      refine jx_of (fun _ _ kz => jw_iload d_Y_pollWait_57 rfl kz) ?_
      refine jx_if_eq 102 d_Y_pollWait_59 (by decide) (fun _ => ?_) (fun h => absurd h (by decide))
      refine jx_of (fun _ _ kz => jw_iload d_Y_pollWait_102 rfl kz) ?_
      refine jx_if_eq 127 d_Y_pollWait_104 (by decide) (fun _ => ?_) (fun h => absurd h (by decide))
      refine jx_vret d_Y_pollWait_127 rfl ?_
      first | exact ⟨rfl, yI_tc (yI_k h1 (by omega)) c2, yk_tr (yk_sI k1 (by omega)) (yk_tc c2)⟩ | exact ⟨rfl, yI_rc (yI_tc hY (tc_sI tc_rf (by omega))) c1 r1, yk_tr (yk_tc (tc_sI tc_rf (by omega))) (yk_rc c1)⟩ | exact ⟨rfl, h1, k1⟩ | exact ⟨rfl, hY, yk_rf⟩
    · skip
      refine jx_of (fun _ _ kz => jw_iconst 1 d_Y_pollWait_50 (by decide) kz) ?_
      refine jx_of (fun _ _ kz => jw_goto 55 d_Y_pollWait_51 (by decide) kz) ?_
      refine jx_of (fun _ _ kz => jw_istore d_Y_pollWait_55 (Nat.le_of_ble_eq_true rfl) kz) ?_
      dsimp only [List.set]
      refine jx_of (fun _ _ kz => jw_iload d_Y_pollWait_57 rfl kz) ?_
      refine jx_if_eq 102 d_Y_pollWait_59 (by decide) (fun h => absurd h (by decide)) (fun _ => ?_)
      refine jx_of (fun _ _ kz => jw_aload_n 0 d_Y_pollWait_62 rfl rfl kz) ?_
      refine jx_of (fun _ _ kz => jw_aload_n 1 d_Y_pollWait_63 rfl rfl kz) ?_
      refine jx_callV (y_Y_spendUnit d t np nt hY  ht) mt_Y_spendUnit cf_Y rfl rfl ml_Y_322 im_Y_spendUnit se_Y_spendUnit d_Y_pollWait_64 rfl rfl (Nat.le_of_ble_eq_true rfl) ?_
      rintro r M1 ⟨hr, h1, k1⟩
      obtain ⟨rv2, rfl⟩ : ∃ v : Int32, r = some (.inl v) := by rcases hr with hr | hr; exact ⟨_, hr⟩; exact ⟨_, hr⟩
      have hT1 := tO_yk hT k1
      refine jx_eq (st2 := [.inl rv2]) rfl rfl rfl ?_
      refine jx_if_eq 127 d_Y_pollWait_67 (by decide) (fun b_67 => ?_) (fun b_67 => ?_)
      · skip
        refine jx_vret d_Y_pollWait_127 rfl ?_
        first | exact ⟨rfl, yI_tc (yI_k h1 (by omega)) c2, yk_tr (yk_sI k1 (by omega)) (yk_tc c2)⟩ | exact ⟨rfl, yI_rc (yI_tc hY (tc_sI tc_rf (by omega))) c1 r1, yk_tr (yk_tc (tc_sI tc_rf (by omega))) (yk_rc c1)⟩ | exact ⟨rfl, h1, k1⟩ | exact ⟨rfl, hY, yk_rf⟩
      · skip
        refine jx_of (fun _ _ kz => jw_aload d_Y_pollWait_70 rfl kz) ?_
        refine jx_of (fun _ _ kz => jw_aload d_Y_pollWait_72 rfl kz) ?_
        refine jx_of (fun _ _ kz => jw_getIe (me_I M1 6 g 1) fl_Y_182 d_Y_pollWait_74 rfl rfl rfl kz) ?_
        refine jx_if_eq 89 d_Y_pollWait_77 (by decide) (fun b_77 => ?_) (fun b_77 => ?_)
        · skip
          refine jx_of (fun _ _ kz => jw_iconst 0 d_Y_pollWait_89 (by decide) kz) ?_
          refine jx_of (fun _ _ kz => jw_putI fl_Y_182 (Or.inl rfl) rfl rfl d_Y_pollWait_90 rfl rfl kz) ?_
          refine jx_of (fun _ _ kz => jw_aload_n 1 d_Y_pollWait_93 rfl rfl kz) ?_
          refine jx_of (fun _ _ kz => jw_iload_n 2 d_Y_pollWait_94 rfl rfl kz) ?_
          refine jx_of (fun _ _ kz => jw_iconst 1 d_Y_pollWait_95 (by decide) kz) ?_
          refine jx_callV (y_T_makeReady (d + 2) t p n o k 1 (tO_yk hT1 (yk_sI yk_rf (by omega)))  hk) mt_T_makeReady cf_T rfl rfl ml_Y_272 im_T_makeReady se_T_makeReady d_Y_pollWait_96 rfl rfl (Nat.le_of_ble_eq_true rfl) ?_
          rintro _ _c2 ⟨rfl, c2⟩
          refine jx_eq (st2 := []) rfl rfl rfl ?_
          refine jx_of (fun _ _ kz => jw_goto 127 d_Y_pollWait_99 (by decide) kz) ?_
          refine jx_vret d_Y_pollWait_127 rfl ?_
          first | exact ⟨rfl, yI_tc (yI_k h1 (by omega)) c2, yk_tr (yk_sI k1 (by omega)) (yk_tc c2)⟩ | exact ⟨rfl, yI_rc (yI_tc hY (tc_sI tc_rf (by omega))) c1 r1, yk_tr (yk_tc (tc_sI tc_rf (by omega))) (yk_rc c1)⟩ | exact ⟨rfl, h1, k1⟩ | exact ⟨rfl, hY, yk_rf⟩
        · skip
          refine jx_of (fun _ _ kz => jw_iload d_Y_pollWait_80 rfl kz) ?_
          refine jx_if_ne 89 d_Y_pollWait_82 (by decide) (fun h => absurd h (by decide)) (fun _ => ?_)
          refine jx_of (fun _ _ kz => jw_iconst 1 d_Y_pollWait_85 (by decide) kz) ?_
          refine jx_of (fun _ _ kz => jw_goto 90 d_Y_pollWait_86 (by decide) kz) ?_
          refine jx_of (fun _ _ kz => jw_putI fl_Y_182 (Or.inl rfl) rfl rfl d_Y_pollWait_90 rfl rfl kz) ?_
          refine jx_of (fun _ _ kz => jw_aload_n 1 d_Y_pollWait_93 rfl rfl kz) ?_
          refine jx_of (fun _ _ kz => jw_iload_n 2 d_Y_pollWait_94 rfl rfl kz) ?_
          refine jx_of (fun _ _ kz => jw_iconst 1 d_Y_pollWait_95 (by decide) kz) ?_
          refine jx_callV (y_T_makeReady (d + 2) t p n o k 1 (tO_yk hT1 (yk_sI yk_rf (by omega)))  hk) mt_T_makeReady cf_T rfl rfl ml_Y_272 im_T_makeReady se_T_makeReady d_Y_pollWait_96 rfl rfl (Nat.le_of_ble_eq_true rfl) ?_
          rintro _ _c2 ⟨rfl, c2⟩
          refine jx_eq (st2 := []) rfl rfl rfl ?_
          refine jx_of (fun _ _ kz => jw_goto 127 d_Y_pollWait_99 (by decide) kz) ?_
          refine jx_vret d_Y_pollWait_127 rfl ?_
          first | exact ⟨rfl, yI_tc (yI_k h1 (by omega)) c2, yk_tr (yk_sI k1 (by omega)) (yk_tc c2)⟩ | exact ⟨rfl, yI_rc (yI_tc hY (tc_sI tc_rf (by omega))) c1 r1, yk_tr (yk_tc (tc_sI tc_rf (by omega))) (yk_rc c1)⟩ | exact ⟨rfl, h1, k1⟩ | exact ⟨rfl, hY, yk_rf⟩
  · skip
    refine jx_of (fun _ _ kz => jw_iconst 1 d_Y_pollWait_20 (by decide) kz) ?_
    refine jx_of (fun _ _ kz => jw_goto 25 d_Y_pollWait_21 (by decide) kz) ?_
    refine jx_of (fun _ _ kz => jw_istore d_Y_pollWait_25 (Nat.le_of_ble_eq_true rfl) kz) ?_
    dsimp only [List.set]
    refine jx_of (fun _ _ kz => jw_iload d_Y_pollWait_27 rfl kz) ?_
    refine jx_if_eq 40 d_Y_pollWait_29 (by decide) (fun h => absurd h (by decide)) (fun _ => ?_)
    refine jx_of (fun _ _ kz => jw_aload d_Y_pollWait_32 rfl kz) ?_
    refine jx_of (fun _ _ kz => jw_getIe (me_I M 6 g 1) fl_Y_182 d_Y_pollWait_34 rfl rfl rfl kz) ?_
    refine jx_of (fun _ _ kz => jw_goto 55 d_Y_pollWait_37 (by decide) kz) ?_
    refine jx_of (fun _ _ kz => jw_istore d_Y_pollWait_55 (Nat.le_of_ble_eq_true rfl) kz) ?_
    dsimp only [List.set]
    refine jx_of (fun _ _ kz => jw_iload d_Y_pollWait_57 rfl kz) ?_
    refine jx_if_eq 102 d_Y_pollWait_59 (by decide) (fun b_59 => ?_) (fun b_59 => ?_)
    · skip
      refine jx_of (fun _ _ kz => jw_iload d_Y_pollWait_102 rfl kz) ?_
      refine jx_if_eq 127 d_Y_pollWait_104 (by decide) (fun h => absurd h (by decide)) (fun _ => ?_)
      refine jx_of (fun _ _ kz => jw_aload_n 1 d_Y_pollWait_107 rfl rfl kz) ?_
      refine jx_of (fun _ _ kz => jw_getPe (some (16, t)) fl_Y_204 d_Y_pollWait_108 rfl rfl (by simp [me_I_sI, me_I_sP, me_I_nx, me_P_sI, me_P_sP, me_P_nx, me_N_sI, me_N_sP, me_N_nx, me_L_sI, me_L_sP, me_L_nx, show me_P M 2 t 10 = some (16, t) from hT.1.2.2.2.1]) kz) ?_
      refine jx_of (fun _ _ kz => jw_iload_n 2 d_Y_pollWait_111 rfl rfl kz) ?_
      refine jx_of (fun _ _ kz => jw_iconst 0 d_Y_pollWait_112 (by decide) kz) ?_
      refine jx_of (fun _ _ kz => jw_iast d_Y_pollWait_113 rfl rfl (by rw [show me_L _ 16 t = 12 from (by simp [me_I_sI, me_I_sP, me_I_nx, me_P_sI, me_P_sP, me_P_nx, me_N_sI, me_N_sP, me_N_nx, me_L_sI, me_L_sP, me_L_nx, show me_L M 16 t = 12 from hT.1.2.2.2.2.2.2])]; exact (vp_in_nI (by omega) (by omega))) kz) ?_
      rw [nI_clamp (by omega)]
      refine jx_of (fun _ _ kz => jw_aload d_Y_pollWait_114 rfl kz) ?_
      refine jx_of (fun _ _ kz => jw_getPe (some (4, (7 + g))) fl_Y_186 d_Y_pollWait_116 rfl rfl (by simp [me_I_sI, me_I_sP, me_I_nx, me_P_sI, me_P_sP, me_P_nx, me_N_sI, me_N_sP, me_N_nx, me_L_sI, me_L_sP, me_L_nx, show me_P M 6 g 0 = some (4, 7 + g) from yg6 hY hg]) kz) ?_
      refine jx_of (fun _ _ kz => jw_aload_n 1 d_Y_pollWait_119 rfl rfl kz) ?_
      refine jx_of (fun _ _ kz => jw_iload_n 2 d_Y_pollWait_120 rfl rfl kz) ?_
      refine jx_callV (y_T_placeOf (d + 2) t p n o ((nI k)) (tO_tc hT (tc_sI tc_rf (by omega)))) mt_T_placeOf cf_T rfl rfl ml_Y_326 im_T_placeOf se_T_placeOf d_Y_pollWait_121 rfl rfl (Nat.le_of_ble_eq_true rfl) ?_
      rintro _ _ ⟨⟨vp, rfl⟩, rfl⟩
      refine jx_eq (st2 := [.inl vp, .inr (some (4, (7 + g)))]) rfl rfl rfl ?_
      refine jx_callV (y_R_add (d + 2) (((7 + g))) vp ((yI_tc hY (tc_sI tc_rf (by omega))).1.2.2 (7 + g) (by omega))) mt_R_add cf_R rfl rfl ml_Y_210 im_R_add se_R_add d_Y_pollWait_124 rfl rfl (Nat.le_of_ble_eq_true rfl) ?_
      rintro _ M1 ⟨rfl, r1, c1⟩
      refine jx_eq (st2 := []) rfl rfl rfl ?_
      refine jx_vret d_Y_pollWait_127 rfl ?_
      first | exact ⟨rfl, yI_tc (yI_k h1 (by omega)) c2, yk_tr (yk_sI k1 (by omega)) (yk_tc c2)⟩ | exact ⟨rfl, yI_rc (yI_tc hY (tc_sI tc_rf (by omega))) c1 r1, yk_tr (yk_tc (tc_sI tc_rf (by omega))) (yk_rc c1)⟩ | exact ⟨rfl, h1, k1⟩ | exact ⟨rfl, hY, yk_rf⟩
    · skip
      refine jx_of (fun _ _ kz => jw_aload_n 0 d_Y_pollWait_62 rfl rfl kz) ?_
      refine jx_of (fun _ _ kz => jw_aload_n 1 d_Y_pollWait_63 rfl rfl kz) ?_
      refine jx_callV (y_Y_spendUnit d t np nt hY  ht) mt_Y_spendUnit cf_Y rfl rfl ml_Y_322 im_Y_spendUnit se_Y_spendUnit d_Y_pollWait_64 rfl rfl (Nat.le_of_ble_eq_true rfl) ?_
      rintro r M1 ⟨hr, h1, k1⟩
      obtain ⟨rv2, rfl⟩ : ∃ v : Int32, r = some (.inl v) := by rcases hr with hr | hr; exact ⟨_, hr⟩; exact ⟨_, hr⟩
      have hT1 := tO_yk hT k1
      refine jx_eq (st2 := [.inl rv2]) rfl rfl rfl ?_
      refine jx_if_eq 127 d_Y_pollWait_67 (by decide) (fun b_67 => ?_) (fun b_67 => ?_)
      · skip
        refine jx_vret d_Y_pollWait_127 rfl ?_
        first | exact ⟨rfl, yI_tc (yI_k h1 (by omega)) c2, yk_tr (yk_sI k1 (by omega)) (yk_tc c2)⟩ | exact ⟨rfl, yI_rc (yI_tc hY (tc_sI tc_rf (by omega))) c1 r1, yk_tr (yk_tc (tc_sI tc_rf (by omega))) (yk_rc c1)⟩ | exact ⟨rfl, h1, k1⟩ | exact ⟨rfl, hY, yk_rf⟩
      · skip
        refine jx_of (fun _ _ kz => jw_aload d_Y_pollWait_70 rfl kz) ?_
        refine jx_of (fun _ _ kz => jw_aload d_Y_pollWait_72 rfl kz) ?_
        refine jx_of (fun _ _ kz => jw_getIe (me_I M1 6 g 1) fl_Y_182 d_Y_pollWait_74 rfl rfl rfl kz) ?_
        refine jx_if_eq 89 d_Y_pollWait_77 (by decide) (fun b_77 => ?_) (fun b_77 => ?_)
        · skip
          refine jx_of (fun _ _ kz => jw_iconst 0 d_Y_pollWait_89 (by decide) kz) ?_
          refine jx_of (fun _ _ kz => jw_putI fl_Y_182 (Or.inl rfl) rfl rfl d_Y_pollWait_90 rfl rfl kz) ?_
          refine jx_of (fun _ _ kz => jw_aload_n 1 d_Y_pollWait_93 rfl rfl kz) ?_
          refine jx_of (fun _ _ kz => jw_iload_n 2 d_Y_pollWait_94 rfl rfl kz) ?_
          refine jx_of (fun _ _ kz => jw_iconst 1 d_Y_pollWait_95 (by decide) kz) ?_
          refine jx_callV (y_T_makeReady (d + 2) t p n o k 1 (tO_yk hT1 (yk_sI yk_rf (by omega)))  hk) mt_T_makeReady cf_T rfl rfl ml_Y_272 im_T_makeReady se_T_makeReady d_Y_pollWait_96 rfl rfl (Nat.le_of_ble_eq_true rfl) ?_
          rintro _ _c2 ⟨rfl, c2⟩
          refine jx_eq (st2 := []) rfl rfl rfl ?_
          refine jx_of (fun _ _ kz => jw_goto 127 d_Y_pollWait_99 (by decide) kz) ?_
          refine jx_vret d_Y_pollWait_127 rfl ?_
          first | exact ⟨rfl, yI_tc (yI_k h1 (by omega)) c2, yk_tr (yk_sI k1 (by omega)) (yk_tc c2)⟩ | exact ⟨rfl, yI_rc (yI_tc hY (tc_sI tc_rf (by omega))) c1 r1, yk_tr (yk_tc (tc_sI tc_rf (by omega))) (yk_rc c1)⟩ | exact ⟨rfl, h1, k1⟩ | exact ⟨rfl, hY, yk_rf⟩
        · skip
          refine jx_of (fun _ _ kz => jw_iload d_Y_pollWait_80 rfl kz) ?_
          refine jx_if_ne 89 d_Y_pollWait_82 (by decide) (fun _ => ?_) (fun h => absurd h (by decide))
          refine jx_of (fun _ _ kz => jw_iconst 0 d_Y_pollWait_89 (by decide) kz) ?_
          refine jx_of (fun _ _ kz => jw_putI fl_Y_182 (Or.inl rfl) rfl rfl d_Y_pollWait_90 rfl rfl kz) ?_
          refine jx_of (fun _ _ kz => jw_aload_n 1 d_Y_pollWait_93 rfl rfl kz) ?_
          refine jx_of (fun _ _ kz => jw_iload_n 2 d_Y_pollWait_94 rfl rfl kz) ?_
          refine jx_of (fun _ _ kz => jw_iconst 1 d_Y_pollWait_95 (by decide) kz) ?_
          refine jx_callV (y_T_makeReady (d + 2) t p n o k 1 (tO_yk hT1 (yk_sI yk_rf (by omega)))  hk) mt_T_makeReady cf_T rfl rfl ml_Y_272 im_T_makeReady se_T_makeReady d_Y_pollWait_96 rfl rfl (Nat.le_of_ble_eq_true rfl) ?_
          rintro _ _c2 ⟨rfl, c2⟩
          refine jx_eq (st2 := []) rfl rfl rfl ?_
          refine jx_of (fun _ _ kz => jw_goto 127 d_Y_pollWait_99 (by decide) kz) ?_
          refine jx_vret d_Y_pollWait_127 rfl ?_
          first | exact ⟨rfl, yI_tc (yI_k h1 (by omega)) c2, yk_tr (yk_sI k1 (by omega)) (yk_tc c2)⟩ | exact ⟨rfl, yI_rc (yI_tc hY (tc_sI tc_rf (by omega))) c1 r1, yk_tr (yk_tc (tc_sI tc_rf (by omega))) (yk_rc c1)⟩ | exact ⟨rfl, h1, k1⟩ | exact ⟨rfl, hY, yk_rf⟩
