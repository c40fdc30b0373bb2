set_option maxRecDepth 20000 in
set_option maxHeartbeats 4000000 in
theorem z_M_unq_0 {G : Gt} {M : Me} (d : Nat) (t : Nat) (nt : Nat) (inj : List Nat) (rg : Nat → List Nat) (sl : Nat → Option Nat) (hm : mSh M) (ht : t < nt) (hq : qX M nt inj rg sl []) (hz : me_I M 38 0 t = 0) : sx G yt_M_unqueue yn_M_unqueue (d + 2) [.inr (some (7, 0)), .inl (nI t)] M (fun r M' => r = none ∧ mQ M' nt [] ∧ mc M M') := by
  refine sx_of (k := 3) (lc := [some (.inr (some (7, 0))), some (.inl (nI t)), none, none, none]) mt_M_unqueue (Nat.le_of_ble_eq_true rfl) rfl ?_
  have hnt := hq.2.2.2.1.2.2
  refine jx_of (fun _ _ kz => jw_aload_n 0 d_M_unqueue_0 rfl rfl kz) ?_
  refine jx_of (fun _ _ kz => jw_getPe (some (38, 0)) fl_M_34 d_M_unqueue_1 rfl rfl (by simp [me_I_sI, me_I_sP, me_I_nx, me_P_sI, me_P_sP, me_P_nx, me_N_sI, me_N_sP, me_N_nx, me_L_sI, me_L_sP, me_L_nx, show me_P M 7 0 9 = some (38, 0) from hm.1 (7, 0, 9, 38, 0) (by decide)]) kz) ?_
  refine jx_of (fun _ _ kz => jw_iload_n 1 d_M_unqueue_4 rfl rfl kz) ?_
  refine jx_of (fun _ _ kz => jw_ialde (0) d_M_unqueue_5 rfl rfl (by rw [show me_L _ 38 0 = 12 from (by simp [me_I_sI, me_I_sP, me_I_nx, me_P_sI, me_P_sP, me_P_nx, me_N_sI, me_N_sP, me_N_nx, me_L_sI, me_L_sP, me_L_nx, show me_L M 38 0 = 12 from hm.2 (38, 0, 12) (by decide)])]; exact (vp_in_nI (by omega) (by decide))) (by rw [nI_clamp (by omega)]; exact hz) kz) ?_
  refine jx_of (fun _ _ kz => jw_istore_n 2 d_M_unqueue_6 rfl (Nat.le_of_ble_eq_true rfl) kz) ?_
  dsimp only [List.set]
  refine jx_of (fun _ _ kz => jw_aload_n 0 d_M_unqueue_7 rfl rfl kz) ?_
  refine jx_of (fun _ _ kz => jw_getPe (some (38, 0)) fl_M_34 d_M_unqueue_8 rfl rfl (by simp [me_I_sI, me_I_sP, me_I_nx, me_P_sI, me_P_sP, me_P_nx, me_N_sI, me_N_sP, me_N_nx, me_L_sI, me_L_sP, me_L_nx, show me_P M 7 0 9 = some (38, 0) from hm.1 (7, 0, 9, 38, 0) (by decide)]) kz) ?_
  refine jx_of (fun _ _ kz => jw_iload_n 1 d_M_unqueue_11 rfl rfl kz) ?_
  refine jx_of (fun _ _ kz => jw_iconst 0 d_M_unqueue_12 (by decide) kz) ?_
  refine jx_of (fun _ _ kz => jw_iast d_M_unqueue_13 rfl rfl (by rw [show me_L _ 38 0 = 12 from (by simp [me_I_sI, me_I_sP, me_I_nx, me_P_sI, me_P_sP, me_P_nx, me_N_sI, me_N_sP, me_N_nx, me_L_sI, me_L_sP, me_L_nx, show me_L M 38 0 = 12 from hm.2 (38, 0, 12) (by decide)])]; exact (vp_in_nI (by omega) (by decide))) kz) ?_
  rw [nI_clamp (by omega)]
  refine jx_of (fun _ _ kz => jw_iload_n 2 d_M_unqueue_14 rfl rfl kz) ?_
  refine jx_of (fun _ _ kz => jw_iconst 1 d_M_unqueue_15 (by decide) kz) ?_
  refine jx_icmp_ne 78 d_M_unqueue_16 (by decide) (fun _ => ?_) (fun h => absurd h (by decide))
  refine jx_of (fun _ _ kz => jw_iload_n 2 d_M_unqueue_78 rfl rfl kz) ?_
  refine jx_of (fun _ _ kz => jw_iconst 2 d_M_unqueue_79 (by decide) kz) ?_
  refine jx_of (fun _ _ kz => jw_iconst 4 d_M_unqueue_80 (by decide) kz) ?_
  refine jx_callS (x_M_is_f d 0 2 4  (Or.inl (by decide))) mt_M_is ml_M_93 sm_M_is d_M_unqueue_81 rfl rfl (Nat.le_of_ble_eq_true rfl) ?_
  rintro _ _ ⟨rfl, rfl⟩
  refine jx_eq (st2 := [.inl 0]) rfl rfl rfl ?_
  refine jx_if_eq 99 d_M_unqueue_84 (by decide) (fun _ => ?_) (fun h => absurd h (by decide))
  refine jx_of (fun _ _ kz => jw_iload_n 2 d_M_unqueue_99 rfl rfl kz) ?_
  refine jx_of (fun _ _ kz => jw_iconst 4 d_M_unqueue_100 (by decide) kz) ?_
  refine jx_icmp_le 183 d_M_unqueue_101 (by decide) (fun _ => ?_) (fun h => absurd h (by decide))
  refine jx_vret d_M_unqueue_183 rfl ?_
  exact ⟨rfl, un_0 hq hz, (mc_sI mc_rf (kp_no (by decide)))⟩
set_option maxRecDepth 20000 in
set_option maxHeartbeats 4000000 in
theorem un_37 {G : Gt} {M M1 : Me} (d t k nt : Nat) (inj : List Nat) (rg : Nat → List Nat) (sl : Nat → Option Nat) (v : Int32) (o4 : Option AV) (c0 s0 : Nat) (hm1 : mSh M1) (e1 : M1 = (me_sI M 38 0 t 0)) (hq : qX M nt inj rg sl []) (hk : inj[k]? = some t) : jx G yt_M_unqueue (d + 2) c0 s0 M1 37 [some (.inr (some (7, 0))), some (.inl (nI t)), some (.inl v), some (.inl (nI k)), o4] [] (fun r M' => r = none ∧ mQ M' nt [] ∧ mc M M') := by
  have hkl := gi hk
  have hl := qX_len0 hq
  have e28 : me_I M1 7 0 28 = nI inj.length := by rw [e1, mx_ne (by omega)]; exact hq.1.1
  refine jx_of (fun _ _ kz => jw_aload_n 0 d_M_unqueue_37 rfl rfl kz) ?_
  refine jx_of (fun _ _ kz => jw_dup d_M_unqueue_38 kz) ?_
  refine jx_of (fun _ _ kz => jw_getIe (nI inj.length) fl_M_119 d_M_unqueue_39 rfl rfl e28 kz) ?_
  refine jx_of (fun _ _ kz => jw_iconst 1 d_M_unqueue_42 (by decide) kz) ?_
  refine jx_of (fun _ _ kz => jw_isub d_M_unqueue_43 kz) ?_
  rw [show ((nI inj.length) - 1 : Int32) = nI (inj.length - 1) from nI_p1 (by omega)]
  refine jx_of (fun _ _ kz => jw_putI fl_M_119 (Or.inl rfl) rfl rfl d_M_unqueue_44 rfl rfl kz) ?_
  refine jx_mono (un_hi _ d t k (inj.length - 1) v o4 (by omega) (by simp [me_I_sI]) _ _ (inj.length - 1 - k) k _ (by omega) (Nat.le_refl _) shf_rf (mSh_mc hm1 (sq_sI sq_rf))) (fun r M2 h => ?_)
  rw [e1] at h
  exact ⟨h.1, un_i hq hk h.2, mc_shf (mc_sI (mc_sI mc_rf (kp_no (by decide))) (by unfold kp; omega)) h.2 (Or.inr rfl)⟩
set_option maxRecDepth 20000 in
set_option maxHeartbeats 4000000 in
theorem z_M_unq_i {G : Gt} {M : Me} (d : Nat) (t : Nat) (nt : Nat) (inj : List Nat) (rg : Nat → List Nat) (sl : Nat → Option Nat) (i : Nat) (hm : mSh M) (ht : t < nt) (hq : qX M nt inj rg sl []) (hi : inj[i]? = some t) : sx G yt_M_unqueue yn_M_unqueue (d + 2) [.inr (some (7, 0)), .inl (nI t)] M (fun r M' => r = none ∧ mQ M' nt [] ∧ mc M M') := by
  refine sx_of (k := 3) (lc := [some (.inr (some (7, 0))), some (.inl (nI t)), none, none, none]) mt_M_unqueue (Nat.le_of_ble_eq_true rfl) rfl ?_
  have hnt := hq.2.2.2.1.2.2
  refine jx_of (fun _ _ kz => jw_aload_n 0 d_M_unqueue_0 rfl rfl kz) ?_
  refine jx_of (fun _ _ kz => jw_getPe (some (38, 0)) fl_M_34 d_M_unqueue_1 rfl rfl (by simp [me_I_sI, me_I_sP, me_I_nx, me_P_sI, me_P_sP, me_P_nx, me_N_sI, me_N_sP, me_N_nx, me_L_sI, me_L_sP, me_L_nx, show me_P M 7 0 9 = some (38, 0) from hm.1 (7, 0, 9, 38, 0) (by decide)]) kz) ?_
  refine jx_of (fun _ _ kz => jw_iload_n 1 d_M_unqueue_4 rfl rfl kz) ?_
  refine jx_of (fun _ _ kz => jw_ialde (1) d_M_unqueue_5 rfl rfl (by rw [show me_L _ 38 0 = 12 from (by simp [me_I_sI, me_I_sP, me_I_nx, me_P_sI, me_P_sP, me_P_nx, me_N_sI, me_N_sP, me_N_nx, me_L_sI, me_L_sP, me_L_nx, show me_L M 38 0 = 12 from hm.2 (38, 0, 12) (by decide)])]; exact (vp_in_nI (by omega) (by decide))) (by rw [nI_clamp (by omega)]; exact hq.2.2.2.2.1.1 t (List.mem_of_getElem? hi)) kz) ?_
  refine jx_of (fun _ _ kz => jw_istore_n 2 d_M_unqueue_6 rfl (Nat.le_of_ble_eq_true rfl) kz) ?_
  dsimp only [List.set]
  refine jx_of (fun _ _ kz => jw_aload_n 0 d_M_unqueue_7 rfl rfl kz) ?_
  refine jx_of (fun _ _ kz => jw_getPe (some (38, 0)) fl_M_34 d_M_unqueue_8 rfl rfl (by simp [me_I_sI, me_I_sP, me_I_nx, me_P_sI, me_P_sP, me_P_nx, me_N_sI, me_N_sP, me_N_nx, me_L_sI, me_L_sP, me_L_nx, show me_P M 7 0 9 = some (38, 0) from hm.1 (7, 0, 9, 38, 0) (by decide)]) kz) ?_
  refine jx_of (fun _ _ kz => jw_iload_n 1 d_M_unqueue_11 rfl rfl kz) ?_
  refine jx_of (fun _ _ kz => jw_iconst 0 d_M_unqueue_12 (by decide) kz) ?_
  refine jx_of (fun _ _ kz => jw_iast d_M_unqueue_13 rfl rfl (by rw [show me_L _ 38 0 = 12 from (by simp [me_I_sI, me_I_sP, me_I_nx, me_P_sI, me_P_sP, me_P_nx, me_N_sI, me_N_sP, me_N_nx, me_L_sI, me_L_sP, me_L_nx, show me_L M 38 0 = 12 from hm.2 (38, 0, 12) (by decide)])]; exact (vp_in_nI (by omega) (by decide))) kz) ?_
  rw [nI_clamp (by omega)]
  refine jx_of (fun _ _ kz => jw_iload_n 2 d_M_unqueue_14 rfl rfl kz) ?_
  refine jx_of (fun _ _ kz => jw_iconst 1 d_M_unqueue_15 (by decide) kz) ?_
  refine jx_icmp_ne 78 d_M_unqueue_16 (by decide) (fun h => absurd h (by decide)) (fun _ => ?_)
  refine jx_of (fun _ _ kz => jw_iconst 0 d_M_unqueue_19 (by decide) kz) ?_
  refine jx_of (fun _ _ kz => jw_istore_n 3 d_M_unqueue_20 rfl (Nat.le_of_ble_eq_true rfl) kz) ?_
  dsimp only [List.set]
  exact un_si d t i nt inj 1 none _ _ _ (mSh_mc hm (sq_sI sq_rf)) (qX_len0 hq) (by omega) (fun k x hx => by rw [mx_ne (by omega)]; exact hq.1.2 k x hx) (fun a ha => by have := hq.2.2.2.1.2.1 a (qC_in ha); omega) hi (fun k hk => un_37 d t k nt inj rg sl 1 none _ _ (mSh_mc hm (sq_sI sq_rf)) rfl hq hk) i 0 (by omega)
set_option maxRecDepth 20000 in
set_option maxHeartbeats 4000000 in
theorem z_M_unq_s {G : Gt} {M : Me} (d : Nat) (t : Nat) (nt : Nat) (inj : List Nat) (rg : Nat → List Nat) (sl : Nat → Option Nat) (w : Nat) (hm : mSh M) (ht : t < nt) (hq : qX M nt inj rg sl []) (hw : w < 3) (hi : sl w = some t) : sx G yt_M_unqueue yn_M_unqueue (d + 2) [.inr (some (7, 0)), .inl (nI t)] M (fun r M' => r = none ∧ mQ M' nt [] ∧ mc M M') := by
  refine sx_of (k := 3) (lc := [some (.inr (some (7, 0))), some (.inl (nI t)), none, none, none]) mt_M_unqueue (Nat.le_of_ble_eq_true rfl) rfl ?_
  have hnt := hq.2.2.2.1.2.2
  refine jx_of (fun _ _ kz => jw_aload_n 0 d_M_unqueue_0 rfl rfl kz) ?_
  refine jx_of (fun _ _ kz => jw_getPe (some (38, 0)) fl_M_34 d_M_unqueue_1 rfl rfl (by simp [me_I_sI, me_I_sP, me_I_nx, me_P_sI, me_P_sP, me_P_nx, me_N_sI, me_N_sP, me_N_nx, me_L_sI, me_L_sP, me_L_nx, show me_P M 7 0 9 = some (38, 0) from hm.1 (7, 0, 9, 38, 0) (by decide)]) kz) ?_
  refine jx_of (fun _ _ kz => jw_iload_n 1 d_M_unqueue_4 rfl rfl kz) ?_
  refine jx_of (fun _ _ kz => jw_ialde (nI (2 + w)) d_M_unqueue_5 rfl rfl (by rw [show me_L _ 38 0 = 12 from (by simp [me_I_sI, me_I_sP, me_I_nx, me_P_sI, me_P_sP, me_P_nx, me_N_sI, me_N_sP, me_N_nx, me_L_sI, me_L_sP, me_L_nx, show me_L M 38 0 = 12 from hm.2 (38, 0, 12) (by decide)])]; exact (vp_in_nI (by omega) (by decide))) (by rw [nI_clamp (by omega)]; exact hq.2.2.2.2.1.2.1 w hw t hi) kz) ?_
  refine jx_of (fun _ _ kz => jw_istore_n 2 d_M_unqueue_6 rfl (Nat.le_of_ble_eq_true rfl) kz) ?_
  dsimp only [List.set]
  refine jx_of (fun _ _ kz => jw_aload_n 0 d_M_unqueue_7 rfl rfl kz) ?_
  refine jx_of (fun _ _ kz => jw_getPe (some (38, 0)) fl_M_34 d_M_unqueue_8 rfl rfl (by simp [me_I_sI, me_I_sP, me_I_nx, me_P_sI, me_P_sP, me_P_nx, me_N_sI, me_N_sP, me_N_nx, me_L_sI, me_L_sP, me_L_nx, show me_P M 7 0 9 = some (38, 0) from hm.1 (7, 0, 9, 38, 0) (by decide)]) kz) ?_
  refine jx_of (fun _ _ kz => jw_iload_n 1 d_M_unqueue_11 rfl rfl kz) ?_
  refine jx_of (fun _ _ kz => jw_iconst 0 d_M_unqueue_12 (by decide) kz) ?_
  refine jx_of (fun _ _ kz => jw_iast d_M_unqueue_13 rfl rfl (by rw [show me_L _ 38 0 = 12 from (by simp [me_I_sI, me_I_sP, me_I_nx, me_P_sI, me_P_sP, me_P_nx, me_N_sI, me_N_sP, me_N_nx, me_L_sI, me_L_sP, me_L_nx, show me_L M 38 0 = 12 from hm.2 (38, 0, 12) (by decide)])]; exact (vp_in_nI (by omega) (by decide))) kz) ?_
  rw [nI_clamp (by omega)]
  refine jx_of (fun _ _ kz => jw_iload_n 2 d_M_unqueue_14 rfl rfl kz) ?_
  refine jx_of (fun _ _ kz => jw_iconst 1 d_M_unqueue_15 (by decide) kz) ?_
  refine jx_icmp_ne 78 d_M_unqueue_16 (by decide) (fun _ => ?_) (fun h => absurd h (by rcases w3 hw with q | q | q <;> rw [q] <;> decide))
  refine jx_of (fun _ _ kz => jw_iload_n 2 d_M_unqueue_78 rfl rfl kz) ?_
  refine jx_of (fun _ _ kz => jw_iconst 2 d_M_unqueue_79 (by decide) kz) ?_
  refine jx_of (fun _ _ kz => jw_iconst 4 d_M_unqueue_80 (by decide) kz) ?_
  refine jx_callS (x_M_is_t d ((nI (2 + w))) 2 4  (by rcases w3 hw with q | q | q <;> rw [q] <;> decide) (by rcases w3 hw with q | q | q <;> rw [q] <;> decide)) mt_M_is ml_M_93 sm_M_is d_M_unqueue_81 rfl rfl (Nat.le_of_ble_eq_true rfl) ?_
  rintro _ _ ⟨rfl, rfl⟩
  refine jx_eq (st2 := [.inl 1]) rfl rfl rfl ?_
  refine jx_if_eq 99 d_M_unqueue_84 (by decide) (fun h => absurd h (by decide)) (fun _ => ?_)
  refine jx_of (fun _ _ kz => jw_aload_n 0 d_M_unqueue_87 rfl rfl kz) ?_
  refine jx_of (fun _ _ kz => jw_getPe (some (48, 0)) fl_M_65 d_M_unqueue_88 rfl rfl (by simp [me_I_sI, me_I_sP, me_I_nx, me_P_sI, me_P_sP, me_P_nx, me_N_sI, me_N_sP, me_N_nx, me_L_sI, me_L_sP, me_L_nx, show me_P M 7 0 19 = some (48, 0) from hm.1 (7, 0, 19, 48, 0) (by decide)]) kz) ?_
  refine jx_of (fun _ _ kz => jw_iload_n 2 d_M_unqueue_91 rfl rfl kz) ?_
  refine jx_of (fun _ _ kz => jw_iconst 2 d_M_unqueue_92 (by decide) kz) ?_
  refine jx_of (fun _ _ kz => jw_isub d_M_unqueue_93 kz) ?_
  rw [show ((nI (2 + w)) - 2 : Int32) = nI w from n_m2 w]
  refine jx_of (fun _ _ kz => jw_iconst (-1) d_M_unqueue_94 (by decide) kz) ?_
  refine jx_of (fun _ _ kz => jw_iast d_M_unqueue_95 rfl rfl (by rw [show me_L _ 48 0 = 3 from (by simp [me_I_sI, me_I_sP, me_I_nx, me_P_sI, me_P_sP, me_P_nx, me_N_sI, me_N_sP, me_N_nx, me_L_sI, me_L_sP, me_L_nx, show me_L M 48 0 = 3 from hm.2 (48, 0, 3) (by decide)])]; exact (vp_in_nI hw (by decide))) kz) ?_
  rw [nI_clamp (by omega)]
  refine jx_of (fun _ _ kz => jw_goto 183 d_M_unqueue_96 (by decide) kz) ?_
  refine jx_vret d_M_unqueue_183 rfl ?_
  exact ⟨rfl, un_s hq hw hi, mc_sI (mc_sI mc_rf (kp_no (by decide))) (kp_no (by decide))⟩
set_option maxRecDepth 20000 in
set_option maxHeartbeats 4000000 in
theorem un_132 {G : Gt} {M M1 : Me} (d t k nt w : Nat) (inj : List Nat) (rg : Nat → List Nat) (sl : Nat → Option Nat) (v : Int32) (c0 s0 : Nat) (hm1 : mSh M1) (e1 : M1 = (me_sI M 38 0 t 0)) (hq : qX M nt inj rg sl []) (hw : w < 3) (hk : (rg w)[k]? = some t) : jx G yt_M_unqueue (d + 2) c0 s0 M1 132 [some (.inr (some (7, 0))), some (.inl (nI t)), some (.inl v), some (.inl (nI w)), some (.inl (nI k))] [] (fun r M' => r = none ∧ mQ M' nt [] ∧ mc M M') := by
  have hkl := gi hk
  have hl := (hq.2.1 w hw).2.1
  have e28 : me_I M1 52 0 w = nI (rg w).length := by rw [e1, mx_ne (by omega)]; exact (hq.2.1 w hw).1
  refine jx_of (fun _ _ kz => jw_aload_n 0 d_M_unqueue_132 rfl rfl kz) ?_
  refine jx_of (fun _ _ kz => jw_getPe (some (52, 0)) fl_M_77 d_M_unqueue_133 rfl rfl (by simp [me_I_sI, me_I_sP, me_I_nx, me_P_sI, me_P_sP, me_P_nx, me_N_sI, me_N_sP, me_N_nx, me_L_sI, me_L_sP, me_L_nx, show me_P M1 7 0 23 = some (52, 0) from hm1.1 (7, 0, 23, 52, 0) (by decide)]) kz) ?_
  refine jx_of (fun _ _ kz => jw_iload_n 3 d_M_unqueue_136 rfl rfl kz) ?_
  refine jx_of (fun _ _ kz => jw_dup2 d_M_unqueue_137 kz) ?_
  refine jx_of (fun _ _ kz => jw_ialde (nI (rg w).length) d_M_unqueue_138 rfl rfl (by rw [show me_L _ 52 0 = 3 from (by simp [me_I_sI, me_I_sP, me_I_nx, me_P_sI, me_P_sP, me_P_nx, me_N_sI, me_N_sP, me_N_nx, me_L_sI, me_L_sP, me_L_nx, show me_L M1 52 0 = 3 from hm1.2 (52, 0, 3) (by decide)])]; exact (vp_in_nI hw (by decide))) (by rw [nI_clamp (by omega)]; exact e28) kz) ?_
  refine jx_of (fun _ _ kz => jw_iconst 1 d_M_unqueue_139 (by decide) kz) ?_
  refine jx_of (fun _ _ kz => jw_isub d_M_unqueue_140 kz) ?_
  rw [show ((nI (rg w).length) - 1 : Int32) = nI ((rg w).length - 1) from nI_p1 (by omega)]
  refine jx_of (fun _ _ kz => jw_iast d_M_unqueue_141 rfl rfl (by rw [show me_L _ 52 0 = 3 from (by simp [me_I_sI, me_I_sP, me_I_nx, me_P_sI, me_P_sP, me_P_nx, me_N_sI, me_N_sP, me_N_nx, me_L_sI, me_L_sP, me_L_nx, show me_L M1 52 0 = 3 from hm1.2 (52, 0, 3) (by decide)])]; exact (vp_in_nI hw (by decide))) kz) ?_
  rw [nI_clamp (by omega)]
  refine jx_mono (un_hr _ d t k ((rg w).length - 1) w v hw (by omega) (by simp [me_I_sI]) _ _ ((rg w).length - 1 - k) k _ (by omega) (Nat.le_refl _) shf_rf (mSh_mc hm1 (sq_sI sq_rf))) (fun r M2 h => ?_)
  rw [e1] at h
  exact ⟨h.1, un_r hq hw hk h.2, mc_shf (mc_sI (mc_sI mc_rf (kp_no (by decide))) (kp_no (by decide))) h.2 (Or.inl rfl)⟩
set_option maxRecDepth 20000 in
set_option maxHeartbeats 4000000 in
theorem z_M_unq_r {G : Gt} {M : Me} (d : Nat) (t : Nat) (nt : Nat) (inj : List Nat) (rg : Nat → List Nat) (sl : Nat → Option Nat) (w : Nat) (i : Nat) (hm : mSh M) (ht : t < nt) (hq : qX M nt inj rg sl []) (hw : w < 3) (hi : (rg w)[i]? = some t) : sx G yt_M_unqueue yn_M_unqueue (d + 2) [.inr (some (7, 0)), .inl (nI t)] M (fun r M' => r = none ∧ mQ M' nt [] ∧ mc M M') := by
  refine sx_of (k := 3) (lc := [some (.inr (some (7, 0))), some (.inl (nI t)), none, none, none]) mt_M_unqueue (Nat.le_of_ble_eq_true rfl) rfl ?_
  have hnt := hq.2.2.2.1.2.2
  refine jx_of (fun _ _ kz => jw_aload_n 0 d_M_unqueue_0 rfl rfl kz) ?_
  refine jx_of (fun _ _ kz => jw_getPe (some (38, 0)) fl_M_34 d_M_unqueue_1 rfl rfl (by simp [me_I_sI, me_I_sP, me_I_nx, me_P_sI, me_P_sP, me_P_nx, me_N_sI, me_N_sP, me_N_nx, me_L_sI, me_L_sP, me_L_nx, show me_P M 7 0 9 = some (38, 0) from hm.1 (7, 0, 9, 38, 0) (by decide)]) kz) ?_
  refine jx_of (fun _ _ kz => jw_iload_n 1 d_M_unqueue_4 rfl rfl kz) ?_
  refine jx_of (fun _ _ kz => jw_ialde (nI (5 + w)) d_M_unqueue_5 rfl rfl (by rw [show me_L _ 38 0 = 12 from (by simp [me_I_sI, me_I_sP, me_I_nx, me_P_sI, me_P_sP, me_P_nx, me_N_sI, me_N_sP, me_N_nx, me_L_sI, me_L_sP, me_L_nx, show me_L M 38 0 = 12 from hm.2 (38, 0, 12) (by decide)])]; exact (vp_in_nI (by omega) (by decide))) (by rw [nI_clamp (by omega)]; exact hq.2.2.2.2.1.2.2.1 w hw t (List.mem_of_getElem? hi)) kz) ?_
  refine jx_of (fun _ _ kz => jw_istore_n 2 d_M_unqueue_6 rfl (Nat.le_of_ble_eq_true rfl) kz) ?_
  dsimp only [List.set]
  refine jx_of (fun _ _ kz => jw_aload_n 0 d_M_unqueue_7 rfl rfl kz) ?_
  refine jx_of (fun _ _ kz => jw_getPe (some (38, 0)) fl_M_34 d_M_unqueue_8 rfl rfl (by simp [me_I_sI, me_I_sP, me_I_nx, me_P_sI, me_P_sP, me_P_nx, me_N_sI, me_N_sP, me_N_nx, me_L_sI, me_L_sP, me_L_nx, show me_P M 7 0 9 = some (38, 0) from hm.1 (7, 0, 9, 38, 0) (by decide)]) kz) ?_
  refine jx_of (fun _ _ kz => jw_iload_n 1 d_M_unqueue_11 rfl rfl kz) ?_
  refine jx_of (fun _ _ kz => jw_iconst 0 d_M_unqueue_12 (by decide) kz) ?_
  refine jx_of (fun _ _ kz => jw_iast d_M_unqueue_13 rfl rfl (by rw [show me_L _ 38 0 = 12 from (by simp [me_I_sI, me_I_sP, me_I_nx, me_P_sI, me_P_sP, me_P_nx, me_N_sI, me_N_sP, me_N_nx, me_L_sI, me_L_sP, me_L_nx, show me_L M 38 0 = 12 from hm.2 (38, 0, 12) (by decide)])]; exact (vp_in_nI (by omega) (by decide))) kz) ?_
  rw [nI_clamp (by omega)]
  refine jx_of (fun _ _ kz => jw_iload_n 2 d_M_unqueue_14 rfl rfl kz) ?_
  refine jx_of (fun _ _ kz => jw_iconst 1 d_M_unqueue_15 (by decide) kz) ?_
  refine jx_icmp_ne 78 d_M_unqueue_16 (by decide) (fun _ => ?_) (fun h => absurd h (by rcases w3 hw with q | q | q <;> rw [q] <;> decide))
  refine jx_of (fun _ _ kz => jw_iload_n 2 d_M_unqueue_78 rfl rfl kz) ?_
  refine jx_of (fun _ _ kz => jw_iconst 2 d_M_unqueue_79 (by decide) kz) ?_
  refine jx_of (fun _ _ kz => jw_iconst 4 d_M_unqueue_80 (by decide) kz) ?_
  refine jx_callS (x_M_is_f d ((nI (5 + w))) 2 4  (Or.inr (by rcases w3 hw with q | q | q <;> rw [q] <;> decide))) mt_M_is ml_M_93 sm_M_is d_M_unqueue_81 rfl rfl (Nat.le_of_ble_eq_true rfl) ?_
  rintro _ _ ⟨rfl, rfl⟩
  refine jx_eq (st2 := [.inl 0]) rfl rfl rfl ?_
  refine jx_if_eq 99 d_M_unqueue_84 (by decide) (fun _ => ?_) (fun h => absurd h (by decide))
  refine jx_of (fun _ _ kz => jw_iload_n 2 d_M_unqueue_99 rfl rfl kz) ?_
  refine jx_of (fun _ _ kz => jw_iconst 4 d_M_unqueue_100 (by decide) kz) ?_
  refine jx_icmp_le 183 d_M_unqueue_101 (by decide) (fun h => absurd h (by rcases w3 hw with q | q | q <;> rw [q] <;> decide)) (fun _ => ?_)
  refine jx_of (fun _ _ kz => jw_iload_n 2 d_M_unqueue_104 rfl rfl kz) ?_
  refine jx_of (fun _ _ kz => jw_iconst 5 d_M_unqueue_105 (by decide) kz) ?_
  refine jx_of (fun _ _ kz => jw_isub d_M_unqueue_106 kz) ?_
  rw [show ((nI (5 + w)) - 5 : Int32) = nI w from n_m5 w]
  refine jx_of (fun _ _ kz => jw_istore_n 3 d_M_unqueue_107 rfl (Nat.le_of_ble_eq_true rfl) kz) ?_
  dsimp only [List.set]
  refine jx_of (fun _ _ kz => jw_iconst 0 d_M_unqueue_108 (by decide) kz) ?_
  refine jx_of (fun _ _ kz => jw_istore d_M_unqueue_109 (Nat.le_of_ble_eq_true rfl) kz) ?_
  dsimp only [List.set]
  exact un_sr d t i w (rg w) _ _ _ _ (mSh_mc hm (sq_sI sq_rf)) hw (hq.2.1 w hw).2.1 (by omega) (fun k x hx => by rw [mx_ne (by omega)]; exact (hq.2.1 w hw).2.2 k x hx) (fun a ha => by have := qC_inr (X := []) (inj := inj) (sl := sl) hw ha; have := hq.2.2.2.1.2.1 a (by omega); omega) hi (fun k hk => un_132 d t k nt w inj rg sl _ _ _ (mSh_mc hm (sq_sI sq_rf)) rfl hq hw hk) i 0 (by omega)
theorem z_M_unqueue {G : Gt} {M : Me} (d t nt : Nat) (hm : mSh M) (ht : t < nt) (hq : mQ M nt []) : sx G yt_M_unqueue yn_M_unqueue (d + 2) [.inr (some (7, 0)), .inl (nI t)] M (fun r M' => r = none ∧ mQ M' nt [] ∧ mc M M') := by
  obtain ⟨inj, rg, sl, hq⟩ := hq
  by_cases h1 : t ∈ inj
  · obtain ⟨i, hi⟩ := List.getElem?_of_mem h1
    exact z_M_unq_i d t nt inj rg sl i hm ht hq hi
  · by_cases h2 : ∃ w, w < 3 ∧ sl w = some t
    · obtain ⟨w, hw, h⟩ := h2
      exact z_M_unq_s d t nt inj rg sl w hm ht hq hw h
    · by_cases h3 : ∃ w, w < 3 ∧ t ∈ rg w
      · obtain ⟨w, hw, h⟩ := h3
        obtain ⟨i, hi⟩ := List.getElem?_of_mem h
        exact z_M_unq_r d t nt inj rg sl w i hm ht hq hw hi
      · refine z_M_unq_0 d t nt inj rg sl hm ht hq (hq.2.2.2.2.1.2.2.2 t (by have := hq.2.2.2.1.2.2; omega) ?_)
        have c : ∀ w, w < 3 → (rg w).count t = 0 := fun w hw => List.count_eq_zero.mpr (fun q => h3 ⟨w, hw, q⟩)
        have s : ∀ w, w < 3 → slc (sl w) t = 0 := fun w hw => by
          cases e : sl w with
          | none => rfl
          | some x => rw [slc_s, if_neg (fun q => h2 ⟨w, hw, by rw [e, q]⟩)]
        have a := List.count_eq_zero.mpr h1
        unfold qC
        rw [a, c 0 (by omega), c 1 (by omega), c 2 (by omega), s 0 (by omega), s 1 (by omega), s 2 (by omega)]
        simp
set_option maxRecDepth 20000 in
set_option maxHeartbeats 4000000 in
theorem z_M_abort_f {G : Gt} {M : Me} (d : Nat) (u : Int32) (np : Nat) (nt : Nat) (hJ : mJ M np nt) (hu : u < 0 ∨ nI nt - 1 < u) : sx G yt_M_abort yn_M_abort (d + 7) [.inr (some (7, 0)), .inl u] M (fun r M' => ∃ (v : Int32) (nt' : Nat), r = some (.inl v) ∧ mJ M' np nt' ∧ pf M M') := by
  refine sx_of (k := 0) (lc := [some (.inr (some (7, 0))), some (.inl u)]) mt_M_abort (Nat.le_of_ble_eq_true rfl) rfl ?_
  refine jx_of (fun _ _ kz => jw_iload_n 1 d_M_abort_0 rfl rfl kz) ?_
  refine jx_of (fun _ _ kz => jw_iconst 0 d_M_abort_1 (by decide) kz) ?_
  refine jx_of (fun _ _ kz => jw_aload_n 0 d_M_abort_2 rfl rfl kz) ?_
  refine jx_of (fun _ _ kz => jw_getIe (nI nt) fl_M_112 d_M_abort_3 rfl rfl hJ.1.2.2.1.1 kz) ?_
  refine jx_of (fun _ _ kz => jw_iconst 1 d_M_abort_6 (by decide) kz) ?_
  refine jx_of (fun _ _ kz => jw_isub d_M_abort_7 kz) ?_
  refine jx_callS (x_M_is_f (d + 5) u 0 (((nI nt) - 1))  hu) mt_M_is ml_M_93 sm_M_is d_M_abort_8 rfl rfl (Nat.le_of_ble_eq_true rfl) ?_
  rintro _ _ ⟨rfl, rfl⟩
  refine jx_eq (st2 := [.inl 0]) rfl rfl rfl ?_
  refine jx_if_eq 28 d_M_abort_11 (by decide) (fun _ => ?_) (fun h => absurd h (by decide))
  refine jx_of (fun _ _ kz => jw_iconst 0 d_M_abort_28 (by decide) kz) ?_
  refine jx_zret d_M_abort_29 rfl (by decide) ?_
  exact ⟨_, nt, rfl, hJ, pf_rf⟩
set_option maxRecDepth 20000 in
set_option maxHeartbeats 4000000 in
theorem z_M_abort_t {G : Gt} {M : Me} (d : Nat) (t : Nat) (np : Nat) (nt : Nat) (hJ : mJ M np nt) (ht : t < nt) (h1 : ¬ nI t < 0) (h2x : ¬ nI nt - 1 < nI t) : sx G yt_M_abort yn_M_abort (d + 7) [.inr (some (7, 0)), .inl (nI t)] M (fun r M' => ∃ (v : Int32) (nt' : Nat), r = some (.inl v) ∧ mJ M' np nt' ∧ pf M M') := by
  refine sx_of (k := 0) (lc := [some (.inr (some (7, 0))), some (.inl (nI t))]) mt_M_abort (Nat.le_of_ble_eq_true rfl) rfl ?_
  have hnt := hJ.1.2.2.1.2.1
  refine jx_of (fun _ _ kz => jw_iload_n 1 d_M_abort_0 rfl rfl kz) ?_
  refine jx_of (fun _ _ kz => jw_iconst 0 d_M_abort_1 (by decide) kz) ?_
  refine jx_of (fun _ _ kz => jw_aload_n 0 d_M_abort_2 rfl rfl kz) ?_
  refine jx_of (fun _ _ kz => jw_getIe (nI nt) fl_M_112 d_M_abort_3 rfl rfl hJ.1.2.2.1.1 kz) ?_
  refine jx_of (fun _ _ kz => jw_iconst 1 d_M_abort_6 (by decide) kz) ?_
  refine jx_of (fun _ _ kz => jw_isub d_M_abort_7 kz) ?_
  refine jx_callS (x_M_is_t (d + 5) ((nI t)) 0 (((nI nt) - 1))  h1 h2x) mt_M_is ml_M_93 sm_M_is d_M_abort_8 rfl rfl (Nat.le_of_ble_eq_true rfl) ?_
  rintro _ _ ⟨rfl, rfl⟩
  refine jx_eq (st2 := [.inl 1]) rfl rfl rfl ?_
  refine jx_if_eq 28 d_M_abort_11 (by decide) (fun h => absurd h (by decide)) (fun _ => ?_)
  refine jx_of (fun _ _ kz => jw_aload_n 0 d_M_abort_14 rfl rfl kz) ?_
  refine jx_of (fun _ _ kz => jw_getPe (some (33, 0)) fl_M_19 d_M_abort_15 rfl rfl (by simp [me_I_sI, me_I_sP, me_I_nx, me_P_sI, me_P_sP, me_P_nx, me_N_sI, me_N_sP, me_N_nx, me_L_sI, me_L_sP, me_L_nx, show me_P M 7 0 4 = some (33, 0) from hJ.1.1.1 (7, 0, 4, 33, 0) (by decide)]) kz) ?_
  refine jx_of (fun _ _ kz => jw_iload_n 1 d_M_abort_18 rfl rfl kz) ?_
  refine jx_of (fun _ _ kz => jw_ialde (me_I M 33 0 t) d_M_abort_19 rfl rfl (by rw [show me_L _ 33 0 = 12 from (by simp [me_I_sI, me_I_sP, me_I_nx, me_P_sI, me_P_sP, me_P_nx, me_N_sI, me_N_sP, me_N_nx, me_L_sI, me_L_sP, me_L_nx, show me_L M 33 0 = 12 from hJ.1.1.2 (33, 0, 12) (by decide)])]; exact (vp_in_nI (by omega) (by decide))) (by rw [nI_clamp (by omega)] <;> simp [me_I_sI]) kz) ?_
  refine jx_of (fun _ _ kz => jw_iconst 2 d_M_abort_20 (by decide) kz) ?_
  refine jx_of (fun _ _ kz => jw_iconst 4 d_M_abort_21 (by decide) kz) ?_
  refine jx_callS (x_M_is (d + 5) ((me_I M 33 0 t)) 2 4) mt_M_is ml_M_93 sm_M_is d_M_abort_22 rfl rfl (Nat.le_of_ble_eq_true rfl) ?_
  rintro _ _ ⟨rfl, rfl⟩
  refine jx_eq (st2 := [.inl (if (me_I M 33 0 t) < 2 then 0 else if 4 < (me_I M 33 0 t) then 0 else 1)]) rfl rfl rfl ?_
  refine jx_if_eq 30 d_M_abort_25 (by decide) (fun b_25 => ?_) (fun b_25 => ?_)
  · skip
    refine jx_of (fun _ _ kz => jw_aload_n 0 d_M_abort_30 rfl rfl kz) ?_
    refine jx_of (fun _ _ kz => jw_iload_n 1 d_M_abort_31 rfl rfl kz) ?_
    refine jx_of (fun _ _ kz => jw_iconst 4 d_M_abort_32 (by decide) kz) ?_
    refine jx_of (fun _ _ kz => jw_iconst 0 d_M_abort_33 (by decide) kz) ?_
    refine jx_callV (z_M_ends (d + 5) t 4 0 hJ.1.1  (by omega)) mt_M_ends cf_M rfl rfl ml_M_201 im_M_ends se_M_ends d_M_abort_34 rfl rfl (Nat.le_of_ble_eq_true rfl) ?_
    rintro _ _ ⟨rfl, rfl⟩
    refine jx_eq (st2 := []) rfl rfl rfl ?_
    refine jx_of (fun _ _ kz => jw_aload_n 0 d_M_abort_37 rfl rfl kz) ?_
    refine jx_of (fun _ _ kz => jw_iload_n 1 d_M_abort_38 rfl rfl kz) ?_
    refine jx_callV (z_M_unqueue (d + 4) t nt (mSh_mc hJ.1.1 (sq_sI (sq_sI sq_rf)))  ht (mQ_any (mQ_state hJ.1.2.2.2.1 (by decide)) (by omega))) mt_M_unqueue cf_M rfl rfl ml_M_226 im_M_unqueue se_M_unqueue d_M_abort_39 rfl rfl (Nat.le_of_ble_eq_true rfl) ?_
    rintro _ M2 ⟨rfl, q2, c2⟩
    have f2 := fw_mc (fw_sI (fw_sI (fw_rf (nt := nt)) (by omega)) (by omega)) c2
    have h2 : mI M2 np nt [] := mI_q hJ.1 f2 (mc27 ((mx_ne (by omega)).trans (mx_ne (by omega))) c2) q2
    obtain ⟨p, len, o, hp⟩ := tP_mI h2 ht
    refine jx_eq (st2 := []) rfl rfl rfl ?_
    refine jx_of (fun _ _ kz => jw_aload_n 0 d_M_abort_42 rfl rfl kz) ?_
    refine jx_of (fun _ _ kz => jw_iload_n 1 d_M_abort_43 rfl rfl kz) ?_
    refine jx_of (fun _ _ kz => jw_iconst 0 d_M_abort_44 (by decide) kz) ?_
    refine jx_callV (z_M_drop d t 0 p len o np nt ([]) h2  ht hp (by have := hp.2.2.1; omega)) mt_M_drop cf_M rfl rfl ml_M_168 im_M_drop se_M_drop d_M_abort_45 rfl rfl (Nat.le_of_ble_eq_true rfl) ?_
    rintro _ M3 ⟨rfl, h3⟩
    refine jx_eq (st2 := []) rfl rfl rfl ?_
    refine jx_of (fun _ _ kz => jw_aload_n 0 d_M_abort_48 rfl rfl kz) ?_
    refine jx_of (fun _ _ kz => jw_iload_n 1 d_M_abort_49 rfl rfl kz) ?_
    refine jx_callV (z_M_tellReapers (d + 1) ((nI t)) np nt ([]) h3.2.1) mt_M_tellReapers cf_M rfl rfl ml_M_204 im_M_tellReapers se_M_tellReapers d_M_abort_50 rfl rfl (Nat.le_of_ble_eq_true rfl) ?_
    rintro _ M4 ⟨rfl, h4⟩
    refine jx_eq (st2 := []) rfl rfl rfl ?_
    refine jx_of (fun _ _ kz => jw_iconst 1 d_M_abort_53 (by decide) kz) ?_
    refine jx_zret d_M_abort_54 rfl (by decide) ?_
    exact ⟨_, nt, rfl, mJ_iw hJ (iw_mk (Nat.le_refl _) h4.2.1 (fw_tr (Nat.le_refl _) (fw_tr (Nat.le_refl _) f2 (iw_iv h3).2.2.1) (iw_iv h4).2.2.1)), pf_fw (fw_tr (Nat.le_refl _) (fw_tr (Nat.le_refl _) f2 (iw_iv h3).2.2.1) (iw_iv h4).2.2.1)⟩
  · skip
    refine jx_of (fun _ _ kz => jw_iconst 0 d_M_abort_28 (by decide) kz) ?_
    refine jx_zret d_M_abort_29 rfl (by decide) ?_
    exact ⟨_, nt, rfl, hJ, pf_rf⟩
theorem z_M_abort {G : Gt} {M : Me} (d : Nat) (u : Int32) (np nt : Nat) (hJ : mJ M np nt) : sx G yt_M_abort yn_M_abort (d + 7) [.inr (some (7, 0)), .inl u] M (fun r M' => ∃ (v : Int32) (nt' : Nat), r = some (.inl v) ∧ mJ M' np nt' ∧ pf M M') := by
  rcases rng u nt (by have := hJ.1.2.2.1.2.1; omega) with h | ⟨j, hj, rfl, h1, h2⟩
  · exact z_M_abort_f d u np nt hJ h
  · exact z_M_abort_t d j np nt hJ hj h1 h2
