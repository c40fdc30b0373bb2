theorem ch1 {M : Me} {p len n : Nat} {o : Nat → Nat} (h : mP1 M p len o) (hn : n < len) (hp : 1 ≤ pN (o n)) : n + 1 < len := by
  have h1 := h.2.2.2.1 n hn
  have h2 := h.2.2.2.2
  rcases Nat.lt_or_ge (n + 1) len with q | q
  · exact q
  · rw [show len = n + 1 by omega, due_s] at h2; omega
theorem ch2 {M : Me} {p len n e : Nat} {o : Nat → Nat} (h : mP1 M p len o) (hn : n < len) (hp : pN (o n) = 2) (he : e ≤ len) (hd : due o e = due o (n + 1) - 1) : e < len := by
  have h1 := h.2.2.2.1 n hn
  have h2 := h.2.2.2.2
  rcases Nat.lt_or_ge e len with q | q
  · exact q
  · rw [show len = e by omega, hd, due_s] at h2; omega
set_option maxRecDepth 20000 in
set_option maxHeartbeats 4000000 in
theorem z_M_step_01 {G : Gt} {M : Me} (d : Nat) (t : Nat) (n : Nat) (x : Nat) (p : Nat) (len : Nat) (o : Nat → Nat) (np : Nat) (nt : Nat) (X : List Nat) (hI : mI M np nt X) (ht : t < nt) (hp : tP M t p len o) (hn : n < len) (hx : x < 144) (hpn : pN (o n) = 1) : sx G yt_M_step yn_M_step (d + 7) [.inr (some (7, 0)), .inl (nI t), .inl (nI n), .inl (nI x), .inl 0] M (fun r M' => r = some (.inl (nI (n + 1))) ∧ iv np nt nt X M M') := by
  refine sx_of (k := 8) (lc := [some (.inr (some (7, 0))), some (.inl (nI t)), some (.inl (nI n)), some (.inl (nI x)), some (.inl 0), none, none, none, none, none, none, none, none]) mt_M_step (Nat.le_of_ble_eq_true rfl) rfl ?_
  have hok := hp.2.2.2.2.1 n hn
  obtain ⟨A, hA⟩ : ∃ A, me_I M 31 0 (12 * p + n) = A := ⟨_, rfl⟩
  have hnt := hI.2.2.1.2.1
  have hle := hp.2.2.1
  have hc1 := ch1 hp.2.2 hn (by omega)
  refine jx_of (fun _ _ kz => jw_aload_n 0 d_M_step_0 rfl rfl kz) ?_
  refine jx_of (fun _ _ kz => jw_iload_n 1 d_M_step_1 rfl rfl kz) ?_
  refine jx_of (fun _ _ kz => jw_iload_n 2 d_M_step_2 rfl rfl kz) ?_
  refine jx_callV (z_M_opOf (d + 5) t n p hI.1  (by omega) (by omega) hp.1 hp.2.1) mt_M_opOf cf_M rfl rfl ml_M_108 im_M_opOf se_M_opOf d_M_step_3 rfl rfl (Nat.le_of_ble_eq_true rfl) ?_
  rintro _ _ ⟨rfl, rfl⟩
  refine jx_eq (st2 := [.inl (me_I M 30 0 (12 * p + n))]) rfl rfl rfl ?_
  rw [show (me_I M 30 0 (12 * p + n) : Int32) = nI (o n) from hok.2.1]
  refine jx_of (fun _ _ kz => jw_istore d_M_step_6 (Nat.le_of_ble_eq_true rfl) kz) ?_
  dsimp only [List.set]
  refine jx_of (fun _ _ kz => jw_aload_n 0 d_M_step_8 rfl rfl kz) ?_
  refine jx_of (fun _ _ kz => jw_iload_n 1 d_M_step_9 rfl rfl kz) ?_
  refine jx_of (fun _ _ kz => jw_iload_n 2 d_M_step_10 rfl rfl kz) ?_
  refine jx_callV (z_M_argOf (d + 5) t n p hI.1  (by omega) (by omega) hp.1 hp.2.1) mt_M_argOf cf_M rfl rfl ml_M_132 im_M_argOf se_M_argOf d_M_step_11 rfl rfl (Nat.le_of_ble_eq_true rfl) ?_
  rintro _ _ ⟨rfl, rfl⟩
  refine jx_eq (st2 := [.inl (me_I M 31 0 (12 * p + n))]) rfl rfl rfl ?_
  rw [show (me_I M 31 0 (12 * p + n) : Int32) = A from hA]
  refine jx_of (fun _ _ kz => jw_istore d_M_step_14 (Nat.le_of_ble_eq_true rfl) kz) ?_
  dsimp only [List.set]
  refine jx_of (fun _ _ kz => jw_iload_n 2 d_M_step_16 rfl rfl kz) ?_
  refine jx_of (fun _ _ kz => jw_iconst 1 d_M_step_17 (by decide) kz) ?_
  refine jx_of (fun _ _ kz => jw_iadd d_M_step_18 kz) ?_
  rw [show ((nI n) + 1 : Int32) = nI (n + 1) from nI_1 _]
  refine jx_of (fun _ _ kz => jw_istore d_M_step_19 (Nat.le_of_ble_eq_true rfl) kz) ?_
  dsimp only [List.set]
  refine jx_of (fun _ _ kz => jw_iload d_M_step_21 rfl kz) ?_
  refine jx_callS (z_M_parts (d + 4) ((o n))  hok.1) mt_M_parts ml_M_101 sm_M_parts d_M_step_23 rfl rfl (Nat.le_of_ble_eq_true rfl) ?_
  rintro _ _ ⟨rfl, rfl⟩
  refine jx_eq (st2 := [.inl (nI (pN (o n)))]) rfl rfl rfl ?_
  rw [show (nI (pN (o n)) : Int32) = 1 from (by rw [hpn]; rfl)]
  refine jx_of (fun _ _ kz => jw_iconst 2 d_M_step_26 (by decide) kz) ?_
  refine jx_icmp_ne 40 d_M_step_27 (by decide) (fun _ => ?_) (fun h => absurd h (by decide))
  refine jx_of (fun _ _ kz => jw_iconst (-1) d_M_step_40 (by decide) kz) ?_
  refine jx_of (fun _ _ kz => jw_istore d_M_step_41 (Nat.le_of_ble_eq_true rfl) kz) ?_
  dsimp only [List.set]
  refine jx_of (fun _ _ kz => jw_bipush 12 d_M_step_43 (by decide) kz) ?_
  refine jx_of (fun _ _ kz => jw_iload_n 1 d_M_step_45 rfl rfl kz) ?_
  refine jx_of (fun _ _ kz => jw_imul d_M_step_46 kz) ?_
  rw [show (12 * (nI t) : Int32) = nI (12 * t) from n12 t]
  refine jx_of (fun _ _ kz => jw_iload d_M_step_47 rfl kz) ?_
  refine jx_of (fun _ _ kz => jw_iadd d_M_step_49 kz) ?_
  rw [show ((nI (12 * t)) + (nI (n + 1)) : Int32) = nI (12 * t + (n + 1)) from nI_add _ _]
  refine jx_of (fun _ _ kz => jw_istore d_M_step_50 (Nat.le_of_ble_eq_true rfl) kz) ?_
  dsimp only [List.set]
  refine jx_of (fun _ _ kz => jw_bipush 12 d_M_step_52 (by decide) kz) ?_
  refine jx_of (fun _ _ kz => jw_iload_n 1 d_M_step_54 rfl rfl kz) ?_
  refine jx_of (fun _ _ kz => jw_imul d_M_step_55 kz) ?_
  rw [show (12 * (nI t) : Int32) = nI (12 * t) from n12 t]
  refine jx_of (fun _ _ kz => jw_iload d_M_step_56 rfl kz) ?_
  refine jx_of (fun _ _ kz => jw_iadd d_M_step_58 kz) ?_
  refine jx_of (fun _ _ kz => jw_istore d_M_step_59 (Nat.le_of_ble_eq_true rfl) kz) ?_
  dsimp only [List.set]
  refine jx_of (fun _ _ kz => jw_iload d_M_step_61 rfl kz) ?_
  refine jx_if_ne 105 d_M_step_63 (by decide) (fun h => absurd h (by decide)) (fun _ => ?_)
  refine jx_of (fun _ _ kz => jw_aload_n 0 d_M_step_66 rfl rfl kz) ?_
  refine jx_of (fun _ _ kz => jw_getPe (some (40, 0)) fl_M_41 d_M_step_67 rfl rfl (by simp [me_I_sI, me_I_sP, me_I_nx, me_P_sI, me_P_sP, me_P_nx, me_N_sI, me_N_sP, me_N_nx, me_L_sI, me_L_sP, me_L_nx, show me_P M 7 0 11 = some (40, 0) from hI.1.1 (7, 0, 11, 40, 0) (by decide)]) kz) ?_
  refine jx_of (fun _ _ kz => jw_iload_n 3 d_M_step_70 rfl rfl kz) ?_
  refine jx_of (fun _ _ kz => jw_ialde (me_I M 40 0 x) d_M_step_71 rfl rfl (by rw [show me_L _ 40 0 = 144 from (by simp [me_I_sI, me_I_sP, me_I_nx, me_P_sI, me_P_sP, me_P_nx, me_N_sI, me_N_sP, me_N_nx, me_L_sI, me_L_sP, me_L_nx, show me_L M 40 0 = 144 from hI.1.2 (40, 0, 144) (by decide)])]; exact (vp_in_nI hx (by decide))) (by rw [nI_clamp (by omega)] <;> simp [me_I_sI]) kz) ?_
  refine jx_if_ne 95 d_M_step_72 (by decide) (fun b_72 => ?_) (fun b_72 => ?_)
  · skip
    refine jx_of (fun _ _ kz => jw_aload_n 0 d_M_step_95 rfl rfl kz) ?_
    refine jx_of (fun _ _ kz => jw_getPe (some (40, 0)) fl_M_41 d_M_step_96 rfl rfl (by simp [me_I_sI, me_I_sP, me_I_nx, me_P_sI, me_P_sP, me_P_nx, me_N_sI, me_N_sP, me_N_nx, me_L_sI, me_L_sP, me_L_nx, show me_P M 7 0 11 = some (40, 0) from hI.1.1 (7, 0, 11, 40, 0) (by decide)]) kz) ?_
    refine jx_of (fun _ _ kz => jw_iload_n 3 d_M_step_99 rfl rfl kz) ?_
    refine jx_of (fun _ _ kz => jw_iconst 1 d_M_step_100 (by decide) kz) ?_
    refine jx_of (fun _ _ kz => jw_iast d_M_step_101 rfl rfl (by rw [show me_L _ 40 0 = 144 from (by simp [me_I_sI, me_I_sP, me_I_nx, me_P_sI, me_P_sP, me_P_nx, me_N_sI, me_N_sP, me_N_nx, me_L_sI, me_L_sP, me_L_nx, show me_L M 40 0 = 144 from hI.1.2 (40, 0, 144) (by decide)])]; exact (vp_in_nI hx (by decide))) kz) ?_
    rw [nI_clamp (by omega)]
    refine jx_of (fun _ _ kz => jw_iload d_M_step_102 rfl kz) ?_
    refine jx_iret d_M_step_104 rfl ?_
    first | exact ⟨rfl, (iv_sI (iv_rf hI) (by unfold hl; omega))⟩ | exact ⟨rfl, (iv_sI (iv_sI (iv_rf hI) (by unfold hl; omega)) (by unfold hl; omega))⟩
  · skip
    refine jx_of (fun _ _ kz => jw_iload d_M_step_75 rfl kz) ?_
    refine jx_of (fun _ _ kz => jw_bipush 13 d_M_step_77 (by decide) kz) ?_
    refine jx_icmp_ne 95 d_M_step_79 (by decide) (fun b_79 => ?_) (fun b_79 => ?_)
    · skip
      refine jx_of (fun _ _ kz => jw_aload_n 0 d_M_step_95 rfl rfl kz) ?_
      refine jx_of (fun _ _ kz => jw_getPe (some (40, 0)) fl_M_41 d_M_step_96 rfl rfl (by simp [me_I_sI, me_I_sP, me_I_nx, me_P_sI, me_P_sP, me_P_nx, me_N_sI, me_N_sP, me_N_nx, me_L_sI, me_L_sP, me_L_nx, show me_P M 7 0 11 = some (40, 0) from hI.1.1 (7, 0, 11, 40, 0) (by decide)]) kz) ?_
      refine jx_of (fun _ _ kz => jw_iload_n 3 d_M_step_99 rfl rfl kz) ?_
      refine jx_of (fun _ _ kz => jw_iconst 1 d_M_step_100 (by decide) kz) ?_
      refine jx_of (fun _ _ kz => jw_iast d_M_step_101 rfl rfl (by rw [show me_L _ 40 0 = 144 from (by simp [me_I_sI, me_I_sP, me_I_nx, me_P_sI, me_P_sP, me_P_nx, me_N_sI, me_N_sP, me_N_nx, me_L_sI, me_L_sP, me_L_nx, show me_L M 40 0 = 144 from hI.1.2 (40, 0, 144) (by decide)])]; exact (vp_in_nI hx (by decide))) kz) ?_
      rw [nI_clamp (by omega)]
      refine jx_of (fun _ _ kz => jw_iload d_M_step_102 rfl kz) ?_
      refine jx_iret d_M_step_104 rfl ?_
      first | exact ⟨rfl, (iv_sI (iv_rf hI) (by unfold hl; omega))⟩ | exact ⟨rfl, (iv_sI (iv_sI (iv_rf hI) (by unfold hl; omega)) (by unfold hl; omega))⟩
    · skip
      refine jx_of (fun _ _ kz => jw_aload_n 0 d_M_step_82 rfl rfl kz) ?_
      refine jx_of (fun _ _ kz => jw_getPe (some (42, 0)) fl_M_47 d_M_step_83 rfl rfl (by simp [me_I_sI, me_I_sP, me_I_nx, me_P_sI, me_P_sP, me_P_nx, me_N_sI, me_N_sP, me_N_nx, me_L_sI, me_L_sP, me_L_nx, show me_P M 7 0 13 = some (42, 0) from hI.1.1 (7, 0, 13, 42, 0) (by decide)]) kz) ?_
      refine jx_of (fun _ _ kz => jw_iload_n 3 d_M_step_86 rfl rfl kz) ?_
      refine jx_of (fun _ _ kz => jw_aload_n 0 d_M_step_87 rfl rfl kz) ?_
      refine jx_of (fun _ _ kz => jw_getIe (me_I M 7 0 29) fl_M_162 d_M_step_88 rfl rfl (by simp [me_I_sI]) kz) ?_
      refine jx_of (fun _ _ kz => jw_iload d_M_step_91 rfl kz) ?_
      refine jx_of (fun _ _ kz => jw_iadd d_M_step_93 kz) ?_
      refine jx_of (fun _ _ kz => jw_iast d_M_step_94 rfl rfl (by rw [show me_L _ 42 0 = 144 from (by simp [me_I_sI, me_I_sP, me_I_nx, me_P_sI, me_P_sP, me_P_nx, me_N_sI, me_N_sP, me_N_nx, me_L_sI, me_L_sP, me_L_nx, show me_L M 42 0 = 144 from hI.1.2 (42, 0, 144) (by decide)])]; exact (vp_in_nI hx (by decide))) kz) ?_
      rw [nI_clamp (by omega)]
      refine jx_of (fun _ _ kz => jw_aload_n 0 d_M_step_95 rfl rfl kz) ?_
      refine jx_of (fun _ _ kz => jw_getPe (some (40, 0)) fl_M_41 d_M_step_96 rfl rfl (by simp [me_I_sI, me_I_sP, me_I_nx, me_P_sI, me_P_sP, me_P_nx, me_N_sI, me_N_sP, me_N_nx, me_L_sI, me_L_sP, me_L_nx, show me_P M 7 0 11 = some (40, 0) from hI.1.1 (7, 0, 11, 40, 0) (by decide)]) kz) ?_
      refine jx_of (fun _ _ kz => jw_iload_n 3 d_M_step_99 rfl rfl kz) ?_
      refine jx_of (fun _ _ kz => jw_iconst 1 d_M_step_100 (by decide) kz) ?_
      refine jx_of (fun _ _ kz => jw_iast d_M_step_101 rfl rfl (by rw [show me_L _ 40 0 = 144 from (by simp [me_I_sI, me_I_sP, me_I_nx, me_P_sI, me_P_sP, me_P_nx, me_N_sI, me_N_sP, me_N_nx, me_L_sI, me_L_sP, me_L_nx, show me_L M 40 0 = 144 from hI.1.2 (40, 0, 144) (by decide)])]; exact (vp_in_nI hx (by decide))) kz) ?_
      rw [nI_clamp (by omega)]
      refine jx_of (fun _ _ kz => jw_iload d_M_step_102 rfl kz) ?_
      refine jx_iret d_M_step_104 rfl ?_
      first | exact ⟨rfl, (iv_sI (iv_rf hI) (by unfold hl; omega))⟩ | exact ⟨rfl, (iv_sI (iv_sI (iv_rf hI) (by unfold hl; omega)) (by unfold hl; omega))⟩
set_option maxRecDepth 20000 in
set_option maxHeartbeats 4000000 in
theorem z_M_step_02 {G : Gt} {M : Me} (d : Nat) (t : Nat) (n : Nat) (x : Nat) (p : Nat) (len : Nat) (o : Nat → Nat) (np : Nat) (nt : Nat) (X : List Nat) (hI : mI M np nt X) (ht : t < nt) (hp : tP M t p len o) (hn : n < len) (hx : x < 144) (hpn : pN (o n) = 2) : sx G yt_M_step yn_M_step (d + 7) [.inr (some (7, 0)), .inl (nI t), .inl (nI n), .inl (nI x), .inl 0] M (fun r M' => r = some (.inl (nI (n + 1))) ∧ iv np nt nt X M M') := by
  refine sx_of (k := 8) (lc := [some (.inr (some (7, 0))), some (.inl (nI t)), some (.inl (nI n)), some (.inl (nI x)), some (.inl 0), none, none, none, none, none, none, none, none]) mt_M_step (Nat.le_of_ble_eq_true rfl) rfl ?_
  have hok := hp.2.2.2.2.1 n hn
  obtain ⟨A, hA⟩ : ∃ A, me_I M 31 0 (12 * p + n) = A := ⟨_, rfl⟩
  have hnt := hI.2.2.1.2.1
  have hle := hp.2.2.1
  have hc1 := ch1 hp.2.2 hn (by omega)
  refine jx_of (fun _ _ kz => jw_aload_n 0 d_M_step_0 rfl rfl kz) ?_
  refine jx_of (fun _ _ kz => jw_iload_n 1 d_M_step_1 rfl rfl kz) ?_
  refine jx_of (fun _ _ kz => jw_iload_n 2 d_M_step_2 rfl rfl kz) ?_
  refine jx_callV (z_M_opOf (d + 5) t n p hI.1  (by omega) (by omega) hp.1 hp.2.1) mt_M_opOf cf_M rfl rfl ml_M_108 im_M_opOf se_M_opOf d_M_step_3 rfl rfl (Nat.le_of_ble_eq_true rfl) ?_
  rintro _ _ ⟨rfl, rfl⟩
  refine jx_eq (st2 := [.inl (me_I M 30 0 (12 * p + n))]) rfl rfl rfl ?_
  rw [show (me_I M 30 0 (12 * p + n) : Int32) = nI (o n) from hok.2.1]
  refine jx_of (fun _ _ kz => jw_istore d_M_step_6 (Nat.le_of_ble_eq_true rfl) kz) ?_
  dsimp only [List.set]
  refine jx_of (fun _ _ kz => jw_aload_n 0 d_M_step_8 rfl rfl kz) ?_
  refine jx_of (fun _ _ kz => jw_iload_n 1 d_M_step_9 rfl rfl kz) ?_
  refine jx_of (fun _ _ kz => jw_iload_n 2 d_M_step_10 rfl rfl kz) ?_
  refine jx_callV (z_M_argOf (d + 5) t n p hI.1  (by omega) (by omega) hp.1 hp.2.1) mt_M_argOf cf_M rfl rfl ml_M_132 im_M_argOf se_M_argOf d_M_step_11 rfl rfl (Nat.le_of_ble_eq_true rfl) ?_
  rintro _ _ ⟨rfl, rfl⟩
  refine jx_eq (st2 := [.inl (me_I M 31 0 (12 * p + n))]) rfl rfl rfl ?_
  rw [show (me_I M 31 0 (12 * p + n) : Int32) = A from hA]
  refine jx_of (fun _ _ kz => jw_istore d_M_step_14 (Nat.le_of_ble_eq_true rfl) kz) ?_
  dsimp only [List.set]
  refine jx_of (fun _ _ kz => jw_iload_n 2 d_M_step_16 rfl rfl kz) ?_
  refine jx_of (fun _ _ kz => jw_iconst 1 d_M_step_17 (by decide) kz) ?_
  refine jx_of (fun _ _ kz => jw_iadd d_M_step_18 kz) ?_
  rw [show ((nI n) + 1 : Int32) = nI (n + 1) from nI_1 _]
  refine jx_of (fun _ _ kz => jw_istore d_M_step_19 (Nat.le_of_ble_eq_true rfl) kz) ?_
  dsimp only [List.set]
  refine jx_of (fun _ _ kz => jw_iload d_M_step_21 rfl kz) ?_
  refine jx_callS (z_M_parts (d + 4) ((o n))  hok.1) mt_M_parts ml_M_101 sm_M_parts d_M_step_23 rfl rfl (Nat.le_of_ble_eq_true rfl) ?_
  rintro _ _ ⟨rfl, rfl⟩
  refine jx_eq (st2 := [.inl (nI (pN (o n)))]) rfl rfl rfl ?_
  rw [show (nI (pN (o n)) : Int32) = 2 from (by rw [hpn]; rfl)]
  refine jx_of (fun _ _ kz => jw_iconst 2 d_M_step_26 (by decide) kz) ?_
  refine jx_icmp_ne 40 d_M_step_27 (by decide) (fun h => absurd h (by decide)) (fun _ => ?_)
  refine jx_of (fun _ _ kz => jw_aload_n 0 d_M_step_30 rfl rfl kz) ?_
  refine jx_of (fun _ _ kz => jw_iload_n 1 d_M_step_31 rfl rfl kz) ?_
  refine jx_of (fun _ _ kz => jw_iload d_M_step_32 rfl kz) ?_
  refine jx_callV (z_M_end (d + 3) t ((n + 1)) p len o hI.1  (by omega) hp.1 hp.2.1 hp.2.2 hc1) mt_M_end cf_M rfl rfl ml_M_141 im_M_end se_M_end d_M_step_34 rfl rfl (Nat.le_of_ble_eq_true rfl) ?_
  rintro _ _ ⟨⟨e, he1, he2, he3, rfl⟩, rfl⟩
  have hc2 := ch2 hp.2.2 hn hpn he2 he3
  refine jx_eq (st2 := [.inl (nI e)]) rfl rfl rfl ?_
  refine jx_of (fun _ _ kz => jw_goto 41 d_M_step_37 (by decide) kz) ?_
  refine jx_of (fun _ _ kz => jw_istore d_M_step_41 (Nat.le_of_ble_eq_true rfl) kz) ?_
  dsimp only [List.set]
  refine jx_of (fun _ _ kz => jw_bipush 12 d_M_step_43 (by decide) kz) ?_
  refine jx_of (fun _ _ kz => jw_iload_n 1 d_M_step_45 rfl rfl kz) ?_
  refine jx_of (fun _ _ kz => jw_imul d_M_step_46 kz) ?_
  rw [show (12 * (nI t) : Int32) = nI (12 * t) from n12 t]
  refine jx_of (fun _ _ kz => jw_iload d_M_step_47 rfl kz) ?_
  refine jx_of (fun _ _ kz => jw_iadd d_M_step_49 kz) ?_
  rw [show ((nI (12 * t)) + (nI (n + 1)) : Int32) = nI (12 * t + (n + 1)) from nI_add _ _]
  refine jx_of (fun _ _ kz => jw_istore d_M_step_50 (Nat.le_of_ble_eq_true rfl) kz) ?_
  dsimp only [List.set]
  refine jx_of (fun _ _ kz => jw_bipush 12 d_M_step_52 (by decide) kz) ?_
  refine jx_of (fun _ _ kz => jw_iload_n 1 d_M_step_54 rfl rfl kz) ?_
  refine jx_of (fun _ _ kz => jw_imul d_M_step_55 kz) ?_
  rw [show (12 * (nI t) : Int32) = nI (12 * t) from n12 t]
  refine jx_of (fun _ _ kz => jw_iload d_M_step_56 rfl kz) ?_
  refine jx_of (fun _ _ kz => jw_iadd d_M_step_58 kz) ?_
  rw [show ((nI (12 * t)) + (nI e) : Int32) = nI (12 * t + e) from nI_add _ _]
  refine jx_of (fun _ _ kz => jw_istore d_M_step_59 (Nat.le_of_ble_eq_true rfl) kz) ?_
  dsimp only [List.set]
  refine jx_of (fun _ _ kz => jw_iload d_M_step_61 rfl kz) ?_
  refine jx_if_ne 105 d_M_step_63 (by decide) (fun h => absurd h (by decide)) (fun _ => ?_)
  refine jx_of (fun _ _ kz => jw_aload_n 0 d_M_step_66 rfl rfl kz) ?_
  refine jx_of (fun _ _ kz => jw_getPe (some (40, 0)) fl_M_41 d_M_step_67 rfl rfl (by simp [me_I_sI, me_I_sP, me_I_nx, me_P_sI, me_P_sP, me_P_nx, me_N_sI, me_N_sP, me_N_nx, me_L_sI, me_L_sP, me_L_nx, show me_P M 7 0 11 = some (40, 0) from hI.1.1 (7, 0, 11, 40, 0) (by decide)]) kz) ?_
  refine jx_of (fun _ _ kz => jw_iload_n 3 d_M_step_70 rfl rfl kz) ?_
  refine jx_of (fun _ _ kz => jw_ialde (me_I M 40 0 x) d_M_step_71 rfl rfl (by rw [show me_L _ 40 0 = 144 from (by simp [me_I_sI, me_I_sP, me_I_nx, me_P_sI, me_P_sP, me_P_nx, me_N_sI, me_N_sP, me_N_nx, me_L_sI, me_L_sP, me_L_nx, show me_L M 40 0 = 144 from hI.1.2 (40, 0, 144) (by decide)])]; exact (vp_in_nI hx (by decide))) (by rw [nI_clamp (by omega)] <;> simp [me_I_sI]) kz) ?_
  refine jx_if_ne 95 d_M_step_72 (by decide) (fun b_72 => ?_) (fun b_72 => ?_)
  · skip
    refine jx_of (fun _ _ kz => jw_aload_n 0 d_M_step_95 rfl rfl kz) ?_
    refine jx_of (fun _ _ kz => jw_getPe (some (40, 0)) fl_M_41 d_M_step_96 rfl rfl (by simp [me_I_sI, me_I_sP, me_I_nx, me_P_sI, me_P_sP, me_P_nx, me_N_sI, me_N_sP, me_N_nx, me_L_sI, me_L_sP, me_L_nx, show me_P M 7 0 11 = some (40, 0) from hI.1.1 (7, 0, 11, 40, 0) (by decide)]) kz) ?_
    refine jx_of (fun _ _ kz => jw_iload_n 3 d_M_step_99 rfl rfl kz) ?_
    refine jx_of (fun _ _ kz => jw_iconst 1 d_M_step_100 (by decide) kz) ?_
    refine jx_of (fun _ _ kz => jw_iast d_M_step_101 rfl rfl (by rw [show me_L _ 40 0 = 144 from (by simp [me_I_sI, me_I_sP, me_I_nx, me_P_sI, me_P_sP, me_P_nx, me_N_sI, me_N_sP, me_N_nx, me_L_sI, me_L_sP, me_L_nx, show me_L M 40 0 = 144 from hI.1.2 (40, 0, 144) (by decide)])]; exact (vp_in_nI hx (by decide))) kz) ?_
    rw [nI_clamp (by omega)]
    refine jx_of (fun _ _ kz => jw_iload d_M_step_102 rfl kz) ?_
    refine jx_iret d_M_step_104 rfl ?_
    first | exact ⟨rfl, (iv_sI (iv_rf hI) (by unfold hl; omega))⟩ | exact ⟨rfl, (iv_sI (iv_sI (iv_rf hI) (by unfold hl; omega)) (by unfold hl; omega))⟩
  · skip
    refine jx_of (fun _ _ kz => jw_iload d_M_step_75 rfl kz) ?_
    refine jx_of (fun _ _ kz => jw_bipush 13 d_M_step_77 (by decide) kz) ?_
    refine jx_icmp_ne 95 d_M_step_79 (by decide) (fun b_79 => ?_) (fun b_79 => ?_)
    · skip
      refine jx_of (fun _ _ kz => jw_aload_n 0 d_M_step_95 rfl rfl kz) ?_
      refine jx_of (fun _ _ kz => jw_getPe (some (40, 0)) fl_M_41 d_M_step_96 rfl rfl (by simp [me_I_sI, me_I_sP, me_I_nx, me_P_sI, me_P_sP, me_P_nx, me_N_sI, me_N_sP, me_N_nx, me_L_sI, me_L_sP, me_L_nx, show me_P M 7 0 11 = some (40, 0) from hI.1.1 (7, 0, 11, 40, 0) (by decide)]) kz) ?_
      refine jx_of (fun _ _ kz => jw_iload_n 3 d_M_step_99 rfl rfl kz) ?_
      refine jx_of (fun _ _ kz => jw_iconst 1 d_M_step_100 (by decide) kz) ?_
      refine jx_of (fun _ _ kz => jw_iast d_M_step_101 rfl rfl (by rw [show me_L _ 40 0 = 144 from (by simp [me_I_sI, me_I_sP, me_I_nx, me_P_sI, me_P_sP, me_P_nx, me_N_sI, me_N_sP, me_N_nx, me_L_sI, me_L_sP, me_L_nx, show me_L M 40 0 = 144 from hI.1.2 (40, 0, 144) (by decide)])]; exact (vp_in_nI hx (by decide))) kz) ?_
      rw [nI_clamp (by omega)]
      refine jx_of (fun _ _ kz => jw_iload d_M_step_102 rfl kz) ?_
      refine jx_iret d_M_step_104 rfl ?_
      first | exact ⟨rfl, (iv_sI (iv_rf hI) (by unfold hl; omega))⟩ | exact ⟨rfl, (iv_sI (iv_sI (iv_rf hI) (by unfold hl; omega)) (by unfold hl; omega))⟩
    · skip
      refine jx_of (fun _ _ kz => jw_aload_n 0 d_M_step_82 rfl rfl kz) ?_
      refine jx_of (fun _ _ kz => jw_getPe (some (42, 0)) fl_M_47 d_M_step_83 rfl rfl (by simp [me_I_sI, me_I_sP, me_I_nx, me_P_sI, me_P_sP, me_P_nx, me_N_sI, me_N_sP, me_N_nx, me_L_sI, me_L_sP, me_L_nx, show me_P M 7 0 13 = some (42, 0) from hI.1.1 (7, 0, 13, 42, 0) (by decide)]) kz) ?_
      refine jx_of (fun _ _ kz => jw_iload_n 3 d_M_step_86 rfl rfl kz) ?_
      refine jx_of (fun _ _ kz => jw_aload_n 0 d_M_step_87 rfl rfl kz) ?_
      refine jx_of (fun _ _ kz => jw_getIe (me_I M 7 0 29) fl_M_162 d_M_step_88 rfl rfl (by simp [me_I_sI]) kz) ?_
      refine jx_of (fun _ _ kz => jw_iload d_M_step_91 rfl kz) ?_
      refine jx_of (fun _ _ kz => jw_iadd d_M_step_93 kz) ?_
      refine jx_of (fun _ _ kz => jw_iast d_M_step_94 rfl rfl (by rw [show me_L _ 42 0 = 144 from (by simp [me_I_sI, me_I_sP, me_I_nx, me_P_sI, me_P_sP, me_P_nx, me_N_sI, me_N_sP, me_N_nx, me_L_sI, me_L_sP, me_L_nx, show me_L M 42 0 = 144 from hI.1.2 (42, 0, 144) (by decide)])]; exact (vp_in_nI hx (by decide))) kz) ?_
      rw [nI_clamp (by omega)]
      refine jx_of (fun _ _ kz => jw_aload_n 0 d_M_step_95 rfl rfl kz) ?_
      refine jx_of (fun _ _ kz => jw_getPe (some (40, 0)) fl_M_41 d_M_step_96 rfl rfl (by simp [me_I_sI, me_I_sP, me_I_nx, me_P_sI, me_P_sP, me_P_nx, me_N_sI, me_N_sP, me_N_nx, me_L_sI, me_L_sP, me_L_nx, show me_P M 7 0 11 = some (40, 0) from hI.1.1 (7, 0, 11, 40, 0) (by decide)]) kz) ?_
      refine jx_of (fun _ _ kz => jw_iload_n 3 d_M_step_99 rfl rfl kz) ?_
      refine jx_of (fun _ _ kz => jw_iconst 1 d_M_step_100 (by decide) kz) ?_
      refine jx_of (fun _ _ kz => jw_iast d_M_step_101 rfl rfl (by rw [show me_L _ 40 0 = 144 from (by simp [me_I_sI, me_I_sP, me_I_nx, me_P_sI, me_P_sP, me_P_nx, me_N_sI, me_N_sP, me_N_nx, me_L_sI, me_L_sP, me_L_nx, show me_L M 40 0 = 144 from hI.1.2 (40, 0, 144) (by decide)])]; exact (vp_in_nI hx (by decide))) kz) ?_
      rw [nI_clamp (by omega)]
      refine jx_of (fun _ _ kz => jw_iload d_M_step_102 rfl kz) ?_
      refine jx_iret d_M_step_104 rfl ?_
      first | exact ⟨rfl, (iv_sI (iv_rf hI) (by unfold hl; omega))⟩ | exact ⟨rfl, (iv_sI (iv_sI (iv_rf hI) (by unfold hl; omega)) (by unfold hl; omega))⟩
set_option maxRecDepth 20000 in
set_option maxHeartbeats 4000000 in
theorem z_M_step_11 {G : Gt} {M : Me} (d : Nat) (t : Nat) (n : Nat) (x : Nat) (p : Nat) (len : Nat) (o : Nat → Nat) (np : Nat) (nt : Nat) (X : List Nat) (hI : mI M np nt X) (ht : t < nt) (hp : tP M t p len o) (hn : n < len) (hx : x < 144) (hpn : pN (o n) = 1) : sx G yt_M_step yn_M_step (d + 7) [.inr (some (7, 0)), .inl (nI t), .inl (nI n), .inl (nI x), .inl 1] M (fun r M' => r = some (.inl (-1)) ∧ iv np nt nt X M M') := by
  refine sx_of (k := 8) (lc := [some (.inr (some (7, 0))), some (.inl (nI t)), some (.inl (nI n)), some (.inl (nI x)), some (.inl 1), none, none, none, none, none, none, none, none]) mt_M_step (Nat.le_of_ble_eq_true rfl) rfl ?_
  have hok := hp.2.2.2.2.1 n hn
  obtain ⟨A, hA⟩ : ∃ A, me_I M 31 0 (12 * p + n) = A := ⟨_, rfl⟩
  have hnt := hI.2.2.1.2.1
  have hle := hp.2.2.1
  have hc1 := ch1 hp.2.2 hn (by omega)
  refine jx_of (fun _ _ kz => jw_aload_n 0 d_M_step_0 rfl rfl kz) ?_
  refine jx_of (fun _ _ kz => jw_iload_n 1 d_M_step_1 rfl rfl kz) ?_
  refine jx_of (fun _ _ kz => jw_iload_n 2 d_M_step_2 rfl rfl kz) ?_
  refine jx_callV (z_M_opOf (d + 5) t n p hI.1  (by omega) (by omega) hp.1 hp.2.1) mt_M_opOf cf_M rfl rfl ml_M_108 im_M_opOf se_M_opOf d_M_step_3 rfl rfl (Nat.le_of_ble_eq_true rfl) ?_
  rintro _ _ ⟨rfl, rfl⟩
  refine jx_eq (st2 := [.inl (me_I M 30 0 (12 * p + n))]) rfl rfl rfl ?_
  rw [show (me_I M 30 0 (12 * p + n) : Int32) = nI (o n) from hok.2.1]
  refine jx_of (fun _ _ kz => jw_istore d_M_step_6 (Nat.le_of_ble_eq_true rfl) kz) ?_
  dsimp only [List.set]
  refine jx_of (fun _ _ kz => jw_aload_n 0 d_M_step_8 rfl rfl kz) ?_
  refine jx_of (fun _ _ kz => jw_iload_n 1 d_M_step_9 rfl rfl kz) ?_
  refine jx_of (fun _ _ kz => jw_iload_n 2 d_M_step_10 rfl rfl kz) ?_
  refine jx_callV (z_M_argOf (d + 5) t n p hI.1  (by omega) (by omega) hp.1 hp.2.1) mt_M_argOf cf_M rfl rfl ml_M_132 im_M_argOf se_M_argOf d_M_step_11 rfl rfl (Nat.le_of_ble_eq_true rfl) ?_
  rintro _ _ ⟨rfl, rfl⟩
  refine jx_eq (st2 := [.inl (me_I M 31 0 (12 * p + n))]) rfl rfl rfl ?_
  rw [show (me_I M 31 0 (12 * p + n) : Int32) = A from hA]
  refine jx_of (fun _ _ kz => jw_istore d_M_step_14 (Nat.le_of_ble_eq_true rfl) kz) ?_
  dsimp only [List.set]
  refine jx_of (fun _ _ kz => jw_iload_n 2 d_M_step_16 rfl rfl kz) ?_
  refine jx_of (fun _ _ kz => jw_iconst 1 d_M_step_17 (by decide) kz) ?_
  refine jx_of (fun _ _ kz => jw_iadd d_M_step_18 kz) ?_
  rw [show ((nI n) + 1 : Int32) = nI (n + 1) from nI_1 _]
  refine jx_of (fun _ _ kz => jw_istore d_M_step_19 (Nat.le_of_ble_eq_true rfl) kz) ?_
  dsimp only [List.set]
  refine jx_of (fun _ _ kz => jw_iload d_M_step_21 rfl kz) ?_
  refine jx_callS (z_M_parts (d + 4) ((o n))  hok.1) mt_M_parts ml_M_101 sm_M_parts d_M_step_23 rfl rfl (Nat.le_of_ble_eq_true rfl) ?_
  rintro _ _ ⟨rfl, rfl⟩
  refine jx_eq (st2 := [.inl (nI (pN (o n)))]) rfl rfl rfl ?_
  rw [show (nI (pN (o n)) : Int32) = 1 from (by rw [hpn]; rfl)]
  refine jx_of (fun _ _ kz => jw_iconst 2 d_M_step_26 (by decide) kz) ?_
  refine jx_icmp_ne 40 d_M_step_27 (by decide) (fun _ => ?_) (fun h => absurd h (by decide))
  refine jx_of (fun _ _ kz => jw_iconst (-1) d_M_step_40 (by decide) kz) ?_
  refine jx_of (fun _ _ kz => jw_istore d_M_step_41 (Nat.le_of_ble_eq_true rfl) kz) ?_
  dsimp only [List.set]
  refine jx_of (fun _ _ kz => jw_bipush 12 d_M_step_43 (by decide) kz) ?_
  refine jx_of (fun _ _ kz => jw_iload_n 1 d_M_step_45 rfl rfl kz) ?_
  refine jx_of (fun _ _ kz => jw_imul d_M_step_46 kz) ?_
  rw [show (12 * (nI t) : Int32) = nI (12 * t) from n12 t]
  refine jx_of (fun _ _ kz => jw_iload d_M_step_47 rfl kz) ?_
  refine jx_of (fun _ _ kz => jw_iadd d_M_step_49 kz) ?_
  rw [show ((nI (12 * t)) + (nI (n + 1)) : Int32) = nI (12 * t + (n + 1)) from nI_add _ _]
  refine jx_of (fun _ _ kz => jw_istore d_M_step_50 (Nat.le_of_ble_eq_true rfl) kz) ?_
  dsimp only [List.set]
  refine jx_of (fun _ _ kz => jw_bipush 12 d_M_step_52 (by decide) kz) ?_
  refine jx_of (fun _ _ kz => jw_iload_n 1 d_M_step_54 rfl rfl kz) ?_
  refine jx_of (fun _ _ kz => jw_imul d_M_step_55 kz) ?_
  rw [show (12 * (nI t) : Int32) = nI (12 * t) from n12 t]
  refine jx_of (fun _ _ kz => jw_iload d_M_step_56 rfl kz) ?_
  refine jx_of (fun _ _ kz => jw_iadd d_M_step_58 kz) ?_
  refine jx_of (fun _ _ kz => jw_istore d_M_step_59 (Nat.le_of_ble_eq_true rfl) kz) ?_
  dsimp only [List.set]
  refine jx_of (fun _ _ kz => jw_iload d_M_step_61 rfl kz) ?_
  refine jx_if_ne 105 d_M_step_63 (by decide) (fun _ => ?_) (fun h => absurd h (by decide))
  refine jx_of (fun _ _ kz => jw_iload d_M_step_105 rfl kz) ?_
  refine jx_of (fun _ _ kz => jw_iconst 2 d_M_step_107 (by decide) kz) ?_
  refine jx_icmp_ne 245 d_M_step_108 (by decide) (fun _ => ?_) (fun h => absurd h (by decide))
  refine jx_of (fun _ _ kz => jw_aload_n 0 d_M_step_245 rfl rfl kz) ?_
  refine jx_of (fun _ _ kz => jw_getIe (me_I M 7 0 34) fl_M_151 d_M_step_246 rfl rfl rfl kz) ?_
  refine jx_of (fun _ _ kz => jw_iconst 3 d_M_step_249 (by decide) kz) ?_
  refine jx_icmp_ne 317 d_M_step_250 (by decide) (fun b_250 => ?_) (fun b_250 => ?_)
  · skip
    refine jx_of (fun _ _ kz => jw_aload_n 0 d_M_step_317 rfl rfl kz) ?_
    refine jx_of (fun _ _ kz => jw_getIe (me_I M 7 0 34) fl_M_151 d_M_step_318 rfl rfl rfl kz) ?_
    refine jx_of (fun _ _ kz => jw_iconst 2 d_M_step_321 (by decide) kz) ?_
    refine jx_icmp_ne 329 d_M_step_322 (by decide) (fun b_322 => ?_) (fun b_322 => ?_)
    · skip
      refine jx_of (fun _ _ kz => jw_iconst 0 d_M_step_329 (by decide) kz) ?_
      refine jx_of (fun _ _ kz => jw_istore d_M_step_330 (Nat.le_of_ble_eq_true rfl) kz) ?_
      dsimp only [List.set]
      refine jx_of (fun _ _ kz => jw_iload d_M_step_332 rfl kz) ?_
      refine jx_of (fun _ _ kz => jw_bipush 11 d_M_step_334 (by decide) kz) ?_
      refine jx_icmp_eq 363 d_M_step_336 (by decide) (fun b_336 => ?_) (fun b_336 => ?_)
      · skip
        refine jx_of (fun _ _ kz => jw_iload d_M_step_363 rfl kz) ?_
        refine jx_iret d_M_step_365 rfl ?_
        exact ⟨rfl, by first | exact h1 | exact iv_sI (iv_tr h1 h2) (by unfold hl; omega) | exact iv_sI h1 (by unfold hl; omega) | exact iv_rf hI⟩
      · skip
        refine jx_of (fun _ _ kz => jw_iload d_M_step_339 rfl kz) ?_
        refine jx_of (fun _ _ kz => jw_bipush 10 d_M_step_341 (by decide) kz) ?_
        refine jx_icmp_ne 351 d_M_step_343 (by decide) (fun b_343 => ?_) (fun b_343 => ?_)
        · skip
          refine jx_of (fun _ _ kz => jw_iload d_M_step_351 rfl kz) ?_
          refine jx_of (fun _ _ kz => jw_bipush 12 d_M_step_353 (by decide) kz) ?_
          refine jx_icmp_ne 366 d_M_step_355 (by decide) (fun b_355 => ?_) (fun b_355 => ?_)
          · skip
            refine jx_of (fun _ _ kz => jw_iload d_M_step_366 rfl kz) ?_
            refine jx_of (fun _ _ kz => jw_bipush 8 d_M_step_368 (by decide) kz) ?_
            refine jx_icmp_ne 394 d_M_step_370 (by decide) (fun b_370 => ?_) (fun b_370 => ?_)
            · skip
              refine jx_of (fun _ _ kz => jw_iload d_M_step_394 rfl kz) ?_
              refine jx_if_eq 450 d_M_step_396 (by decide) (fun _ => ?_) (fun h => absurd h (by decide))
              refine jx_of (fun _ _ kz => jw_iload d_M_step_450 rfl kz) ?_
              refine jx_of (fun _ _ kz => jw_bipush 13 d_M_step_452 (by decide) kz) ?_
              refine jx_icmp_ne 491 d_M_step_454 (by decide) (fun b_454 => ?_) (fun b_454 => ?_)
              · skip
                refine jx_of (fun _ _ kz => jw_aload_n 0 d_M_step_491 rfl rfl kz) ?_
                refine jx_of (fun _ _ kz => jw_iload_n 3 d_M_step_492 rfl rfl kz) ?_
                refine jx_callV (z_M_pending (d + 5) x np nt X hI  hx) mt_M_pending cf_M rfl rfl ml_M_174 im_M_pending se_M_pending d_M_step_493 rfl rfl (Nat.le_of_ble_eq_true rfl) ?_
                rintro _ M1 ⟨rfl, h1⟩
                refine jx_eq (st2 := []) rfl rfl rfl ?_
                refine jx_of (fun _ _ kz => jw_iconst (-1) d_M_step_496 (by decide) kz) ?_
                refine jx_iret d_M_step_497 rfl ?_
                exact ⟨rfl, by first | exact h1 | exact iv_sI (iv_tr h1 h2) (by unfold hl; omega) | exact iv_sI h1 (by unfold hl; omega) | exact iv_rf hI⟩
              · skip
                refine jx_of (fun _ _ kz => jw_aload_n 0 d_M_step_457 rfl rfl kz) ?_
                refine jx_of (fun _ _ kz => jw_getIe (me_I M 7 0 29) fl_M_162 d_M_step_458 rfl rfl rfl kz) ?_
                refine jx_of (fun _ _ kz => jw_aload_n 0 d_M_step_461 rfl rfl kz) ?_
                refine jx_of (fun _ _ kz => jw_getPe (some (42, 0)) fl_M_47 d_M_step_462 rfl rfl (by simp [me_I_sI, me_I_sP, me_I_nx, me_P_sI, me_P_sP, me_P_nx, me_N_sI, me_N_sP, me_N_nx, me_L_sI, me_L_sP, me_L_nx, show me_P M 7 0 13 = some (42, 0) from hI.1.1 (7, 0, 13, 42, 0) (by decide)]) kz) ?_
                refine jx_of (fun _ _ kz => jw_iload_n 3 d_M_step_465 rfl rfl kz) ?_
                refine jx_of (fun _ _ kz => jw_ialde (me_I M 42 0 x) d_M_step_466 rfl rfl (by rw [show me_L _ 42 0 = 144 from (by simp [me_I_sI, me_I_sP, me_I_nx, me_P_sI, me_P_sP, me_P_nx, me_N_sI, me_N_sP, me_N_nx, me_L_sI, me_L_sP, me_L_nx, show me_L M 42 0 = 144 from hI.1.2 (42, 0, 144) (by decide)])]; exact (vp_in_nI hx (by decide))) (by rw [nI_clamp (by omega)] <;> simp [me_I_sI]) kz) ?_
                refine jx_icmp_lt 491 d_M_step_467 (by decide) (fun b_467 => ?_) (fun b_467 => ?_)
                · skip
                  refine jx_of (fun _ _ kz => jw_aload_n 0 d_M_step_491 rfl rfl kz) ?_
                  refine jx_of (fun _ _ kz => jw_iload_n 3 d_M_step_492 rfl rfl kz) ?_
                  refine jx_callV (z_M_pending (d + 5) x np nt X hI  hx) mt_M_pending cf_M rfl rfl ml_M_174 im_M_pending se_M_pending d_M_step_493 rfl rfl (Nat.le_of_ble_eq_true rfl) ?_
                  rintro _ M1 ⟨rfl, h1⟩
                  refine jx_eq (st2 := []) rfl rfl rfl ?_
                  refine jx_of (fun _ _ kz => jw_iconst (-1) d_M_step_496 (by decide) kz) ?_
                  refine jx_iret d_M_step_497 rfl ?_
                  exact ⟨rfl, by first | exact h1 | exact iv_sI (iv_tr h1 h2) (by unfold hl; omega) | exact iv_sI h1 (by unfold hl; omega) | exact iv_rf hI⟩
                · skip
                  refine jx_of (fun _ _ kz => jw_aload_n 0 d_M_step_470 rfl rfl kz) ?_
                  refine jx_of (fun _ _ kz => jw_iload_n 3 d_M_step_471 rfl rfl kz) ?_
                  refine jx_of (fun _ _ kz => jw_iconst (-1) d_M_step_472 (by decide) kz) ?_
                  refine jx_callV (z_M_ready (d + 5) x (((-1))) np nt X hI  hx) mt_M_ready cf_M rfl rfl ml_M_171 im_M_ready se_M_ready d_M_step_473 rfl rfl (Nat.le_of_ble_eq_true rfl) ?_
                  rintro _ M1 ⟨rfl, h1⟩
                  refine jx_eq (st2 := []) rfl rfl rfl ?_
                  refine jx_of (fun _ _ kz => jw_aload_n 0 d_M_step_476 rfl rfl kz) ?_
                  refine jx_of (fun _ _ kz => jw_iload_n 1 d_M_step_477 rfl rfl kz) ?_
                  refine jx_of (fun _ _ kz => jw_iload d_M_step_478 rfl kz) ?_
                  refine jx_callV (z_M_drop d t ((n + 1)) p len o np nt X h1.2.1  ht (tP_iv hp h1 ht) (by first | exact hc1 | exact hc2)) mt_M_drop cf_M rfl rfl ml_M_168 im_M_drop se_M_drop d_M_step_480 rfl rfl (Nat.le_of_ble_eq_true rfl) ?_
                  rintro _ M2 ⟨rfl, h2⟩
                  refine jx_eq (st2 := []) rfl rfl rfl ?_
                  refine jx_of (fun _ _ kz => jw_aload_n 0 d_M_step_483 rfl rfl kz) ?_
                  refine jx_of (fun _ _ kz => jw_iconst 2 d_M_step_484 (by decide) kz) ?_
                  refine jx_of (fun _ _ kz => jw_putI fl_M_151 (Or.inl rfl) rfl rfl d_M_step_485 rfl rfl kz) ?_
                  refine jx_of (fun _ _ kz => jw_goto 496 d_M_step_488 (by decide) kz) ?_
                  refine jx_of (fun _ _ kz => jw_iconst (-1) d_M_step_496 (by decide) kz) ?_
                  refine jx_iret d_M_step_497 rfl ?_
                  exact ⟨rfl, by first | exact h1 | exact iv_sI (iv_tr h1 h2) (by unfold hl; omega) | exact iv_sI h1 (by unfold hl; omega) | exact iv_rf hI⟩
            · skip
              refine jx_of (fun _ _ kz => jw_iload d_M_step_373 rfl kz) ?_
              refine jx_if_eq 394 d_M_step_375 (by decide) (fun _ => ?_) (fun h => absurd h (by decide))
              refine jx_of (fun _ _ kz => jw_iload d_M_step_394 rfl kz) ?_
              refine jx_if_eq 450 d_M_step_396 (by decide) (fun _ => ?_) (fun h => absurd h (by decide))
              refine jx_of (fun _ _ kz => jw_iload d_M_step_450 rfl kz) ?_
              refine jx_of (fun _ _ kz => jw_bipush 13 d_M_step_452 (by decide) kz) ?_
              refine jx_icmp_ne 491 d_M_step_454 (by decide) (fun b_454 => ?_) (fun b_454 => ?_)
              · skip
                refine jx_of (fun _ _ kz => jw_aload_n 0 d_M_step_491 rfl rfl kz) ?_
                refine jx_of (fun _ _ kz => jw_iload_n 3 d_M_step_492 rfl rfl kz) ?_
                refine jx_callV (z_M_pending (d + 5) x np nt X hI  hx) mt_M_pending cf_M rfl rfl ml_M_174 im_M_pending se_M_pending d_M_step_493 rfl rfl (Nat.le_of_ble_eq_true rfl) ?_
                rintro _ M1 ⟨rfl, h1⟩
                refine jx_eq (st2 := []) rfl rfl rfl ?_
                refine jx_of (fun _ _ kz => jw_iconst (-1) d_M_step_496 (by decide) kz) ?_
                refine jx_iret d_M_step_497 rfl ?_
                exact ⟨rfl, by first | exact h1 | exact iv_sI (iv_tr h1 h2) (by unfold hl; omega) | exact iv_sI h1 (by unfold hl; omega) | exact iv_rf hI⟩
              · skip
                refine jx_of (fun _ _ kz => jw_aload_n 0 d_M_step_457 rfl rfl kz) ?_
                refine jx_of (fun _ _ kz => jw_getIe (me_I M 7 0 29) fl_M_162 d_M_step_458 rfl rfl rfl kz) ?_
                refine jx_of (fun _ _ kz => jw_aload_n 0 d_M_step_461 rfl rfl kz) ?_
                refine jx_of (fun _ _ kz => jw_getPe (some (42, 0)) fl_M_47 d_M_step_462 rfl rfl (by simp [me_I_sI, me_I_sP, me_I_nx, me_P_sI, me_P_sP, me_P_nx, me_N_sI, me_N_sP, me_N_nx, me_L_sI, me_L_sP, me_L_nx, show me_P M 7 0 13 = some (42, 0) from hI.1.1 (7, 0, 13, 42, 0) (by decide)]) kz) ?_
                refine jx_of (fun _ _ kz => jw_iload_n 3 d_M_step_465 rfl rfl kz) ?_
                refine jx_of (fun _ _ kz => jw_ialde (me_I M 42 0 x) d_M_step_466 rfl rfl (by rw [show me_L _ 42 0 = 144 from (by simp [me_I_sI, me_I_sP, me_I_nx, me_P_sI, me_P_sP, me_P_nx, me_N_sI, me_N_sP, me_N_nx, me_L_sI, me_L_sP, me_L_nx, show me_L M 42 0 = 144 from hI.1.2 (42, 0, 144) (by decide)])]; exact (vp_in_nI hx (by decide))) (by rw [nI_clamp (by omega)] <;> simp [me_I_sI]) kz) ?_
                refine jx_icmp_lt 491 d_M_step_467 (by decide) (fun b_467 => ?_) (fun b_467 => ?_)
                · skip
                  refine jx_of (fun _ _ kz => jw_aload_n 0 d_M_step_491 rfl rfl kz) ?_
                  refine jx_of (fun _ _ kz => jw_iload_n 3 d_M_step_492 rfl rfl kz) ?_
                  refine jx_callV (z_M_pending (d + 5) x np nt X hI  hx) mt_M_pending cf_M rfl rfl ml_M_174 im_M_pending se_M_pending d_M_step_493 rfl rfl (Nat.le_of_ble_eq_true rfl) ?_
                  rintro _ M1 ⟨rfl, h1⟩
                  refine jx_eq (st2 := []) rfl rfl rfl ?_
                  refine jx_of (fun _ _ kz => jw_iconst (-1) d_M_step_496 (by decide) kz) ?_
                  refine jx_iret d_M_step_497 rfl ?_
                  exact ⟨rfl, by first | exact h1 | exact iv_sI (iv_tr h1 h2) (by unfold hl; omega) | exact iv_sI h1 (by unfold hl; omega) | exact iv_rf hI⟩
                · skip
                  refine jx_of (fun _ _ kz => jw_aload_n 0 d_M_step_470 rfl rfl kz) ?_
                  refine jx_of (fun _ _ kz => jw_iload_n 3 d_M_step_471 rfl rfl kz) ?_
                  refine jx_of (fun _ _ kz => jw_iconst (-1) d_M_step_472 (by decide) kz) ?_
                  refine jx_callV (z_M_ready (d + 5) x (((-1))) np nt X hI  hx) mt_M_ready cf_M rfl rfl ml_M_171 im_M_ready se_M_ready d_M_step_473 rfl rfl (Nat.le_of_ble_eq_true rfl) ?_
                  rintro _ M1 ⟨rfl, h1⟩
                  refine jx_eq (st2 := []) rfl rfl rfl ?_
                  refine jx_of (fun _ _ kz => jw_aload_n 0 d_M_step_476 rfl rfl kz) ?_
                  refine jx_of (fun _ _ kz => jw_iload_n 1 d_M_step_477 rfl rfl kz) ?_
                  refine jx_of (fun _ _ kz => jw_iload d_M_step_478 rfl kz) ?_
                  refine jx_callV (z_M_drop d t ((n + 1)) p len o np nt X h1.2.1  ht (tP_iv hp h1 ht) (by first | exact hc1 | exact hc2)) mt_M_drop cf_M rfl rfl ml_M_168 im_M_drop se_M_drop d_M_step_480 rfl rfl (Nat.le_of_ble_eq_true rfl) ?_
                  rintro _ M2 ⟨rfl, h2⟩
                  refine jx_eq (st2 := []) rfl rfl rfl ?_
                  refine jx_of (fun _ _ kz => jw_aload_n 0 d_M_step_483 rfl rfl kz) ?_
                  refine jx_of (fun _ _ kz => jw_iconst 2 d_M_step_484 (by decide) kz) ?_
                  refine jx_of (fun _ _ kz => jw_putI fl_M_151 (Or.inl rfl) rfl rfl d_M_step_485 rfl rfl kz) ?_
                  refine jx_of (fun _ _ kz => jw_goto 496 d_M_step_488 (by decide) kz) ?_
                  refine jx_of (fun _ _ kz => jw_iconst (-1) d_M_step_496 (by decide) kz) ?_
                  refine jx_iret d_M_step_497 rfl ?_
                  exact ⟨rfl, by first | exact h1 | exact iv_sI (iv_tr h1 h2) (by unfold hl; omega) | exact iv_sI h1 (by unfold hl; omega) | exact iv_rf hI⟩
          · skip
            refine jx_of (fun _ _ kz => jw_iload d_M_step_358 rfl kz) ?_
            refine jx_if_ne 366 d_M_step_360 (by decide) (fun h => absurd h (by decide)) (fun _ => ?_)
            refine jx_of (fun _ _ kz => jw_iload d_M_step_363 rfl kz) ?_
            refine jx_iret d_M_step_365 rfl ?_
            exact ⟨rfl, by first | exact h1 | exact iv_sI (iv_tr h1 h2) (by unfold hl; omega) | exact iv_sI h1 (by unfold hl; omega) | exact iv_rf hI⟩
        · skip
          refine jx_of (fun _ _ kz => jw_iload d_M_step_346 rfl kz) ?_
          refine jx_if_ne 363 d_M_step_348 (by decide) (fun h => absurd h (by decide)) (fun _ => ?_)
          refine jx_of (fun _ _ kz => jw_iload d_M_step_351 rfl kz) ?_
          refine jx_of (fun _ _ kz => jw_bipush 12 d_M_step_353 (by decide) kz) ?_
          refine jx_icmp_ne 366 d_M_step_355 (by decide) (fun b_355 => ?_) (fun b_355 => ?_)
          · skip
            refine jx_of (fun _ _ kz => jw_iload d_M_step_366 rfl kz) ?_
            refine jx_of (fun _ _ kz => jw_bipush 8 d_M_step_368 (by decide) kz) ?_
            refine jx_icmp_ne 394 d_M_step_370 (by decide) (fun b_370 => ?_) (fun b_370 => ?_)
            · skip
              refine jx_of (fun _ _ kz => jw_iload d_M_step_394 rfl kz) ?_
              refine jx_if_eq 450 d_M_step_396 (by decide) (fun _ => ?_) (fun h => absurd h (by decide))
              refine jx_of (fun _ _ kz => jw_iload d_M_step_450 rfl kz) ?_
              refine jx_of (fun _ _ kz => jw_bipush 13 d_M_step_452 (by decide) kz) ?_
              refine jx_icmp_ne 491 d_M_step_454 (by decide) (fun b_454 => ?_) (fun b_454 => ?_)
              · skip
                refine jx_of (fun _ _ kz => jw_aload_n 0 d_M_step_491 rfl rfl kz) ?_
                refine jx_of (fun _ _ kz => jw_iload_n 3 d_M_step_492 rfl rfl kz) ?_
                refine jx_callV (z_M_pending (d + 5) x np nt X hI  hx) mt_M_pending cf_M rfl rfl ml_M_174 im_M_pending se_M_pending d_M_step_493 rfl rfl (Nat.le_of_ble_eq_true rfl) ?_
                rintro _ M1 ⟨rfl, h1⟩
                refine jx_eq (st2 := []) rfl rfl rfl ?_
                refine jx_of (fun _ _ kz => jw_iconst (-1) d_M_step_496 (by decide) kz) ?_
                refine jx_iret d_M_step_497 rfl ?_
                exact ⟨rfl, by first | exact h1 | exact iv_sI (iv_tr h1 h2) (by unfold hl; omega) | exact iv_sI h1 (by unfold hl; omega) | exact iv_rf hI⟩
              · skip
                refine jx_of (fun _ _ kz => jw_aload_n 0 d_M_step_457 rfl rfl kz) ?_
                refine jx_of (fun _ _ kz => jw_getIe (me_I M 7 0 29) fl_M_162 d_M_step_458 rfl rfl rfl kz) ?_
                refine jx_of (fun _ _ kz => jw_aload_n 0 d_M_step_461 rfl rfl kz) ?_
                refine jx_of (fun _ _ kz => jw_getPe (some (42, 0)) fl_M_47 d_M_step_462 rfl rfl (by simp [me_I_sI, me_I_sP, me_I_nx, me_P_sI, me_P_sP, me_P_nx, me_N_sI, me_N_sP, me_N_nx, me_L_sI, me_L_sP, me_L_nx, show me_P M 7 0 13 = some (42, 0) from hI.1.1 (7, 0, 13, 42, 0) (by decide)]) kz) ?_
                refine jx_of (fun _ _ kz => jw_iload_n 3 d_M_step_465 rfl rfl kz) ?_
                refine jx_of (fun _ _ kz => jw_ialde (me_I M 42 0 x) d_M_step_466 rfl rfl (by rw [show me_L _ 42 0 = 144 from (by simp [me_I_sI, me_I_sP, me_I_nx, me_P_sI, me_P_sP, me_P_nx, me_N_sI, me_N_sP, me_N_nx, me_L_sI, me_L_sP, me_L_nx, show me_L M 42 0 = 144 from hI.1.2 (42, 0, 144) (by decide)])]; exact (vp_in_nI hx (by decide))) (by rw [nI_clamp (by omega)] <;> simp [me_I_sI]) kz) ?_
                refine jx_icmp_lt 491 d_M_step_467 (by decide) (fun b_467 => ?_) (fun b_467 => ?_)
                · skip
                  refine jx_of (fun _ _ kz => jw_aload_n 0 d_M_step_491 rfl rfl kz) ?_
                  refine jx_of (fun _ _ kz => jw_iload_n 3 d_M_step_492 rfl rfl kz) ?_
                  refine jx_callV (z_M_pending (d + 5) x np nt X hI  hx) mt_M_pending cf_M rfl rfl ml_M_174 im_M_pending se_M_pending d_M_step_493 rfl rfl (Nat.le_of_ble_eq_true rfl) ?_
                  rintro _ M1 ⟨rfl, h1⟩
                  refine jx_eq (st2 := []) rfl rfl rfl ?_
                  refine jx_of (fun _ _ kz => jw_iconst (-1) d_M_step_496 (by decide) kz) ?_
                  refine jx_iret d_M_step_497 rfl ?_
                  exact ⟨rfl, by first | exact h1 | exact iv_sI (iv_tr h1 h2) (by unfold hl; omega) | exact iv_sI h1 (by unfold hl; omega) | exact iv_rf hI⟩
                · skip
                  refine jx_of (fun _ _ kz => jw_aload_n 0 d_M_step_470 rfl rfl kz) ?_
                  refine jx_of (fun _ _ kz => jw_iload_n 3 d_M_step_471 rfl rfl kz) ?_
                  refine jx_of (fun _ _ kz => jw_iconst (-1) d_M_step_472 (by decide) kz) ?_
                  refine jx_callV (z_M_ready (d + 5) x (((-1))) np nt X hI  hx) mt_M_ready cf_M rfl rfl ml_M_171 im_M_ready se_M_ready d_M_step_473 rfl rfl (Nat.le_of_ble_eq_true rfl) ?_
                  rintro _ M1 ⟨rfl, h1⟩
                  refine jx_eq (st2 := []) rfl rfl rfl ?_
                  refine jx_of (fun _ _ kz => jw_aload_n 0 d_M_step_476 rfl rfl kz) ?_
                  refine jx_of (fun _ _ kz => jw_iload_n 1 d_M_step_477 rfl rfl kz) ?_
                  refine jx_of (fun _ _ kz => jw_iload d_M_step_478 rfl kz) ?_
                  refine jx_callV (z_M_drop d t ((n + 1)) p len o np nt X h1.2.1  ht (tP_iv hp h1 ht) (by first | exact hc1 | exact hc2)) mt_M_drop cf_M rfl rfl ml_M_168 im_M_drop se_M_drop d_M_step_480 rfl rfl (Nat.le_of_ble_eq_true rfl) ?_
                  rintro _ M2 ⟨rfl, h2⟩
                  refine jx_eq (st2 := []) rfl rfl rfl ?_
                  refine jx_of (fun _ _ kz => jw_aload_n 0 d_M_step_483 rfl rfl kz) ?_
                  refine jx_of (fun _ _ kz => jw_iconst 2 d_M_step_484 (by decide) kz) ?_
                  refine jx_of (fun _ _ kz => jw_putI fl_M_151 (Or.inl rfl) rfl rfl d_M_step_485 rfl rfl kz) ?_
                  refine jx_of (fun _ _ kz => jw_goto 496 d_M_step_488 (by decide) kz) ?_
                  refine jx_of (fun _ _ kz => jw_iconst (-1) d_M_step_496 (by decide) kz) ?_
                  refine jx_iret d_M_step_497 rfl ?_
                  exact ⟨rfl, by first | exact h1 | exact iv_sI (iv_tr h1 h2) (by unfold hl; omega) | exact iv_sI h1 (by unfold hl; omega) | exact iv_rf hI⟩
            · skip
              refine jx_of (fun _ _ kz => jw_iload d_M_step_373 rfl kz) ?_
              refine jx_if_eq 394 d_M_step_375 (by decide) (fun _ => ?_) (fun h => absurd h (by decide))
              refine jx_of (fun _ _ kz => jw_iload d_M_step_394 rfl kz) ?_
              refine jx_if_eq 450 d_M_step_396 (by decide) (fun _ => ?_) (fun h => absurd h (by decide))
              refine jx_of (fun _ _ kz => jw_iload d_M_step_450 rfl kz) ?_
              refine jx_of (fun _ _ kz => jw_bipush 13 d_M_step_452 (by decide) kz) ?_
              refine jx_icmp_ne 491 d_M_step_454 (by decide) (fun b_454 => ?_) (fun b_454 => ?_)
              · skip
                refine jx_of (fun _ _ kz => jw_aload_n 0 d_M_step_491 rfl rfl kz) ?_
                refine jx_of (fun _ _ kz => jw_iload_n 3 d_M_step_492 rfl rfl kz) ?_
                refine jx_callV (z_M_pending (d + 5) x np nt X hI  hx) mt_M_pending cf_M rfl rfl ml_M_174 im_M_pending se_M_pending d_M_step_493 rfl rfl (Nat.le_of_ble_eq_true rfl) ?_
                rintro _ M1 ⟨rfl, h1⟩
                refine jx_eq (st2 := []) rfl rfl rfl ?_
                refine jx_of (fun _ _ kz => jw_iconst (-1) d_M_step_496 (by decide) kz) ?_
                refine jx_iret d_M_step_497 rfl ?_
                exact ⟨rfl, by first | exact h1 | exact iv_sI (iv_tr h1 h2) (by unfold hl; omega) | exact iv_sI h1 (by unfold hl; omega) | exact iv_rf hI⟩
              · skip
                refine jx_of (fun _ _ kz => jw_aload_n 0 d_M_step_457 rfl rfl kz) ?_
                refine jx_of (fun _ _ kz => jw_getIe (me_I M 7 0 29) fl_M_162 d_M_step_458 rfl rfl rfl kz) ?_
                refine jx_of (fun _ _ kz => jw_aload_n 0 d_M_step_461 rfl rfl kz) ?_
                refine jx_of (fun _ _ kz => jw_getPe (some (42, 0)) fl_M_47 d_M_step_462 rfl rfl (by simp [me_I_sI, me_I_sP, me_I_nx, me_P_sI, me_P_sP, me_P_nx, me_N_sI, me_N_sP, me_N_nx, me_L_sI, me_L_sP, me_L_nx, show me_P M 7 0 13 = some (42, 0) from hI.1.1 (7, 0, 13, 42, 0) (by decide)]) kz) ?_
                refine jx_of (fun _ _ kz => jw_iload_n 3 d_M_step_465 rfl rfl kz) ?_
                refine jx_of (fun _ _ kz => jw_ialde (me_I M 42 0 x) d_M_step_466 rfl rfl (by rw [show me_L _ 42 0 = 144 from (by simp [me_I_sI, me_I_sP, me_I_nx, me_P_sI, me_P_sP, me_P_nx, me_N_sI, me_N_sP, me_N_nx, me_L_sI, me_L_sP, me_L_nx, show me_L M 42 0 = 144 from hI.1.2 (42, 0, 144) (by decide)])]; exact (vp_in_nI hx (by decide))) (by rw [nI_clamp (by omega)] <;> simp [me_I_sI]) kz) ?_
                refine jx_icmp_lt 491 d_M_step_467 (by decide) (fun b_467 => ?_) (fun b_467 => ?_)
                · skip
                  refine jx_of (fun _ _ kz => jw_aload_n 0 d_M_step_491 rfl rfl kz) ?_
                  refine jx_of (fun _ _ kz => jw_iload_n 3 d_M_step_492 rfl rfl kz) ?_
                  refine jx_callV (z_M_pending (d + 5) x np nt X hI  hx) mt_M_pending cf_M rfl rfl ml_M_174 im_M_pending se_M_pending d_M_step_493 rfl rfl (Nat.le_of_ble_eq_true rfl) ?_
                  rintro _ M1 ⟨rfl, h1⟩
                  refine jx_eq (st2 := []) rfl rfl rfl ?_
                  refine jx_of (fun _ _ kz => jw_iconst (-1) d_M_step_496 (by decide) kz) ?_
                  refine jx_iret d_M_step_497 rfl ?_
                  exact ⟨rfl, by first | exact h1 | exact iv_sI (iv_tr h1 h2) (by unfold hl; omega) | exact iv_sI h1 (by unfold hl; omega) | exact iv_rf hI⟩
                · skip
                  refine jx_of (fun _ _ kz => jw_aload_n 0 d_M_step_470 rfl rfl kz) ?_
                  refine jx_of (fun _ _ kz => jw_iload_n 3 d_M_step_471 rfl rfl kz) ?_
                  refine jx_of (fun _ _ kz => jw_iconst (-1) d_M_step_472 (by decide) kz) ?_
                  refine jx_callV (z_M_ready (d + 5) x (((-1))) np nt X hI  hx) mt_M_ready cf_M rfl rfl ml_M_171 im_M_ready se_M_ready d_M_step_473 rfl rfl (Nat.le_of_ble_eq_true rfl) ?_
                  rintro _ M1 ⟨rfl, h1⟩
                  refine jx_eq (st2 := []) rfl rfl rfl ?_
                  refine jx_of (fun _ _ kz => jw_aload_n 0 d_M_step_476 rfl rfl kz) ?_
                  refine jx_of (fun _ _ kz => jw_iload_n 1 d_M_step_477 rfl rfl kz) ?_
                  refine jx_of (fun _ _ kz => jw_iload d_M_step_478 rfl kz) ?_
                  refine jx_callV (z_M_drop d t ((n + 1)) p len o np nt X h1.2.1  ht (tP_iv hp h1 ht) (by first | exact hc1 | exact hc2)) mt_M_drop cf_M rfl rfl ml_M_168 im_M_drop se_M_drop d_M_step_480 rfl rfl (Nat.le_of_ble_eq_true rfl) ?_
                  rintro _ M2 ⟨rfl, h2⟩
                  refine jx_eq (st2 := []) rfl rfl rfl ?_
                  refine jx_of (fun _ _ kz => jw_aload_n 0 d_M_step_483 rfl rfl kz) ?_
                  refine jx_of (fun _ _ kz => jw_iconst 2 d_M_step_484 (by decide) kz) ?_
                  refine jx_of (fun _ _ kz => jw_putI fl_M_151 (Or.inl rfl) rfl rfl d_M_step_485 rfl rfl kz) ?_
                  refine jx_of (fun _ _ kz => jw_goto 496 d_M_step_488 (by decide) kz) ?_
                  refine jx_of (fun _ _ kz => jw_iconst (-1) d_M_step_496 (by decide) kz) ?_
                  refine jx_iret d_M_step_497 rfl ?_
                  exact ⟨rfl, by first | exact h1 | exact iv_sI (iv_tr h1 h2) (by unfold hl; omega) | exact iv_sI h1 (by unfold hl; omega) | exact iv_rf hI⟩
          · skip
            refine jx_of (fun _ _ kz => jw_iload d_M_step_358 rfl kz) ?_
            refine jx_if_ne 366 d_M_step_360 (by decide) (fun h => absurd h (by decide)) (fun _ => ?_)
            refine jx_of (fun _ _ kz => jw_iload d_M_step_363 rfl kz) ?_
            refine jx_iret d_M_step_365 rfl ?_
            exact ⟨rfl, by first | exact h1 | exact iv_sI (iv_tr h1 h2) (by unfold hl; omega) | exact iv_sI h1 (by unfold hl; omega) | exact iv_rf hI⟩
    · skip
      refine jx_of (fun _ _ kz => jw_iconst 1 d_M_step_325 (by decide) kz) ?_
      refine jx_of (fun _ _ kz => jw_goto 330 d_M_step_326 (by decide) kz) ?_
      refine jx_of (fun _ _ kz => jw_istore d_M_step_330 (Nat.le_of_ble_eq_true rfl) kz) ?_
      dsimp only [List.set]
      refine jx_of (fun _ _ kz => jw_iload d_M_step_332 rfl kz) ?_
      refine jx_of (fun _ _ kz => jw_bipush 11 d_M_step_334 (by decide) kz) ?_
      refine jx_icmp_eq 363 d_M_step_336 (by decide) (fun b_336 => ?_) (fun b_336 => ?_)
      · skip
        refine jx_of (fun _ _ kz => jw_iload d_M_step_363 rfl kz) ?_
        refine jx_iret d_M_step_365 rfl ?_
        exact ⟨rfl, by first | exact h1 | exact iv_sI (iv_tr h1 h2) (by unfold hl; omega) | exact iv_sI h1 (by unfold hl; omega) | exact iv_rf hI⟩
      · skip
        refine jx_of (fun _ _ kz => jw_iload d_M_step_339 rfl kz) ?_
        refine jx_of (fun _ _ kz => jw_bipush 10 d_M_step_341 (by decide) kz) ?_
        refine jx_icmp_ne 351 d_M_step_343 (by decide) (fun b_343 => ?_) (fun b_343 => ?_)
        · skip
          refine jx_of (fun _ _ kz => jw_iload d_M_step_351 rfl kz) ?_
          refine jx_of (fun _ _ kz => jw_bipush 12 d_M_step_353 (by decide) kz) ?_
          refine jx_icmp_ne 366 d_M_step_355 (by decide) (fun b_355 => ?_) (fun b_355 => ?_)
          · skip
            refine jx_of (fun _ _ kz => jw_iload d_M_step_366 rfl kz) ?_
            refine jx_of (fun _ _ kz => jw_bipush 8 d_M_step_368 (by decide) kz) ?_
            refine jx_icmp_ne 394 d_M_step_370 (by decide) (fun b_370 => ?_) (fun b_370 => ?_)
            · skip
              refine jx_of (fun _ _ kz => jw_iload d_M_step_394 rfl kz) ?_
              refine jx_if_eq 450 d_M_step_396 (by decide) (fun h => absurd h (by decide)) (fun _ => ?_)
              refine jx_of (fun _ _ kz => jw_aload_n 0 d_M_step_399 rfl rfl kz) ?_
              refine jx_of (fun _ _ kz => jw_getPe (some (41, 0)) fl_M_44 d_M_step_400 rfl rfl (by simp [me_I_sI, me_I_sP, me_I_nx, me_P_sI, me_P_sP, me_P_nx, me_N_sI, me_N_sP, me_N_nx, me_L_sI, me_L_sP, me_L_nx, show me_P M 7 0 12 = some (41, 0) from hI.1.1 (7, 0, 12, 41, 0) (by decide)]) kz) ?_
              refine jx_of (fun _ _ kz => jw_iload d_M_step_403 rfl kz) ?_
              refine jx_of (fun _ _ kz => jw_ialde (_) d_M_step_405 rfl rfl (by rw [show me_L _ 41 0 = 144 from (by simp [me_I_sI, me_I_sP, me_I_nx, me_P_sI, me_P_sP, me_P_nx, me_N_sI, me_N_sP, me_N_nx, me_L_sI, me_L_sP, me_L_nx, show me_L M 41 0 = 144 from hI.1.2 (41, 0, 144) (by decide)])]; exact (vp_in_nI (by omega) (by decide))) rfl kz) ?_
              refine jx_of (fun _ _ kz => jw_istore d_M_step_406 (Nat.le_of_ble_eq_true rfl) kz) ?_
              dsimp only [List.set]
              refine jx_of (fun _ _ kz => jw_aload_n 0 d_M_step_408 rfl rfl kz) ?_
              refine jx_of (fun _ _ kz => jw_iload_n 3 d_M_step_409 rfl rfl kz) ?_
              refine jx_of (fun _ _ kz => jw_iload d_M_step_410 rfl kz) ?_
              refine jx_of (fun _ _ kz => jw_bipush 14 d_M_step_412 (by decide) kz) ?_
              refine jx_icmp_ne 425 d_M_step_414 (by decide) (fun b_414 => ?_) (fun b_414 => ?_)
              · skip
                refine jx_of (fun _ _ kz => jw_iload d_M_step_425 rfl kz) ?_
                refine jx_callV (z_M_ready (d + 5) x _ np nt X hI  hx) mt_M_ready cf_M rfl rfl ml_M_171 im_M_ready se_M_ready d_M_step_427 rfl rfl (Nat.le_of_ble_eq_true rfl) ?_
                rintro _ M1 ⟨rfl, h1⟩
                refine jx_eq (st2 := []) rfl rfl rfl ?_
                refine jx_of (fun _ _ kz => jw_iload d_M_step_430 rfl kz) ?_
                refine jx_if_lt 442 d_M_step_432 (by decide) (fun _ => ?_) (fun h => absurd h (by decide))
                refine jx_of (fun _ _ kz => jw_aload_n 0 d_M_step_442 rfl rfl kz) ?_
                refine jx_of (fun _ _ kz => jw_iconst 2 d_M_step_443 (by decide) kz) ?_
                refine jx_of (fun _ _ kz => jw_putI fl_M_151 (Or.inl rfl) rfl rfl d_M_step_444 rfl rfl kz) ?_
                refine jx_of (fun _ _ kz => jw_goto 496 d_M_step_447 (by decide) kz) ?_
                refine jx_of (fun _ _ kz => jw_iconst (-1) d_M_step_496 (by decide) kz) ?_
                refine jx_iret d_M_step_497 rfl ?_
                exact ⟨rfl, by first | exact h1 | exact iv_sI (iv_tr h1 h2) (by unfold hl; omega) | exact iv_sI h1 (by unfold hl; omega) | exact iv_rf hI⟩
              · skip
                refine jx_of (fun _ _ kz => jw_iload d_M_step_417 rfl kz) ?_
                refine jx_of (fun _ _ kz => jw_iload d_M_step_419 rfl kz) ?_
                refine jx_of (fun _ _ kz => jw_iadd d_M_step_421 kz) ?_
                refine jx_of (fun _ _ kz => jw_goto 427 d_M_step_422 (by decide) kz) ?_
                refine jx_callV (z_M_ready (d + 5) x ((_ + A)) np nt X hI  hx) mt_M_ready cf_M rfl rfl ml_M_171 im_M_ready se_M_ready d_M_step_427 rfl rfl (Nat.le_of_ble_eq_true rfl) ?_
                rintro _ M1 ⟨rfl, h1⟩
                refine jx_eq (st2 := []) rfl rfl rfl ?_
                refine jx_of (fun _ _ kz => jw_iload d_M_step_430 rfl kz) ?_
                refine jx_if_lt 442 d_M_step_432 (by decide) (fun _ => ?_) (fun h => absurd h (by decide))
                refine jx_of (fun _ _ kz => jw_aload_n 0 d_M_step_442 rfl rfl kz) ?_
                refine jx_of (fun _ _ kz => jw_iconst 2 d_M_step_443 (by decide) kz) ?_
                refine jx_of (fun _ _ kz => jw_putI fl_M_151 (Or.inl rfl) rfl rfl d_M_step_444 rfl rfl kz) ?_
                refine jx_of (fun _ _ kz => jw_goto 496 d_M_step_447 (by decide) kz) ?_
                refine jx_of (fun _ _ kz => jw_iconst (-1) d_M_step_496 (by decide) kz) ?_
                refine jx_iret d_M_step_497 rfl ?_
                exact ⟨rfl, by first | exact h1 | exact iv_sI (iv_tr h1 h2) (by unfold hl; omega) | exact iv_sI h1 (by unfold hl; omega) | exact iv_rf hI⟩
            · skip
              refine jx_of (fun _ _ kz => jw_iload d_M_step_373 rfl kz) ?_
              refine jx_if_eq 394 d_M_step_375 (by decide) (fun h => absurd h (by decide)) (fun _ => ?_)
              refine jx_of (fun _ _ kz => jw_aload_n 0 d_M_step_378 rfl rfl kz) ?_
              refine jx_of (fun _ _ kz => jw_iload_n 1 d_M_step_379 rfl rfl kz) ?_
              refine jx_of (fun _ _ kz => jw_iload_n 3 d_M_step_380 rfl rfl kz) ?_
              refine jx_of (fun _ _ kz => jw_aload_n 0 d_M_step_381 rfl rfl kz) ?_
              refine jx_of (fun _ _ kz => jw_getPe (some (41, 0)) fl_M_44 d_M_step_382 rfl rfl (by simp [me_I_sI, me_I_sP, me_I_nx, me_P_sI, me_P_sP, me_P_nx, me_N_sI, me_N_sP, me_N_nx, me_L_sI, me_L_sP, me_L_nx, show me_P M 7 0 12 = some (41, 0) from hI.1.1 (7, 0, 12, 41, 0) (by decide)]) kz) ?_
              refine jx_of (fun _ _ kz => jw_iload d_M_step_385 rfl kz) ?_
              refine jx_of (fun _ _ kz => jw_ialde (_) d_M_step_387 rfl rfl (by rw [show me_L _ 41 0 = 144 from (by simp [me_I_sI, me_I_sP, me_I_nx, me_P_sI, me_P_sP, me_P_nx, me_N_sI, me_N_sP, me_N_nx, me_L_sI, me_L_sP, me_L_nx, show me_L M 41 0 = 144 from hI.1.2 (41, 0, 144) (by decide)])]; exact (vp_in_nI (by omega) (by decide))) rfl kz) ?_
              refine jx_callV (z_M_reap d t x _ np nt X hI  ht hx) mt_M_reap cf_M rfl rfl ml_M_177 im_M_reap se_M_reap d_M_step_388 rfl rfl (Nat.le_of_ble_eq_true rfl) ?_
              rintro _ M1 ⟨rfl, h1⟩
              refine jx_eq (st2 := []) rfl rfl rfl ?_
              refine jx_of (fun _ _ kz => jw_goto 496 d_M_step_391 (by decide) kz) ?_
              refine jx_of (fun _ _ kz => jw_iconst (-1) d_M_step_496 (by decide) kz) ?_
              refine jx_iret d_M_step_497 rfl ?_
              exact ⟨rfl, by first | exact h1 | exact iv_sI (iv_tr h1 h2) (by unfold hl; omega) | exact iv_sI h1 (by unfold hl; omega) | exact iv_rf hI⟩
          · skip
            refine jx_of (fun _ _ kz => jw_iload d_M_step_358 rfl kz) ?_
            refine jx_if_ne 366 d_M_step_360 (by decide) (fun _ => ?_) (fun h => absurd h (by decide))
            refine jx_of (fun _ _ kz => jw_iload d_M_step_366 rfl kz) ?_
            refine jx_of (fun _ _ kz => jw_bipush 8 d_M_step_368 (by decide) kz) ?_
            refine jx_icmp_ne 394 d_M_step_370 (by decide) (fun b_370 => ?_) (fun b_370 => ?_)
            · skip
              refine jx_of (fun _ _ kz => jw_iload d_M_step_394 rfl kz) ?_
              refine jx_if_eq 450 d_M_step_396 (by decide) (fun h => absurd h (by decide)) (fun _ => ?_)
              refine jx_of (fun _ _ kz => jw_aload_n 0 d_M_step_399 rfl rfl kz) ?_
              refine jx_of (fun _ _ kz => jw_getPe (some (41, 0)) fl_M_44 d_M_step_400 rfl rfl (by simp [me_I_sI, me_I_sP, me_I_nx, me_P_sI, me_P_sP, me_P_nx, me_N_sI, me_N_sP, me_N_nx, me_L_sI, me_L_sP, me_L_nx, show me_P M 7 0 12 = some (41, 0) from hI.1.1 (7, 0, 12, 41, 0) (by decide)]) kz) ?_
              refine jx_of (fun _ _ kz => jw_iload d_M_step_403 rfl kz) ?_
              refine jx_of (fun _ _ kz => jw_ialde (_) d_M_step_405 rfl rfl (by rw [show me_L _ 41 0 = 144 from (by simp [me_I_sI, me_I_sP, me_I_nx, me_P_sI, me_P_sP, me_P_nx, me_N_sI, me_N_sP, me_N_nx, me_L_sI, me_L_sP, me_L_nx, show me_L M 41 0 = 144 from hI.1.2 (41, 0, 144) (by decide)])]; exact (vp_in_nI (by omega) (by decide))) rfl kz) ?_
              refine jx_of (fun _ _ kz => jw_istore d_M_step_406 (Nat.le_of_ble_eq_true rfl) kz) ?_
              dsimp only [List.set]
              refine jx_of (fun _ _ kz => jw_aload_n 0 d_M_step_408 rfl rfl kz) ?_
              refine jx_of (fun _ _ kz => jw_iload_n 3 d_M_step_409 rfl rfl kz) ?_
              refine jx_of (fun _ _ kz => jw_iload d_M_step_410 rfl kz) ?_
              refine jx_of (fun _ _ kz => jw_bipush 14 d_M_step_412 (by decide) kz) ?_
              refine jx_icmp_ne 425 d_M_step_414 (by decide) (fun b_414 => ?_) (fun b_414 => ?_)
              · skip
                refine jx_of (fun _ _ kz => jw_iload d_M_step_425 rfl kz) ?_
                refine jx_callV (z_M_ready (d + 5) x _ np nt X hI  hx) mt_M_ready cf_M rfl rfl ml_M_171 im_M_ready se_M_ready d_M_step_427 rfl rfl (Nat.le_of_ble_eq_true rfl) ?_
                rintro _ M1 ⟨rfl, h1⟩
                refine jx_eq (st2 := []) rfl rfl rfl ?_
                refine jx_of (fun _ _ kz => jw_iload d_M_step_430 rfl kz) ?_
                refine jx_if_lt 442 d_M_step_432 (by decide) (fun _ => ?_) (fun h => absurd h (by decide))
                refine jx_of (fun _ _ kz => jw_aload_n 0 d_M_step_442 rfl rfl kz) ?_
                refine jx_of (fun _ _ kz => jw_iconst 2 d_M_step_443 (by decide) kz) ?_
                refine jx_of (fun _ _ kz => jw_putI fl_M_151 (Or.inl rfl) rfl rfl d_M_step_444 rfl rfl kz) ?_
                refine jx_of (fun _ _ kz => jw_goto 496 d_M_step_447 (by decide) kz) ?_
                refine jx_of (fun _ _ kz => jw_iconst (-1) d_M_step_496 (by decide) kz) ?_
                refine jx_iret d_M_step_497 rfl ?_
                exact ⟨rfl, by first | exact h1 | exact iv_sI (iv_tr h1 h2) (by unfold hl; omega) | exact iv_sI h1 (by unfold hl; omega) | exact iv_rf hI⟩
              · skip
                refine jx_of (fun _ _ kz => jw_iload d_M_step_417 rfl kz) ?_
                refine jx_of (fun _ _ kz => jw_iload d_M_step_419 rfl kz) ?_
                refine jx_of (fun _ _ kz => jw_iadd d_M_step_421 kz) ?_
                refine jx_of (fun _ _ kz => jw_goto 427 d_M_step_422 (by decide) kz) ?_
                refine jx_callV (z_M_ready (d + 5) x ((_ + A)) np nt X hI  hx) mt_M_ready cf_M rfl rfl ml_M_171 im_M_ready se_M_ready d_M_step_427 rfl rfl (Nat.le_of_ble_eq_true rfl) ?_
                rintro _ M1 ⟨rfl, h1⟩
                refine jx_eq (st2 := []) rfl rfl rfl ?_
                refine jx_of (fun _ _ kz => jw_iload d_M_step_430 rfl kz) ?_
                refine jx_if_lt 442 d_M_step_432 (by decide) (fun _ => ?_) (fun h => absurd h (by decide))
                refine jx_of (fun _ _ kz => jw_aload_n 0 d_M_step_442 rfl rfl kz) ?_
                refine jx_of (fun _ _ kz => jw_iconst 2 d_M_step_443 (by decide) kz) ?_
                refine jx_of (fun _ _ kz => jw_putI fl_M_151 (Or.inl rfl) rfl rfl d_M_step_444 rfl rfl kz) ?_
                refine jx_of (fun _ _ kz => jw_goto 496 d_M_step_447 (by decide) kz) ?_
                refine jx_of (fun _ _ kz => jw_iconst (-1) d_M_step_496 (by decide) kz) ?_
                refine jx_iret d_M_step_497 rfl ?_
                exact ⟨rfl, by first | exact h1 | exact iv_sI (iv_tr h1 h2) (by unfold hl; omega) | exact iv_sI h1 (by unfold hl; omega) | exact iv_rf hI⟩
            · skip
              refine jx_of (fun _ _ kz => jw_iload d_M_step_373 rfl kz) ?_
              refine jx_if_eq 394 d_M_step_375 (by decide) (fun h => absurd h (by decide)) (fun _ => ?_)
              refine jx_of (fun _ _ kz => jw_aload_n 0 d_M_step_378 rfl rfl kz) ?_
              refine jx_of (fun _ _ kz => jw_iload_n 1 d_M_step_379 rfl rfl kz) ?_
              refine jx_of (fun _ _ kz => jw_iload_n 3 d_M_step_380 rfl rfl kz) ?_
              refine jx_of (fun _ _ kz => jw_aload_n 0 d_M_step_381 rfl rfl kz) ?_
              refine jx_of (fun _ _ kz => jw_getPe (some (41, 0)) fl_M_44 d_M_step_382 rfl rfl (by simp [me_I_sI, me_I_sP, me_I_nx, me_P_sI, me_P_sP, me_P_nx, me_N_sI, me_N_sP, me_N_nx, me_L_sI, me_L_sP, me_L_nx, show me_P M 7 0 12 = some (41, 0) from hI.1.1 (7, 0, 12, 41, 0) (by decide)]) kz) ?_
              refine jx_of (fun _ _ kz => jw_iload d_M_step_385 rfl kz) ?_
              refine jx_of (fun _ _ kz => jw_ialde (_) d_M_step_387 rfl rfl (by rw [show me_L _ 41 0 = 144 from (by simp [me_I_sI, me_I_sP, me_I_nx, me_P_sI, me_P_sP, me_P_nx, me_N_sI, me_N_sP, me_N_nx, me_L_sI, me_L_sP, me_L_nx, show me_L M 41 0 = 144 from hI.1.2 (41, 0, 144) (by decide)])]; exact (vp_in_nI (by omega) (by decide))) rfl kz) ?_
              refine jx_callV (z_M_reap d t x _ np nt X hI  ht hx) mt_M_reap cf_M rfl rfl ml_M_177 im_M_reap se_M_reap d_M_step_388 rfl rfl (Nat.le_of_ble_eq_true rfl) ?_
              rintro _ M1 ⟨rfl, h1⟩
              refine jx_eq (st2 := []) rfl rfl rfl ?_
              refine jx_of (fun _ _ kz => jw_goto 496 d_M_step_391 (by decide) kz) ?_
              refine jx_of (fun _ _ kz => jw_iconst (-1) d_M_step_496 (by decide) kz) ?_
              refine jx_iret d_M_step_497 rfl ?_
              exact ⟨rfl, by first | exact h1 | exact iv_sI (iv_tr h1 h2) (by unfold hl; omega) | exact iv_sI h1 (by unfold hl; omega) | exact iv_rf hI⟩
        · skip
          refine jx_of (fun _ _ kz => jw_iload d_M_step_346 rfl kz) ?_
          refine jx_if_ne 363 d_M_step_348 (by decide) (fun _ => ?_) (fun h => absurd h (by decide))
          refine jx_of (fun _ _ kz => jw_iload d_M_step_363 rfl kz) ?_
          refine jx_iret d_M_step_365 rfl ?_
          exact ⟨rfl, by first | exact h1 | exact iv_sI (iv_tr h1 h2) (by unfold hl; omega) | exact iv_sI h1 (by unfold hl; omega) | exact iv_rf hI⟩
  · skip
    refine jx_of (fun _ _ kz => jw_aload_n 0 d_M_step_253 rfl rfl kz) ?_
    refine jx_of (fun _ _ kz => jw_getPe (some (41, 0)) fl_M_44 d_M_step_254 rfl rfl (by simp [me_I_sI, me_I_sP, me_I_nx, me_P_sI, me_P_sP, me_P_nx, me_N_sI, me_N_sP, me_N_nx, me_L_sI, me_L_sP, me_L_nx, show me_P M 7 0 12 = some (41, 0) from hI.1.1 (7, 0, 12, 41, 0) (by decide)]) kz) ?_
    refine jx_of (fun _ _ kz => jw_iload d_M_step_257 rfl kz) ?_
    refine jx_of (fun _ _ kz => jw_ialde (_) d_M_step_259 rfl rfl (by rw [show me_L _ 41 0 = 144 from (by simp [me_I_sI, me_I_sP, me_I_nx, me_P_sI, me_P_sP, me_P_nx, me_N_sI, me_N_sP, me_N_nx, me_L_sI, me_L_sP, me_L_nx, show me_L M 41 0 = 144 from hI.1.2 (41, 0, 144) (by decide)])]; exact (vp_in_nI (by omega) (by decide))) rfl kz) ?_
    refine jx_of (fun _ _ kz => jw_istore d_M_step_260 (Nat.le_of_ble_eq_true rfl) kz) ?_
    dsimp only [List.set]
    refine jx_of (fun _ _ kz => jw_iload d_M_step_262 rfl kz) ?_
    refine jx_of (fun _ _ kz => jw_bipush 15 d_M_step_264 (by decide) kz) ?_
    refine jx_icmp_ne 280 d_M_step_266 (by decide) (fun b_266 => ?_) (fun b_266 => ?_)
    · skip
      refine jx_of (fun _ _ kz => jw_aload_n 0 d_M_step_280 rfl rfl kz) ?_
      refine jx_of (fun _ _ kz => jw_iload_n 3 d_M_step_281 rfl rfl kz) ?_
      refine jx_of (fun _ _ kz => jw_iload d_M_step_282 rfl kz) ?_
      refine jx_callV (z_M_broken (d + 5) x _ np nt X hI  hx) mt_M_broken cf_M rfl rfl ml_M_165 im_M_broken se_M_broken d_M_step_284 rfl rfl (Nat.le_of_ble_eq_true rfl) ?_
      rintro _ M1 ⟨rfl, h1⟩
      refine jx_eq (st2 := []) rfl rfl rfl ?_
      refine jx_of (fun _ _ kz => jw_iload d_M_step_287 rfl kz) ?_
      refine jx_if_lt 299 d_M_step_289 (by decide) (fun _ => ?_) (fun h => absurd h (by decide))
      refine jx_of (fun _ _ kz => jw_aload_n 0 d_M_step_299 rfl rfl kz) ?_
      refine jx_of (fun _ _ kz => jw_iload d_M_step_300 rfl kz) ?_
      refine jx_of (fun _ _ kz => jw_bipush 15 d_M_step_302 (by decide) kz) ?_
      refine jx_icmp_ne 311 d_M_step_304 (by decide) (fun b_304 => ?_) (fun b_304 => ?_)
      · skip
        refine jx_of (fun _ _ kz => jw_iconst 3 d_M_step_311 (by decide) kz) ?_
        refine jx_of (fun _ _ kz => jw_putI fl_M_151 (Or.inl rfl) rfl rfl d_M_step_312 rfl rfl kz) ?_
        refine jx_of (fun _ _ kz => jw_iconst (-1) d_M_step_315 (by decide) kz) ?_
        refine jx_iret d_M_step_316 rfl ?_
        exact ⟨rfl, by first | exact h1 | exact iv_sI (iv_tr h1 h2) (by unfold hl; omega) | exact iv_sI h1 (by unfold hl; omega) | exact iv_rf hI⟩
      · skip
        refine jx_of (fun _ _ kz => jw_iconst 2 d_M_step_307 (by decide) kz) ?_
        refine jx_of (fun _ _ kz => jw_goto 312 d_M_step_308 (by decide) kz) ?_
        refine jx_of (fun _ _ kz => jw_putI fl_M_151 (Or.inl rfl) rfl rfl d_M_step_312 rfl rfl kz) ?_
        refine jx_of (fun _ _ kz => jw_iconst (-1) d_M_step_315 (by decide) kz) ?_
        refine jx_iret d_M_step_316 rfl ?_
        exact ⟨rfl, by first | exact h1 | exact iv_sI (iv_tr h1 h2) (by unfold hl; omega) | exact iv_sI h1 (by unfold hl; omega) | exact iv_rf hI⟩
    · skip
      refine jx_of (fun _ _ kz => jw_aload_n 0 d_M_step_269 rfl rfl kz) ?_
      refine jx_of (fun _ _ kz => jw_iload_n 3 d_M_step_270 rfl rfl kz) ?_
      refine jx_of (fun _ _ kz => jw_iload d_M_step_271 rfl kz) ?_
      refine jx_of (fun _ _ kz => jw_ineg d_M_step_273 kz) ?_
      refine jx_callV (z_M_ready (d + 5) x ((-_)) np nt X hI  hx) mt_M_ready cf_M rfl rfl ml_M_171 im_M_ready se_M_ready d_M_step_274 rfl rfl (Nat.le_of_ble_eq_true rfl) ?_
      rintro _ M1 ⟨rfl, h1⟩
      refine jx_eq (st2 := []) rfl rfl rfl ?_
      refine jx_of (fun _ _ kz => jw_goto 287 d_M_step_277 (by decide) kz) ?_
      refine jx_of (fun _ _ kz => jw_iload d_M_step_287 rfl kz) ?_
      refine jx_if_lt 299 d_M_step_289 (by decide) (fun _ => ?_) (fun h => absurd h (by decide))
      refine jx_of (fun _ _ kz => jw_aload_n 0 d_M_step_299 rfl rfl kz) ?_
      refine jx_of (fun _ _ kz => jw_iload d_M_step_300 rfl kz) ?_
      refine jx_of (fun _ _ kz => jw_bipush 15 d_M_step_302 (by decide) kz) ?_
      refine jx_icmp_ne 311 d_M_step_304 (by decide) (fun b_304 => ?_) (fun b_304 => ?_)
      · skip
        refine jx_of (fun _ _ kz => jw_iconst 3 d_M_step_311 (by decide) kz) ?_
        refine jx_of (fun _ _ kz => jw_putI fl_M_151 (Or.inl rfl) rfl rfl d_M_step_312 rfl rfl kz) ?_
        refine jx_of (fun _ _ kz => jw_iconst (-1) d_M_step_315 (by decide) kz) ?_
        refine jx_iret d_M_step_316 rfl ?_
        exact ⟨rfl, by first | exact h1 | exact iv_sI (iv_tr h1 h2) (by unfold hl; omega) | exact iv_sI h1 (by unfold hl; omega) | exact iv_rf hI⟩
      · skip
        refine jx_of (fun _ _ kz => jw_iconst 2 d_M_step_307 (by decide) kz) ?_
        refine jx_of (fun _ _ kz => jw_goto 312 d_M_step_308 (by decide) kz) ?_
        refine jx_of (fun _ _ kz => jw_putI fl_M_151 (Or.inl rfl) rfl rfl d_M_step_312 rfl rfl kz) ?_
        refine jx_of (fun _ _ kz => jw_iconst (-1) d_M_step_315 (by decide) kz) ?_
        refine jx_iret d_M_step_316 rfl ?_
        exact ⟨rfl, by first | exact h1 | exact iv_sI (iv_tr h1 h2) (by unfold hl; omega) | exact iv_sI h1 (by unfold hl; omega) | exact iv_rf hI⟩
set_option maxRecDepth 20000 in
set_option maxHeartbeats 4000000 in
theorem z_M_step_12 {G : Gt} {M : Me} (d : Nat) (t : Nat) (n : Nat) (x : Nat) (p : Nat) (len : Nat) (o : Nat → Nat) (np : Nat) (nt : Nat) (X : List Nat) (hI : mI M np nt X) (ht : t < nt) (hp : tP M t p len o) (hn : n < len) (hx : x < 144) (hpn : pN (o n) = 2) : sx G yt_M_step yn_M_step (d + 7) [.inr (some (7, 0)), .inl (nI t), .inl (nI n), .inl (nI x), .inl 1] M (fun r M' => (r = some (.inl (-1)) ∨ ∃ c, n < c ∧ c < len ∧ r = some (.inl (nI c))) ∧ iv np nt nt X M M') := by
  refine sx_of (k := 8) (lc := [some (.inr (some (7, 0))), some (.inl (nI t)), some (.inl (nI n)), some (.inl (nI x)), some (.inl 1), none, none, none, none, none, none, none, none]) mt_M_step (Nat.le_of_ble_eq_true rfl) rfl ?_
  have hok := hp.2.2.2.2.1 n hn
  obtain ⟨A, hA⟩ : ∃ A, me_I M 31 0 (12 * p + n) = A := ⟨_, rfl⟩
  have hnt := hI.2.2.1.2.1
  have hle := hp.2.2.1
  have hc1 := ch1 hp.2.2 hn (by omega)
  refine jx_of (fun _ _ kz => jw_aload_n 0 d_M_step_0 rfl rfl kz) ?_
  refine jx_of (fun _ _ kz => jw_iload_n 1 d_M_step_1 rfl rfl kz) ?_
  refine jx_of (fun _ _ kz => jw_iload_n 2 d_M_step_2 rfl rfl kz) ?_
  refine jx_callV (z_M_opOf (d + 5) t n p hI.1  (by omega) (by omega) hp.1 hp.2.1) mt_M_opOf cf_M rfl rfl ml_M_108 im_M_opOf se_M_opOf d_M_step_3 rfl rfl (Nat.le_of_ble_eq_true rfl) ?_
  rintro _ _ ⟨rfl, rfl⟩
  refine jx_eq (st2 := [.inl (me_I M 30 0 (12 * p + n))]) rfl rfl rfl ?_
  rw [show (me_I M 30 0 (12 * p + n) : Int32) = nI (o n) from hok.2.1]
  refine jx_of (fun _ _ kz => jw_istore d_M_step_6 (Nat.le_of_ble_eq_true rfl) kz) ?_
  dsimp only [List.set]
  refine jx_of (fun _ _ kz => jw_aload_n 0 d_M_step_8 rfl rfl kz) ?_
  refine jx_of (fun _ _ kz => jw_iload_n 1 d_M_step_9 rfl rfl kz) ?_
  refine jx_of (fun _ _ kz => jw_iload_n 2 d_M_step_10 rfl rfl kz) ?_
  refine jx_callV (z_M_argOf (d + 5) t n p hI.1  (by omega) (by omega) hp.1 hp.2.1) mt_M_argOf cf_M rfl rfl ml_M_132 im_M_argOf se_M_argOf d_M_step_11 rfl rfl (Nat.le_of_ble_eq_true rfl) ?_
  rintro _ _ ⟨rfl, rfl⟩
  refine jx_eq (st2 := [.inl (me_I M 31 0 (12 * p + n))]) rfl rfl rfl ?_
  rw [show (me_I M 31 0 (12 * p + n) : Int32) = A from hA]
  refine jx_of (fun _ _ kz => jw_istore d_M_step_14 (Nat.le_of_ble_eq_true rfl) kz) ?_
  dsimp only [List.set]
  refine jx_of (fun _ _ kz => jw_iload_n 2 d_M_step_16 rfl rfl kz) ?_
  refine jx_of (fun _ _ kz => jw_iconst 1 d_M_step_17 (by decide) kz) ?_
  refine jx_of (fun _ _ kz => jw_iadd d_M_step_18 kz) ?_
  rw [show ((nI n) + 1 : Int32) = nI (n + 1) from nI_1 _]
  refine jx_of (fun _ _ kz => jw_istore d_M_step_19 (Nat.le_of_ble_eq_true rfl) kz) ?_
  dsimp only [List.set]
  refine jx_of (fun _ _ kz => jw_iload d_M_step_21 rfl kz) ?_
  refine jx_callS (z_M_parts (d + 4) ((o n))  hok.1) mt_M_parts ml_M_101 sm_M_parts d_M_step_23 rfl rfl (Nat.le_of_ble_eq_true rfl) ?_
  rintro _ _ ⟨rfl, rfl⟩
  refine jx_eq (st2 := [.inl (nI (pN (o n)))]) rfl rfl rfl ?_
  rw [show (nI (pN (o n)) : Int32) = 2 from (by rw [hpn]; rfl)]
  refine jx_of (fun _ _ kz => jw_iconst 2 d_M_step_26 (by decide) kz) ?_
  refine jx_icmp_ne 40 d_M_step_27 (by decide) (fun h => absurd h (by decide)) (fun _ => ?_)
  refine jx_of (fun _ _ kz => jw_aload_n 0 d_M_step_30 rfl rfl kz) ?_
  refine jx_of (fun _ _ kz => jw_iload_n 1 d_M_step_31 rfl rfl kz) ?_
  refine jx_of (fun _ _ kz => jw_iload d_M_step_32 rfl kz) ?_
  refine jx_callV (z_M_end (d + 3) t ((n + 1)) p len o hI.1  (by omega) hp.1 hp.2.1 hp.2.2 hc1) mt_M_end cf_M rfl rfl ml_M_141 im_M_end se_M_end d_M_step_34 rfl rfl (Nat.le_of_ble_eq_true rfl) ?_
  rintro _ _ ⟨⟨e, he1, he2, he3, rfl⟩, rfl⟩
  have hc2 := ch2 hp.2.2 hn hpn he2 he3
  refine jx_eq (st2 := [.inl (nI e)]) rfl rfl rfl ?_
  refine jx_of (fun _ _ kz => jw_goto 41 d_M_step_37 (by decide) kz) ?_
  refine jx_of (fun _ _ kz => jw_istore d_M_step_41 (Nat.le_of_ble_eq_true rfl) kz) ?_
  dsimp only [List.set]
  refine jx_of (fun _ _ kz => jw_bipush 12 d_M_step_43 (by decide) kz) ?_
  refine jx_of (fun _ _ kz => jw_iload_n 1 d_M_step_45 rfl rfl kz) ?_
  refine jx_of (fun _ _ kz => jw_imul d_M_step_46 kz) ?_
  rw [show (12 * (nI t) : Int32) = nI (12 * t) from n12 t]
  refine jx_of (fun _ _ kz => jw_iload d_M_step_47 rfl kz) ?_
  refine jx_of (fun _ _ kz => jw_iadd d_M_step_49 kz) ?_
  rw [show ((nI (12 * t)) + (nI (n + 1)) : Int32) = nI (12 * t + (n + 1)) from nI_add _ _]
  refine jx_of (fun _ _ kz => jw_istore d_M_step_50 (Nat.le_of_ble_eq_true rfl) kz) ?_
  dsimp only [List.set]
  refine jx_of (fun _ _ kz => jw_bipush 12 d_M_step_52 (by decide) kz) ?_
  refine jx_of (fun _ _ kz => jw_iload_n 1 d_M_step_54 rfl rfl kz) ?_
  refine jx_of (fun _ _ kz => jw_imul d_M_step_55 kz) ?_
  rw [show (12 * (nI t) : Int32) = nI (12 * t) from n12 t]
  refine jx_of (fun _ _ kz => jw_iload d_M_step_56 rfl kz) ?_
  refine jx_of (fun _ _ kz => jw_iadd d_M_step_58 kz) ?_
  rw [show ((nI (12 * t)) + (nI e) : Int32) = nI (12 * t + e) from nI_add _ _]
  refine jx_of (fun _ _ kz => jw_istore d_M_step_59 (Nat.le_of_ble_eq_true rfl) kz) ?_
  dsimp only [List.set]
  refine jx_of (fun _ _ kz => jw_iload d_M_step_61 rfl kz) ?_
  refine jx_if_ne 105 d_M_step_63 (by decide) (fun _ => ?_) (fun h => absurd h (by decide))
  refine jx_of (fun _ _ kz => jw_iload d_M_step_105 rfl kz) ?_
  refine jx_of (fun _ _ kz => jw_iconst 2 d_M_step_107 (by decide) kz) ?_
  refine jx_icmp_ne 245 d_M_step_108 (by decide) (fun _ => ?_) (fun h => absurd h (by decide))
  refine jx_of (fun _ _ kz => jw_aload_n 0 d_M_step_245 rfl rfl kz) ?_
  refine jx_of (fun _ _ kz => jw_getIe (me_I M 7 0 34) fl_M_151 d_M_step_246 rfl rfl rfl kz) ?_
  refine jx_of (fun _ _ kz => jw_iconst 3 d_M_step_249 (by decide) kz) ?_
  refine jx_icmp_ne 317 d_M_step_250 (by decide) (fun b_250 => ?_) (fun b_250 => ?_)
  · skip
    refine jx_of (fun _ _ kz => jw_aload_n 0 d_M_step_317 rfl rfl kz) ?_
    refine jx_of (fun _ _ kz => jw_getIe (me_I M 7 0 34) fl_M_151 d_M_step_318 rfl rfl rfl kz) ?_
    refine jx_of (fun _ _ kz => jw_iconst 2 d_M_step_321 (by decide) kz) ?_
    refine jx_icmp_ne 329 d_M_step_322 (by decide) (fun b_322 => ?_) (fun b_322 => ?_)
    · skip
      refine jx_of (fun _ _ kz => jw_iconst 0 d_M_step_329 (by decide) kz) ?_
      refine jx_of (fun _ _ kz => jw_istore d_M_step_330 (Nat.le_of_ble_eq_true rfl) kz) ?_
      dsimp only [List.set]
      refine jx_of (fun _ _ kz => jw_iload d_M_step_332 rfl kz) ?_
      refine jx_of (fun _ _ kz => jw_bipush 11 d_M_step_334 (by decide) kz) ?_
      refine jx_icmp_eq 363 d_M_step_336 (by decide) (fun b_336 => ?_) (fun b_336 => ?_)
      · skip
        refine jx_of (fun _ _ kz => jw_iload d_M_step_363 rfl kz) ?_
        refine jx_iret d_M_step_365 rfl ?_
        exact ⟨Or.inr ⟨e, by omega, hc2, rfl⟩, iv_rf hI⟩
      · skip
        refine jx_of (fun _ _ kz => jw_iload d_M_step_339 rfl kz) ?_
        refine jx_of (fun _ _ kz => jw_bipush 10 d_M_step_341 (by decide) kz) ?_
        refine jx_icmp_ne 351 d_M_step_343 (by decide) (fun b_343 => ?_) (fun b_343 => ?_)
        · skip
          refine jx_of (fun _ _ kz => jw_iload d_M_step_351 rfl kz) ?_
          refine jx_of (fun _ _ kz => jw_bipush 12 d_M_step_353 (by decide) kz) ?_
          refine jx_icmp_ne 366 d_M_step_355 (by decide) (fun b_355 => ?_) (fun b_355 => ?_)
          · skip
            refine jx_of (fun _ _ kz => jw_iload d_M_step_366 rfl kz) ?_
            refine jx_of (fun _ _ kz => jw_bipush 8 d_M_step_368 (by decide) kz) ?_
            refine jx_icmp_ne 394 d_M_step_370 (by decide) (fun b_370 => ?_) (fun b_370 => ?_)
            · skip
              refine jx_of (fun _ _ kz => jw_iload d_M_step_394 rfl kz) ?_
              refine jx_if_eq 450 d_M_step_396 (by decide) (fun _ => ?_) (fun h => absurd h (by decide))
              refine jx_of (fun _ _ kz => jw_iload d_M_step_450 rfl kz) ?_
              refine jx_of (fun _ _ kz => jw_bipush 13 d_M_step_452 (by decide) kz) ?_
              refine jx_icmp_ne 491 d_M_step_454 (by decide) (fun b_454 => ?_) (fun b_454 => ?_)
              · skip
                refine jx_of (fun _ _ kz => jw_aload_n 0 d_M_step_491 rfl rfl kz) ?_
                refine jx_of (fun _ _ kz => jw_iload_n 3 d_M_step_492 rfl rfl kz) ?_
                refine jx_callV (z_M_pending (d + 5) x np nt X hI  hx) mt_M_pending cf_M rfl rfl ml_M_174 im_M_pending se_M_pending d_M_step_493 rfl rfl (Nat.le_of_ble_eq_true rfl) ?_
                rintro _ M1 ⟨rfl, h1⟩
                refine jx_eq (st2 := []) rfl rfl rfl ?_
                refine jx_of (fun _ _ kz => jw_iconst (-1) d_M_step_496 (by decide) kz) ?_
                refine jx_iret d_M_step_497 rfl ?_
                exact ⟨Or.inl rfl, by first | exact h1 | exact iv_sI (iv_tr h1 h2) (by unfold hl; omega) | exact iv_sI h1 (by unfold hl; omega) | exact iv_rf hI⟩
              · skip
                refine jx_of (fun _ _ kz => jw_aload_n 0 d_M_step_457 rfl rfl kz) ?_
                refine jx_of (fun _ _ kz => jw_getIe (me_I M 7 0 29) fl_M_162 d_M_step_458 rfl rfl rfl kz) ?_
                refine jx_of (fun _ _ kz => jw_aload_n 0 d_M_step_461 rfl rfl kz) ?_
                refine jx_of (fun _ _ kz => jw_getPe (some (42, 0)) fl_M_47 d_M_step_462 rfl rfl (by simp [me_I_sI, me_I_sP, me_I_nx, me_P_sI, me_P_sP, me_P_nx, me_N_sI, me_N_sP, me_N_nx, me_L_sI, me_L_sP, me_L_nx, show me_P M 7 0 13 = some (42, 0) from hI.1.1 (7, 0, 13, 42, 0) (by decide)]) kz) ?_
                refine jx_of (fun _ _ kz => jw_iload_n 3 d_M_step_465 rfl rfl kz) ?_
                refine jx_of (fun _ _ kz => jw_ialde (me_I M 42 0 x) d_M_step_466 rfl rfl (by rw [show me_L _ 42 0 = 144 from (by simp [me_I_sI, me_I_sP, me_I_nx, me_P_sI, me_P_sP, me_P_nx, me_N_sI, me_N_sP, me_N_nx, me_L_sI, me_L_sP, me_L_nx, show me_L M 42 0 = 144 from hI.1.2 (42, 0, 144) (by decide)])]; exact (vp_in_nI hx (by decide))) (by rw [nI_clamp (by omega)] <;> simp [me_I_sI]) kz) ?_
                refine jx_icmp_lt 491 d_M_step_467 (by decide) (fun b_467 => ?_) (fun b_467 => ?_)
                · skip
                  refine jx_of (fun _ _ kz => jw_aload_n 0 d_M_step_491 rfl rfl kz) ?_
                  refine jx_of (fun _ _ kz => jw_iload_n 3 d_M_step_492 rfl rfl kz) ?_
                  refine jx_callV (z_M_pending (d + 5) x np nt X hI  hx) mt_M_pending cf_M rfl rfl ml_M_174 im_M_pending se_M_pending d_M_step_493 rfl rfl (Nat.le_of_ble_eq_true rfl) ?_
                  rintro _ M1 ⟨rfl, h1⟩
                  refine jx_eq (st2 := []) rfl rfl rfl ?_
                  refine jx_of (fun _ _ kz => jw_iconst (-1) d_M_step_496 (by decide) kz) ?_
                  refine jx_iret d_M_step_497 rfl ?_
                  exact ⟨Or.inl rfl, by first | exact h1 | exact iv_sI (iv_tr h1 h2) (by unfold hl; omega) | exact iv_sI h1 (by unfold hl; omega) | exact iv_rf hI⟩
                · skip
                  refine jx_of (fun _ _ kz => jw_aload_n 0 d_M_step_470 rfl rfl kz) ?_
                  refine jx_of (fun _ _ kz => jw_iload_n 3 d_M_step_471 rfl rfl kz) ?_
                  refine jx_of (fun _ _ kz => jw_iconst (-1) d_M_step_472 (by decide) kz) ?_
                  refine jx_callV (z_M_ready (d + 5) x (((-1))) np nt X hI  hx) mt_M_ready cf_M rfl rfl ml_M_171 im_M_ready se_M_ready d_M_step_473 rfl rfl (Nat.le_of_ble_eq_true rfl) ?_
                  rintro _ M1 ⟨rfl, h1⟩
                  refine jx_eq (st2 := []) rfl rfl rfl ?_
                  refine jx_of (fun _ _ kz => jw_aload_n 0 d_M_step_476 rfl rfl kz) ?_
                  refine jx_of (fun _ _ kz => jw_iload_n 1 d_M_step_477 rfl rfl kz) ?_
                  refine jx_of (fun _ _ kz => jw_iload d_M_step_478 rfl kz) ?_
                  refine jx_callV (z_M_drop d t ((n + 1)) p len o np nt X h1.2.1  ht (tP_iv hp h1 ht) (by first | exact hc1 | exact hc2)) mt_M_drop cf_M rfl rfl ml_M_168 im_M_drop se_M_drop d_M_step_480 rfl rfl (Nat.le_of_ble_eq_true rfl) ?_
                  rintro _ M2 ⟨rfl, h2⟩
                  refine jx_eq (st2 := []) rfl rfl rfl ?_
                  refine jx_of (fun _ _ kz => jw_aload_n 0 d_M_step_483 rfl rfl kz) ?_
                  refine jx_of (fun _ _ kz => jw_iconst 2 d_M_step_484 (by decide) kz) ?_
                  refine jx_of (fun _ _ kz => jw_putI fl_M_151 (Or.inl rfl) rfl rfl d_M_step_485 rfl rfl kz) ?_
                  refine jx_of (fun _ _ kz => jw_goto 496 d_M_step_488 (by decide) kz) ?_
                  refine jx_of (fun _ _ kz => jw_iconst (-1) d_M_step_496 (by decide) kz) ?_
                  refine jx_iret d_M_step_497 rfl ?_
                  exact ⟨Or.inl rfl, by first | exact h1 | exact iv_sI (iv_tr h1 h2) (by unfold hl; omega) | exact iv_sI h1 (by unfold hl; omega) | exact iv_rf hI⟩
            · skip
              refine jx_of (fun _ _ kz => jw_iload d_M_step_373 rfl kz) ?_
              refine jx_if_eq 394 d_M_step_375 (by decide) (fun _ => ?_) (fun h => absurd h (by decide))
              refine jx_of (fun _ _ kz => jw_iload d_M_step_394 rfl kz) ?_
              refine jx_if_eq 450 d_M_step_396 (by decide) (fun _ => ?_) (fun h => absurd h (by decide))
              refine jx_of (fun _ _ kz => jw_iload d_M_step_450 rfl kz) ?_
              refine jx_of (fun _ _ kz => jw_bipush 13 d_M_step_452 (by decide) kz) ?_
              refine jx_icmp_ne 491 d_M_step_454 (by decide) (fun b_454 => ?_) (fun b_454 => ?_)
              · skip
                refine jx_of (fun _ _ kz => jw_aload_n 0 d_M_step_491 rfl rfl kz) ?_
                refine jx_of (fun _ _ kz => jw_iload_n 3 d_M_step_492 rfl rfl kz) ?_
                refine jx_callV (z_M_pending (d + 5) x np nt X hI  hx) mt_M_pending cf_M rfl rfl ml_M_174 im_M_pending se_M_pending d_M_step_493 rfl rfl (Nat.le_of_ble_eq_true rfl) ?_
                rintro _ M1 ⟨rfl, h1⟩
                refine jx_eq (st2 := []) rfl rfl rfl ?_
                refine jx_of (fun _ _ kz => jw_iconst (-1) d_M_step_496 (by decide) kz) ?_
                refine jx_iret d_M_step_497 rfl ?_
                exact ⟨Or.inl rfl, by first | exact h1 | exact iv_sI (iv_tr h1 h2) (by unfold hl; omega) | exact iv_sI h1 (by unfold hl; omega) | exact iv_rf hI⟩
              · skip
                refine jx_of (fun _ _ kz => jw_aload_n 0 d_M_step_457 rfl rfl kz) ?_
                refine jx_of (fun _ _ kz => jw_getIe (me_I M 7 0 29) fl_M_162 d_M_step_458 rfl rfl rfl kz) ?_
                refine jx_of (fun _ _ kz => jw_aload_n 0 d_M_step_461 rfl rfl kz) ?_
                refine jx_of (fun _ _ kz => jw_getPe (some (42, 0)) fl_M_47 d_M_step_462 rfl rfl (by simp [me_I_sI, me_I_sP, me_I_nx, me_P_sI, me_P_sP, me_P_nx, me_N_sI, me_N_sP, me_N_nx, me_L_sI, me_L_sP, me_L_nx, show me_P M 7 0 13 = some (42, 0) from hI.1.1 (7, 0, 13, 42, 0) (by decide)]) kz) ?_
                refine jx_of (fun _ _ kz => jw_iload_n 3 d_M_step_465 rfl rfl kz) ?_
                refine jx_of (fun _ _ kz => jw_ialde (me_I M 42 0 x) d_M_step_466 rfl rfl (by rw [show me_L _ 42 0 = 144 from (by simp [me_I_sI, me_I_sP, me_I_nx, me_P_sI, me_P_sP, me_P_nx, me_N_sI, me_N_sP, me_N_nx, me_L_sI, me_L_sP, me_L_nx, show me_L M 42 0 = 144 from hI.1.2 (42, 0, 144) (by decide)])]; exact (vp_in_nI hx (by decide))) (by rw [nI_clamp (by omega)] <;> simp [me_I_sI]) kz) ?_
                refine jx_icmp_lt 491 d_M_step_467 (by decide) (fun b_467 => ?_) (fun b_467 => ?_)
                · skip
                  refine jx_of (fun _ _ kz => jw_aload_n 0 d_M_step_491 rfl rfl kz) ?_
                  refine jx_of (fun _ _ kz => jw_iload_n 3 d_M_step_492 rfl rfl kz) ?_
                  refine jx_callV (z_M_pending (d + 5) x np nt X hI  hx) mt_M_pending cf_M rfl rfl ml_M_174 im_M_pending se_M_pending d_M_step_493 rfl rfl (Nat.le_of_ble_eq_true rfl) ?_
                  rintro _ M1 ⟨rfl, h1⟩
                  refine jx_eq (st2 := []) rfl rfl rfl ?_
                  refine jx_of (fun _ _ kz => jw_iconst (-1) d_M_step_496 (by decide) kz) ?_
                  refine jx_iret d_M_step_497 rfl ?_
                  exact ⟨Or.inl rfl, by first | exact h1 | exact iv_sI (iv_tr h1 h2) (by unfold hl; omega) | exact iv_sI h1 (by unfold hl; omega) | exact iv_rf hI⟩
                · skip
                  refine jx_of (fun _ _ kz => jw_aload_n 0 d_M_step_470 rfl rfl kz) ?_
                  refine jx_of (fun _ _ kz => jw_iload_n 3 d_M_step_471 rfl rfl kz) ?_
                  refine jx_of (fun _ _ kz => jw_iconst (-1) d_M_step_472 (by decide) kz) ?_
                  refine jx_callV (z_M_ready (d + 5) x (((-1))) np nt X hI  hx) mt_M_ready cf_M rfl rfl ml_M_171 im_M_ready se_M_ready d_M_step_473 rfl rfl (Nat.le_of_ble_eq_true rfl) ?_
                  rintro _ M1 ⟨rfl, h1⟩
                  refine jx_eq (st2 := []) rfl rfl rfl ?_
                  refine jx_of (fun _ _ kz => jw_aload_n 0 d_M_step_476 rfl rfl kz) ?_
                  refine jx_of (fun _ _ kz => jw_iload_n 1 d_M_step_477 rfl rfl kz) ?_
                  refine jx_of (fun _ _ kz => jw_iload d_M_step_478 rfl kz) ?_
                  refine jx_callV (z_M_drop d t ((n + 1)) p len o np nt X h1.2.1  ht (tP_iv hp h1 ht) (by first | exact hc1 | exact hc2)) mt_M_drop cf_M rfl rfl ml_M_168 im_M_drop se_M_drop d_M_step_480 rfl rfl (Nat.le_of_ble_eq_true rfl) ?_
                  rintro _ M2 ⟨rfl, h2⟩
                  refine jx_eq (st2 := []) rfl rfl rfl ?_
                  refine jx_of (fun _ _ kz => jw_aload_n 0 d_M_step_483 rfl rfl kz) ?_
                  refine jx_of (fun _ _ kz => jw_iconst 2 d_M_step_484 (by decide) kz) ?_
                  refine jx_of (fun _ _ kz => jw_putI fl_M_151 (Or.inl rfl) rfl rfl d_M_step_485 rfl rfl kz) ?_
                  refine jx_of (fun _ _ kz => jw_goto 496 d_M_step_488 (by decide) kz) ?_
                  refine jx_of (fun _ _ kz => jw_iconst (-1) d_M_step_496 (by decide) kz) ?_
                  refine jx_iret d_M_step_497 rfl ?_
                  exact ⟨Or.inl rfl, by first | exact h1 | exact iv_sI (iv_tr h1 h2) (by unfold hl; omega) | exact iv_sI h1 (by unfold hl; omega) | exact iv_rf hI⟩
          · skip
            refine jx_of (fun _ _ kz => jw_iload d_M_step_358 rfl kz) ?_
            refine jx_if_ne 366 d_M_step_360 (by decide) (fun h => absurd h (by decide)) (fun _ => ?_)
            refine jx_of (fun _ _ kz => jw_iload d_M_step_363 rfl kz) ?_
            refine jx_iret d_M_step_365 rfl ?_
            exact ⟨Or.inr ⟨e, by omega, hc2, rfl⟩, iv_rf hI⟩
        · skip
          refine jx_of (fun _ _ kz => jw_iload d_M_step_346 rfl kz) ?_
          refine jx_if_ne 363 d_M_step_348 (by decide) (fun h => absurd h (by decide)) (fun _ => ?_)
          refine jx_of (fun _ _ kz => jw_iload d_M_step_351 rfl kz) ?_
          refine jx_of (fun _ _ kz => jw_bipush 12 d_M_step_353 (by decide) kz) ?_
          refine jx_icmp_ne 366 d_M_step_355 (by decide) (fun b_355 => ?_) (fun b_355 => ?_)
          · skip
            refine jx_of (fun _ _ kz => jw_iload d_M_step_366 rfl kz) ?_
            refine jx_of (fun _ _ kz => jw_bipush 8 d_M_step_368 (by decide) kz) ?_
            refine jx_icmp_ne 394 d_M_step_370 (by decide) (fun b_370 => ?_) (fun b_370 => ?_)
            · skip
              refine jx_of (fun _ _ kz => jw_iload d_M_step_394 rfl kz) ?_
              refine jx_if_eq 450 d_M_step_396 (by decide) (fun _ => ?_) (fun h => absurd h (by decide))
              refine jx_of (fun _ _ kz => jw_iload d_M_step_450 rfl kz) ?_
              refine jx_of (fun _ _ kz => jw_bipush 13 d_M_step_452 (by decide) kz) ?_
              refine jx_icmp_ne 491 d_M_step_454 (by decide) (fun b_454 => ?_) (fun b_454 => ?_)
              · skip
                refine jx_of (fun _ _ kz => jw_aload_n 0 d_M_step_491 rfl rfl kz) ?_
                refine jx_of (fun _ _ kz => jw_iload_n 3 d_M_step_492 rfl rfl kz) ?_
                refine jx_callV (z_M_pending (d + 5) x np nt X hI  hx) mt_M_pending cf_M rfl rfl ml_M_174 im_M_pending se_M_pending d_M_step_493 rfl rfl (Nat.le_of_ble_eq_true rfl) ?_
                rintro _ M1 ⟨rfl, h1⟩
                refine jx_eq (st2 := []) rfl rfl rfl ?_
                refine jx_of (fun _ _ kz => jw_iconst (-1) d_M_step_496 (by decide) kz) ?_
                refine jx_iret d_M_step_497 rfl ?_
                exact ⟨Or.inl rfl, by first | exact h1 | exact iv_sI (iv_tr h1 h2) (by unfold hl; omega) | exact iv_sI h1 (by unfold hl; omega) | exact iv_rf hI⟩
              · skip
                refine jx_of (fun _ _ kz => jw_aload_n 0 d_M_step_457 rfl rfl kz) ?_
                refine jx_of (fun _ _ kz => jw_getIe (me_I M 7 0 29) fl_M_162 d_M_step_458 rfl rfl rfl kz) ?_
                refine jx_of (fun _ _ kz => jw_aload_n 0 d_M_step_461 rfl rfl kz) ?_
                refine jx_of (fun _ _ kz => jw_getPe (some (42, 0)) fl_M_47 d_M_step_462 rfl rfl (by simp [me_I_sI, me_I_sP, me_I_nx, me_P_sI, me_P_sP, me_P_nx, me_N_sI, me_N_sP, me_N_nx, me_L_sI, me_L_sP, me_L_nx, show me_P M 7 0 13 = some (42, 0) from hI.1.1 (7, 0, 13, 42, 0) (by decide)]) kz) ?_
                refine jx_of (fun _ _ kz => jw_iload_n 3 d_M_step_465 rfl rfl kz) ?_
                refine jx_of (fun _ _ kz => jw_ialde (me_I M 42 0 x) d_M_step_466 rfl rfl (by rw [show me_L _ 42 0 = 144 from (by simp [me_I_sI, me_I_sP, me_I_nx, me_P_sI, me_P_sP, me_P_nx, me_N_sI, me_N_sP, me_N_nx, me_L_sI, me_L_sP, me_L_nx, show me_L M 42 0 = 144 from hI.1.2 (42, 0, 144) (by decide)])]; exact (vp_in_nI hx (by decide))) (by rw [nI_clamp (by omega)] <;> simp [me_I_sI]) kz) ?_
                refine jx_icmp_lt 491 d_M_step_467 (by decide) (fun b_467 => ?_) (fun b_467 => ?_)
                · skip
                  refine jx_of (fun _ _ kz => jw_aload_n 0 d_M_step_491 rfl rfl kz) ?_
                  refine jx_of (fun _ _ kz => jw_iload_n 3 d_M_step_492 rfl rfl kz) ?_
                  refine jx_callV (z_M_pending (d + 5) x np nt X hI  hx) mt_M_pending cf_M rfl rfl ml_M_174 im_M_pending se_M_pending d_M_step_493 rfl rfl (Nat.le_of_ble_eq_true rfl) ?_
                  rintro _ M1 ⟨rfl, h1⟩
                  refine jx_eq (st2 := []) rfl rfl rfl ?_
                  refine jx_of (fun _ _ kz => jw_iconst (-1) d_M_step_496 (by decide) kz) ?_
                  refine jx_iret d_M_step_497 rfl ?_
                  exact ⟨Or.inl rfl, by first | exact h1 | exact iv_sI (iv_tr h1 h2) (by unfold hl; omega) | exact iv_sI h1 (by unfold hl; omega) | exact iv_rf hI⟩
                · skip
                  refine jx_of (fun _ _ kz => jw_aload_n 0 d_M_step_470 rfl rfl kz) ?_
                  refine jx_of (fun _ _ kz => jw_iload_n 3 d_M_step_471 rfl rfl kz) ?_
                  refine jx_of (fun _ _ kz => jw_iconst (-1) d_M_step_472 (by decide) kz) ?_
                  refine jx_callV (z_M_ready (d + 5) x (((-1))) np nt X hI  hx) mt_M_ready cf_M rfl rfl ml_M_171 im_M_ready se_M_ready d_M_step_473 rfl rfl (Nat.le_of_ble_eq_true rfl) ?_
                  rintro _ M1 ⟨rfl, h1⟩
                  refine jx_eq (st2 := []) rfl rfl rfl ?_
                  refine jx_of (fun _ _ kz => jw_aload_n 0 d_M_step_476 rfl rfl kz) ?_
                  refine jx_of (fun _ _ kz => jw_iload_n 1 d_M_step_477 rfl rfl kz) ?_
                  refine jx_of (fun _ _ kz => jw_iload d_M_step_478 rfl kz) ?_
                  refine jx_callV (z_M_drop d t ((n + 1)) p len o np nt X h1.2.1  ht (tP_iv hp h1 ht) (by first | exact hc1 | exact hc2)) mt_M_drop cf_M rfl rfl ml_M_168 im_M_drop se_M_drop d_M_step_480 rfl rfl (Nat.le_of_ble_eq_true rfl) ?_
                  rintro _ M2 ⟨rfl, h2⟩
                  refine jx_eq (st2 := []) rfl rfl rfl ?_
                  refine jx_of (fun _ _ kz => jw_aload_n 0 d_M_step_483 rfl rfl kz) ?_
                  refine jx_of (fun _ _ kz => jw_iconst 2 d_M_step_484 (by decide) kz) ?_
                  refine jx_of (fun _ _ kz => jw_putI fl_M_151 (Or.inl rfl) rfl rfl d_M_step_485 rfl rfl kz) ?_
                  refine jx_of (fun _ _ kz => jw_goto 496 d_M_step_488 (by decide) kz) ?_
                  refine jx_of (fun _ _ kz => jw_iconst (-1) d_M_step_496 (by decide) kz) ?_
                  refine jx_iret d_M_step_497 rfl ?_
                  exact ⟨Or.inl rfl, by first | exact h1 | exact iv_sI (iv_tr h1 h2) (by unfold hl; omega) | exact iv_sI h1 (by unfold hl; omega) | exact iv_rf hI⟩
            · skip
              refine jx_of (fun _ _ kz => jw_iload d_M_step_373 rfl kz) ?_
              refine jx_if_eq 394 d_M_step_375 (by decide) (fun _ => ?_) (fun h => absurd h (by decide))
              refine jx_of (fun _ _ kz => jw_iload d_M_step_394 rfl kz) ?_
              refine jx_if_eq 450 d_M_step_396 (by decide) (fun _ => ?_) (fun h => absurd h (by decide))
              refine jx_of (fun _ _ kz => jw_iload d_M_step_450 rfl kz) ?_
              refine jx_of (fun _ _ kz => jw_bipush 13 d_M_step_452 (by decide) kz) ?_
              refine jx_icmp_ne 491 d_M_step_454 (by decide) (fun b_454 => ?_) (fun b_454 => ?_)
              · skip
                refine jx_of (fun _ _ kz => jw_aload_n 0 d_M_step_491 rfl rfl kz) ?_
                refine jx_of (fun _ _ kz => jw_iload_n 3 d_M_step_492 rfl rfl kz) ?_
                refine jx_callV (z_M_pending (d + 5) x np nt X hI  hx) mt_M_pending cf_M rfl rfl ml_M_174 im_M_pending se_M_pending d_M_step_493 rfl rfl (Nat.le_of_ble_eq_true rfl) ?_
                rintro _ M1 ⟨rfl, h1⟩
                refine jx_eq (st2 := []) rfl rfl rfl ?_
                refine jx_of (fun _ _ kz => jw_iconst (-1) d_M_step_496 (by decide) kz) ?_
                refine jx_iret d_M_step_497 rfl ?_
                exact ⟨Or.inl rfl, by first | exact h1 | exact iv_sI (iv_tr h1 h2) (by unfold hl; omega) | exact iv_sI h1 (by unfold hl; omega) | exact iv_rf hI⟩
              · skip
                refine jx_of (fun _ _ kz => jw_aload_n 0 d_M_step_457 rfl rfl kz) ?_
                refine jx_of (fun _ _ kz => jw_getIe (me_I M 7 0 29) fl_M_162 d_M_step_458 rfl rfl rfl kz) ?_
                refine jx_of (fun _ _ kz => jw_aload_n 0 d_M_step_461 rfl rfl kz) ?_
                refine jx_of (fun _ _ kz => jw_getPe (some (42, 0)) fl_M_47 d_M_step_462 rfl rfl (by simp [me_I_sI, me_I_sP, me_I_nx, me_P_sI, me_P_sP, me_P_nx, me_N_sI, me_N_sP, me_N_nx, me_L_sI, me_L_sP, me_L_nx, show me_P M 7 0 13 = some (42, 0) from hI.1.1 (7, 0, 13, 42, 0) (by decide)]) kz) ?_
                refine jx_of (fun _ _ kz => jw_iload_n 3 d_M_step_465 rfl rfl kz) ?_
                refine jx_of (fun _ _ kz => jw_ialde (me_I M 42 0 x) d_M_step_466 rfl rfl (by rw [show me_L _ 42 0 = 144 from (by simp [me_I_sI, me_I_sP, me_I_nx, me_P_sI, me_P_sP, me_P_nx, me_N_sI, me_N_sP, me_N_nx, me_L_sI, me_L_sP, me_L_nx, show me_L M 42 0 = 144 from hI.1.2 (42, 0, 144) (by decide)])]; exact (vp_in_nI hx (by decide))) (by rw [nI_clamp (by omega)] <;> simp [me_I_sI]) kz) ?_
                refine jx_icmp_lt 491 d_M_step_467 (by decide) (fun b_467 => ?_) (fun b_467 => ?_)
                · skip
                  refine jx_of (fun _ _ kz => jw_aload_n 0 d_M_step_491 rfl rfl kz) ?_
                  refine jx_of (fun _ _ kz => jw_iload_n 3 d_M_step_492 rfl rfl kz) ?_
                  refine jx_callV (z_M_pending (d + 5) x np nt X hI  hx) mt_M_pending cf_M rfl rfl ml_M_174 im_M_pending se_M_pending d_M_step_493 rfl rfl (Nat.le_of_ble_eq_true rfl) ?_
                  rintro _ M1 ⟨rfl, h1⟩
                  refine jx_eq (st2 := []) rfl rfl rfl ?_
                  refine jx_of (fun _ _ kz => jw_iconst (-1) d_M_step_496 (by decide) kz) ?_
                  refine jx_iret d_M_step_497 rfl ?_
                  exact ⟨Or.inl rfl, by first | exact h1 | exact iv_sI (iv_tr h1 h2) (by unfold hl; omega) | exact iv_sI h1 (by unfold hl; omega) | exact iv_rf hI⟩
                · skip
                  refine jx_of (fun _ _ kz => jw_aload_n 0 d_M_step_470 rfl rfl kz) ?_
                  refine jx_of (fun _ _ kz => jw_iload_n 3 d_M_step_471 rfl rfl kz) ?_
                  refine jx_of (fun _ _ kz => jw_iconst (-1) d_M_step_472 (by decide) kz) ?_
                  refine jx_callV (z_M_ready (d + 5) x (((-1))) np nt X hI  hx) mt_M_ready cf_M rfl rfl ml_M_171 im_M_ready se_M_ready d_M_step_473 rfl rfl (Nat.le_of_ble_eq_true rfl) ?_
                  rintro _ M1 ⟨rfl, h1⟩
                  refine jx_eq (st2 := []) rfl rfl rfl ?_
                  refine jx_of (fun _ _ kz => jw_aload_n 0 d_M_step_476 rfl rfl kz) ?_
                  refine jx_of (fun _ _ kz => jw_iload_n 1 d_M_step_477 rfl rfl kz) ?_
                  refine jx_of (fun _ _ kz => jw_iload d_M_step_478 rfl kz) ?_
                  refine jx_callV (z_M_drop d t ((n + 1)) p len o np nt X h1.2.1  ht (tP_iv hp h1 ht) (by first | exact hc1 | exact hc2)) mt_M_drop cf_M rfl rfl ml_M_168 im_M_drop se_M_drop d_M_step_480 rfl rfl (Nat.le_of_ble_eq_true rfl) ?_
                  rintro _ M2 ⟨rfl, h2⟩
                  refine jx_eq (st2 := []) rfl rfl rfl ?_
                  refine jx_of (fun _ _ kz => jw_aload_n 0 d_M_step_483 rfl rfl kz) ?_
                  refine jx_of (fun _ _ kz => jw_iconst 2 d_M_step_484 (by decide) kz) ?_
                  refine jx_of (fun _ _ kz => jw_putI fl_M_151 (Or.inl rfl) rfl rfl d_M_step_485 rfl rfl kz) ?_
                  refine jx_of (fun _ _ kz => jw_goto 496 d_M_step_488 (by decide) kz) ?_
                  refine jx_of (fun _ _ kz => jw_iconst (-1) d_M_step_496 (by decide) kz) ?_
                  refine jx_iret d_M_step_497 rfl ?_
                  exact ⟨Or.inl rfl, by first | exact h1 | exact iv_sI (iv_tr h1 h2) (by unfold hl; omega) | exact iv_sI h1 (by unfold hl; omega) | exact iv_rf hI⟩
          · skip
            refine jx_of (fun _ _ kz => jw_iload d_M_step_358 rfl kz) ?_
            refine jx_if_ne 366 d_M_step_360 (by decide) (fun h => absurd h (by decide)) (fun _ => ?_)
            refine jx_of (fun _ _ kz => jw_iload d_M_step_363 rfl kz) ?_
            refine jx_iret d_M_step_365 rfl ?_
            exact ⟨Or.inr ⟨e, by omega, hc2, rfl⟩, iv_rf hI⟩
    · skip
      refine jx_of (fun _ _ kz => jw_iconst 1 d_M_step_325 (by decide) kz) ?_
      refine jx_of (fun _ _ kz => jw_goto 330 d_M_step_326 (by decide) kz) ?_
      refine jx_of (fun _ _ kz => jw_istore d_M_step_330 (Nat.le_of_ble_eq_true rfl) kz) ?_
      dsimp only [List.set]
      refine jx_of (fun _ _ kz => jw_iload d_M_step_332 rfl kz) ?_
      refine jx_of (fun _ _ kz => jw_bipush 11 d_M_step_334 (by decide) kz) ?_
      refine jx_icmp_eq 363 d_M_step_336 (by decide) (fun b_336 => ?_) (fun b_336 => ?_)
      · skip
        refine jx_of (fun _ _ kz => jw_iload d_M_step_363 rfl kz) ?_
        refine jx_iret d_M_step_365 rfl ?_
        exact ⟨Or.inr ⟨e, by omega, hc2, rfl⟩, iv_rf hI⟩
      · skip
        refine jx_of (fun _ _ kz => jw_iload d_M_step_339 rfl kz) ?_
        refine jx_of (fun _ _ kz => jw_bipush 10 d_M_step_341 (by decide) kz) ?_
        refine jx_icmp_ne 351 d_M_step_343 (by decide) (fun b_343 => ?_) (fun b_343 => ?_)
        · skip
          refine jx_of (fun _ _ kz => jw_iload d_M_step_351 rfl kz) ?_
          refine jx_of (fun _ _ kz => jw_bipush 12 d_M_step_353 (by decide) kz) ?_
          refine jx_icmp_ne 366 d_M_step_355 (by decide) (fun b_355 => ?_) (fun b_355 => ?_)
          · skip
            refine jx_of (fun _ _ kz => jw_iload d_M_step_366 rfl kz) ?_
            refine jx_of (fun _ _ kz => jw_bipush 8 d_M_step_368 (by decide) kz) ?_
            refine jx_icmp_ne 394 d_M_step_370 (by decide) (fun b_370 => ?_) (fun b_370 => ?_)
            · skip
              refine jx_of (fun _ _ kz => jw_iload d_M_step_394 rfl kz) ?_
              refine jx_if_eq 450 d_M_step_396 (by decide) (fun h => absurd h (by decide)) (fun _ => ?_)
              refine jx_of (fun _ _ kz => jw_aload_n 0 d_M_step_399 rfl rfl kz) ?_
              refine jx_of (fun _ _ kz => jw_getPe (some (41, 0)) fl_M_44 d_M_step_400 rfl rfl (by simp [me_I_sI, me_I_sP, me_I_nx, me_P_sI, me_P_sP, me_P_nx, me_N_sI, me_N_sP, me_N_nx, me_L_sI, me_L_sP, me_L_nx, show me_P M 7 0 12 = some (41, 0) from hI.1.1 (7, 0, 12, 41, 0) (by decide)]) kz) ?_
              refine jx_of (fun _ _ kz => jw_iload d_M_step_403 rfl kz) ?_
              refine jx_of (fun _ _ kz => jw_ialde (_) d_M_step_405 rfl rfl (by rw [show me_L _ 41 0 = 144 from (by simp [me_I_sI, me_I_sP, me_I_nx, me_P_sI, me_P_sP, me_P_nx, me_N_sI, me_N_sP, me_N_nx, me_L_sI, me_L_sP, me_L_nx, show me_L M 41 0 = 144 from hI.1.2 (41, 0, 144) (by decide)])]; exact (vp_in_nI (by omega) (by decide))) rfl kz) ?_
              refine jx_of (fun _ _ kz => jw_istore d_M_step_406 (Nat.le_of_ble_eq_true rfl) kz) ?_
              dsimp only [List.set]
              refine jx_of (fun _ _ kz => jw_aload_n 0 d_M_step_408 rfl rfl kz) ?_
              refine jx_of (fun _ _ kz => jw_iload_n 3 d_M_step_409 rfl rfl kz) ?_
              refine jx_of (fun _ _ kz => jw_iload d_M_step_410 rfl kz) ?_
              refine jx_of (fun _ _ kz => jw_bipush 14 d_M_step_412 (by decide) kz) ?_
              refine jx_icmp_ne 425 d_M_step_414 (by decide) (fun b_414 => ?_) (fun b_414 => ?_)
              · skip
                refine jx_of (fun _ _ kz => jw_iload d_M_step_425 rfl kz) ?_
                refine jx_callV (z_M_ready (d + 5) x _ np nt X hI  hx) mt_M_ready cf_M rfl rfl ml_M_171 im_M_ready se_M_ready d_M_step_427 rfl rfl (Nat.le_of_ble_eq_true rfl) ?_
                rintro _ M1 ⟨rfl, h1⟩
                refine jx_eq (st2 := []) rfl rfl rfl ?_
                refine jx_of (fun _ _ kz => jw_iload d_M_step_430 rfl kz) ?_
                refine jx_if_lt 442 d_M_step_432 (by decide) (fun h => absurd h (nI_pos (by omega))) (fun _ => ?_)
                refine jx_of (fun _ _ kz => jw_aload_n 0 d_M_step_435 rfl rfl kz) ?_
                refine jx_of (fun _ _ kz => jw_iload_n 1 d_M_step_436 rfl rfl kz) ?_
                refine jx_of (fun _ _ kz => jw_iload d_M_step_437 rfl kz) ?_
                refine jx_callV (z_M_drop d t e p len o np nt X h1.2.1  ht (tP_iv hp h1 ht) (by first | exact hc1 | exact hc2)) mt_M_drop cf_M rfl rfl ml_M_168 im_M_drop se_M_drop d_M_step_439 rfl rfl (Nat.le_of_ble_eq_true rfl) ?_
                rintro _ M2 ⟨rfl, h2⟩
                refine jx_eq (st2 := []) rfl rfl rfl ?_
                refine jx_of (fun _ _ kz => jw_aload_n 0 d_M_step_442 rfl rfl kz) ?_
                refine jx_of (fun _ _ kz => jw_iconst 2 d_M_step_443 (by decide) kz) ?_
                refine jx_of (fun _ _ kz => jw_putI fl_M_151 (Or.inl rfl) rfl rfl d_M_step_444 rfl rfl kz) ?_
                refine jx_of (fun _ _ kz => jw_goto 496 d_M_step_447 (by decide) kz) ?_
                refine jx_of (fun _ _ kz => jw_iconst (-1) d_M_step_496 (by decide) kz) ?_
                refine jx_iret d_M_step_497 rfl ?_
                exact ⟨Or.inl rfl, by first | exact h1 | exact iv_sI (iv_tr h1 h2) (by unfold hl; omega) | exact iv_sI h1 (by unfold hl; omega) | exact iv_rf hI⟩
              · skip
                refine jx_of (fun _ _ kz => jw_iload d_M_step_417 rfl kz) ?_
                refine jx_of (fun _ _ kz => jw_iload d_M_step_419 rfl kz) ?_
                refine jx_of (fun _ _ kz => jw_iadd d_M_step_421 kz) ?_
                refine jx_of (fun _ _ kz => jw_goto 427 d_M_step_422 (by decide) kz) ?_
                refine jx_callV (z_M_ready (d + 5) x ((_ + A)) np nt X hI  hx) mt_M_ready cf_M rfl rfl ml_M_171 im_M_ready se_M_ready d_M_step_427 rfl rfl (Nat.le_of_ble_eq_true rfl) ?_
                rintro _ M1 ⟨rfl, h1⟩
                refine jx_eq (st2 := []) rfl rfl rfl ?_
                refine jx_of (fun _ _ kz => jw_iload d_M_step_430 rfl kz) ?_
                refine jx_if_lt 442 d_M_step_432 (by decide) (fun h => absurd h (nI_pos (by omega))) (fun _ => ?_)
                refine jx_of (fun _ _ kz => jw_aload_n 0 d_M_step_435 rfl rfl kz) ?_
                refine jx_of (fun _ _ kz => jw_iload_n 1 d_M_step_436 rfl rfl kz) ?_
                refine jx_of (fun _ _ kz => jw_iload d_M_step_437 rfl kz) ?_
                refine jx_callV (z_M_drop d t e p len o np nt X h1.2.1  ht (tP_iv hp h1 ht) (by first | exact hc1 | exact hc2)) mt_M_drop cf_M rfl rfl ml_M_168 im_M_drop se_M_drop d_M_step_439 rfl rfl (Nat.le_of_ble_eq_true rfl) ?_
                rintro _ M2 ⟨rfl, h2⟩
                refine jx_eq (st2 := []) rfl rfl rfl ?_
                refine jx_of (fun _ _ kz => jw_aload_n 0 d_M_step_442 rfl rfl kz) ?_
                refine jx_of (fun _ _ kz => jw_iconst 2 d_M_step_443 (by decide) kz) ?_
                refine jx_of (fun _ _ kz => jw_putI fl_M_151 (Or.inl rfl) rfl rfl d_M_step_444 rfl rfl kz) ?_
                refine jx_of (fun _ _ kz => jw_goto 496 d_M_step_447 (by decide) kz) ?_
                refine jx_of (fun _ _ kz => jw_iconst (-1) d_M_step_496 (by decide) kz) ?_
                refine jx_iret d_M_step_497 rfl ?_
                exact ⟨Or.inl rfl, by first | exact h1 | exact iv_sI (iv_tr h1 h2) (by unfold hl; omega) | exact iv_sI h1 (by unfold hl; omega) | exact iv_rf hI⟩
            · skip
              refine jx_of (fun _ _ kz => jw_iload d_M_step_373 rfl kz) ?_
              refine jx_if_eq 394 d_M_step_375 (by decide) (fun h => absurd h (by decide)) (fun _ => ?_)
              refine jx_of (fun _ _ kz => jw_aload_n 0 d_M_step_378 rfl rfl kz) ?_
              refine jx_of (fun _ _ kz => jw_iload_n 1 d_M_step_379 rfl rfl kz) ?_
              refine jx_of (fun _ _ kz => jw_iload_n 3 d_M_step_380 rfl rfl kz) ?_
              refine jx_of (fun _ _ kz => jw_aload_n 0 d_M_step_381 rfl rfl kz) ?_
              refine jx_of (fun _ _ kz => jw_getPe (some (41, 0)) fl_M_44 d_M_step_382 rfl rfl (by simp [me_I_sI, me_I_sP, me_I_nx, me_P_sI, me_P_sP, me_P_nx, me_N_sI, me_N_sP, me_N_nx, me_L_sI, me_L_sP, me_L_nx, show me_P M 7 0 12 = some (41, 0) from hI.1.1 (7, 0, 12, 41, 0) (by decide)]) kz) ?_
              refine jx_of (fun _ _ kz => jw_iload d_M_step_385 rfl kz) ?_
              refine jx_of (fun _ _ kz => jw_ialde (_) d_M_step_387 rfl rfl (by rw [show me_L _ 41 0 = 144 from (by simp [me_I_sI, me_I_sP, me_I_nx, me_P_sI, me_P_sP, me_P_nx, me_N_sI, me_N_sP, me_N_nx, me_L_sI, me_L_sP, me_L_nx, show me_L M 41 0 = 144 from hI.1.2 (41, 0, 144) (by decide)])]; exact (vp_in_nI (by omega) (by decide))) rfl kz) ?_
              refine jx_callV (z_M_reap d t x _ np nt X hI  ht hx) mt_M_reap cf_M rfl rfl ml_M_177 im_M_reap se_M_reap d_M_step_388 rfl rfl (Nat.le_of_ble_eq_true rfl) ?_
              rintro _ M1 ⟨rfl, h1⟩
              refine jx_eq (st2 := []) rfl rfl rfl ?_
              refine jx_of (fun _ _ kz => jw_goto 496 d_M_step_391 (by decide) kz) ?_
              refine jx_of (fun _ _ kz => jw_iconst (-1) d_M_step_496 (by decide) kz) ?_
              refine jx_iret d_M_step_497 rfl ?_
              exact ⟨Or.inl rfl, by first | exact h1 | exact iv_sI (iv_tr h1 h2) (by unfold hl; omega) | exact iv_sI h1 (by unfold hl; omega) | exact iv_rf hI⟩
          · skip
            refine jx_of (fun _ _ kz => jw_iload d_M_step_358 rfl kz) ?_
            refine jx_if_ne 366 d_M_step_360 (by decide) (fun _ => ?_) (fun h => absurd h (by decide))
            refine jx_of (fun _ _ kz => jw_iload d_M_step_366 rfl kz) ?_
            refine jx_of (fun _ _ kz => jw_bipush 8 d_M_step_368 (by decide) kz) ?_
            refine jx_icmp_ne 394 d_M_step_370 (by decide) (fun b_370 => ?_) (fun b_370 => ?_)
            · skip
              refine jx_of (fun _ _ kz => jw_iload d_M_step_394 rfl kz) ?_
              refine jx_if_eq 450 d_M_step_396 (by decide) (fun h => absurd h (by decide)) (fun _ => ?_)
              refine jx_of (fun _ _ kz => jw_aload_n 0 d_M_step_399 rfl rfl kz) ?_
              refine jx_of (fun _ _ kz => jw_getPe (some (41, 0)) fl_M_44 d_M_step_400 rfl rfl (by simp [me_I_sI, me_I_sP, me_I_nx, me_P_sI, me_P_sP, me_P_nx, me_N_sI, me_N_sP, me_N_nx, me_L_sI, me_L_sP, me_L_nx, show me_P M 7 0 12 = some (41, 0) from hI.1.1 (7, 0, 12, 41, 0) (by decide)]) kz) ?_
              refine jx_of (fun _ _ kz => jw_iload d_M_step_403 rfl kz) ?_
              refine jx_of (fun _ _ kz => jw_ialde (_) d_M_step_405 rfl rfl (by rw [show me_L _ 41 0 = 144 from (by simp [me_I_sI, me_I_sP, me_I_nx, me_P_sI, me_P_sP, me_P_nx, me_N_sI, me_N_sP, me_N_nx, me_L_sI, me_L_sP, me_L_nx, show me_L M 41 0 = 144 from hI.1.2 (41, 0, 144) (by decide)])]; exact (vp_in_nI (by omega) (by decide))) rfl kz) ?_
              refine jx_of (fun _ _ kz => jw_istore d_M_step_406 (Nat.le_of_ble_eq_true rfl) kz) ?_
              dsimp only [List.set]
              refine jx_of (fun _ _ kz => jw_aload_n 0 d_M_step_408 rfl rfl kz) ?_
              refine jx_of (fun _ _ kz => jw_iload_n 3 d_M_step_409 rfl rfl kz) ?_
              refine jx_of (fun _ _ kz => jw_iload d_M_step_410 rfl kz) ?_
              refine jx_of (fun _ _ kz => jw_bipush 14 d_M_step_412 (by decide) kz) ?_
              refine jx_icmp_ne 425 d_M_step_414 (by decide) (fun b_414 => ?_) (fun b_414 => ?_)
              · skip
                refine jx_of (fun _ _ kz => jw_iload d_M_step_425 rfl kz) ?_
                refine jx_callV (z_M_ready (d + 5) x _ np nt X hI  hx) mt_M_ready cf_M rfl rfl ml_M_171 im_M_ready se_M_ready d_M_step_427 rfl rfl (Nat.le_of_ble_eq_true rfl) ?_
                rintro _ M1 ⟨rfl, h1⟩
                refine jx_eq (st2 := []) rfl rfl rfl ?_
                refine jx_of (fun _ _ kz => jw_iload d_M_step_430 rfl kz) ?_
                refine jx_if_lt 442 d_M_step_432 (by decide) (fun h => absurd h (nI_pos (by omega))) (fun _ => ?_)
                refine jx_of (fun _ _ kz => jw_aload_n 0 d_M_step_435 rfl rfl kz) ?_
                refine jx_of (fun _ _ kz => jw_iload_n 1 d_M_step_436 rfl rfl kz) ?_
                refine jx_of (fun _ _ kz => jw_iload d_M_step_437 rfl kz) ?_
                refine jx_callV (z_M_drop d t e p len o np nt X h1.2.1  ht (tP_iv hp h1 ht) (by first | exact hc1 | exact hc2)) mt_M_drop cf_M rfl rfl ml_M_168 im_M_drop se_M_drop d_M_step_439 rfl rfl (Nat.le_of_ble_eq_true rfl) ?_
                rintro _ M2 ⟨rfl, h2⟩
                refine jx_eq (st2 := []) rfl rfl rfl ?_
                refine jx_of (fun _ _ kz => jw_aload_n 0 d_M_step_442 rfl rfl kz) ?_
                refine jx_of (fun _ _ kz => jw_iconst 2 d_M_step_443 (by decide) kz) ?_
                refine jx_of (fun _ _ kz => jw_putI fl_M_151 (Or.inl rfl) rfl rfl d_M_step_444 rfl rfl kz) ?_
                refine jx_of (fun _ _ kz => jw_goto 496 d_M_step_447 (by decide) kz) ?_
                refine jx_of (fun _ _ kz => jw_iconst (-1) d_M_step_496 (by decide) kz) ?_
                refine jx_iret d_M_step_497 rfl ?_
                exact ⟨Or.inl rfl, by first | exact h1 | exact iv_sI (iv_tr h1 h2) (by unfold hl; omega) | exact iv_sI h1 (by unfold hl; omega) | exact iv_rf hI⟩
              · skip
                refine jx_of (fun _ _ kz => jw_iload d_M_step_417 rfl kz) ?_
                refine jx_of (fun _ _ kz => jw_iload d_M_step_419 rfl kz) ?_
                refine jx_of (fun _ _ kz => jw_iadd d_M_step_421 kz) ?_
                refine jx_of (fun _ _ kz => jw_goto 427 d_M_step_422 (by decide) kz) ?_
                refine jx_callV (z_M_ready (d + 5) x ((_ + A)) np nt X hI  hx) mt_M_ready cf_M rfl rfl ml_M_171 im_M_ready se_M_ready d_M_step_427 rfl rfl (Nat.le_of_ble_eq_true rfl) ?_
                rintro _ M1 ⟨rfl, h1⟩
                refine jx_eq (st2 := []) rfl rfl rfl ?_
                refine jx_of (fun _ _ kz => jw_iload d_M_step_430 rfl kz) ?_
                refine jx_if_lt 442 d_M_step_432 (by decide) (fun h => absurd h (nI_pos (by omega))) (fun _ => ?_)
                refine jx_of (fun _ _ kz => jw_aload_n 0 d_M_step_435 rfl rfl kz) ?_
                refine jx_of (fun _ _ kz => jw_iload_n 1 d_M_step_436 rfl rfl kz) ?_
                refine jx_of (fun _ _ kz => jw_iload d_M_step_437 rfl kz) ?_
                refine jx_callV (z_M_drop d t e p len o np nt X h1.2.1  ht (tP_iv hp h1 ht) (by first | exact hc1 | exact hc2)) mt_M_drop cf_M rfl rfl ml_M_168 im_M_drop se_M_drop d_M_step_439 rfl rfl (Nat.le_of_ble_eq_true rfl) ?_
                rintro _ M2 ⟨rfl, h2⟩
                refine jx_eq (st2 := []) rfl rfl rfl ?_
                refine jx_of (fun _ _ kz => jw_aload_n 0 d_M_step_442 rfl rfl kz) ?_
                refine jx_of (fun _ _ kz => jw_iconst 2 d_M_step_443 (by decide) kz) ?_
                refine jx_of (fun _ _ kz => jw_putI fl_M_151 (Or.inl rfl) rfl rfl d_M_step_444 rfl rfl kz) ?_
                refine jx_of (fun _ _ kz => jw_goto 496 d_M_step_447 (by decide) kz) ?_
                refine jx_of (fun _ _ kz => jw_iconst (-1) d_M_step_496 (by decide) kz) ?_
                refine jx_iret d_M_step_497 rfl ?_
                exact ⟨Or.inl rfl, by first | exact h1 | exact iv_sI (iv_tr h1 h2) (by unfold hl; omega) | exact iv_sI h1 (by unfold hl; omega) | exact iv_rf hI⟩
            · skip
              refine jx_of (fun _ _ kz => jw_iload d_M_step_373 rfl kz) ?_
              refine jx_if_eq 394 d_M_step_375 (by decide) (fun h => absurd h (by decide)) (fun _ => ?_)
              refine jx_of (fun _ _ kz => jw_aload_n 0 d_M_step_378 rfl rfl kz) ?_
              refine jx_of (fun _ _ kz => jw_iload_n 1 d_M_step_379 rfl rfl kz) ?_
              refine jx_of (fun _ _ kz => jw_iload_n 3 d_M_step_380 rfl rfl kz) ?_
              refine jx_of (fun _ _ kz => jw_aload_n 0 d_M_step_381 rfl rfl kz) ?_
              refine jx_of (fun _ _ kz => jw_getPe (some (41, 0)) fl_M_44 d_M_step_382 rfl rfl (by simp [me_I_sI, me_I_sP, me_I_nx, me_P_sI, me_P_sP, me_P_nx, me_N_sI, me_N_sP, me_N_nx, me_L_sI, me_L_sP, me_L_nx, show me_P M 7 0 12 = some (41, 0) from hI.1.1 (7, 0, 12, 41, 0) (by decide)]) kz) ?_
              refine jx_of (fun _ _ kz => jw_iload d_M_step_385 rfl kz) ?_
              refine jx_of (fun _ _ kz => jw_ialde (_) d_M_step_387 rfl rfl (by rw [show me_L _ 41 0 = 144 from (by simp [me_I_sI, me_I_sP, me_I_nx, me_P_sI, me_P_sP, me_P_nx, me_N_sI, me_N_sP, me_N_nx, me_L_sI, me_L_sP, me_L_nx, show me_L M 41 0 = 144 from hI.1.2 (41, 0, 144) (by decide)])]; exact (vp_in_nI (by omega) (by decide))) rfl kz) ?_
              refine jx_callV (z_M_reap d t x _ np nt X hI  ht hx) mt_M_reap cf_M rfl rfl ml_M_177 im_M_reap se_M_reap d_M_step_388 rfl rfl (Nat.le_of_ble_eq_true rfl) ?_
              rintro _ M1 ⟨rfl, h1⟩
              refine jx_eq (st2 := []) rfl rfl rfl ?_
              refine jx_of (fun _ _ kz => jw_goto 496 d_M_step_391 (by decide) kz) ?_
              refine jx_of (fun _ _ kz => jw_iconst (-1) d_M_step_496 (by decide) kz) ?_
              refine jx_iret d_M_step_497 rfl ?_
              exact ⟨Or.inl rfl, by first | exact h1 | exact iv_sI (iv_tr h1 h2) (by unfold hl; omega) | exact iv_sI h1 (by unfold hl; omega) | exact iv_rf hI⟩
        · skip
          refine jx_of (fun _ _ kz => jw_iload d_M_step_346 rfl kz) ?_
          refine jx_if_ne 363 d_M_step_348 (by decide) (fun _ => ?_) (fun h => absurd h (by decide))
          refine jx_of (fun _ _ kz => jw_iload d_M_step_363 rfl kz) ?_
          refine jx_iret d_M_step_365 rfl ?_
          exact ⟨Or.inr ⟨e, by omega, hc2, rfl⟩, iv_rf hI⟩
  · skip
    refine jx_of (fun _ _ kz => jw_aload_n 0 d_M_step_253 rfl rfl kz) ?_
    refine jx_of (fun _ _ kz => jw_getPe (some (41, 0)) fl_M_44 d_M_step_254 rfl rfl (by simp [me_I_sI, me_I_sP, me_I_nx, me_P_sI, me_P_sP, me_P_nx, me_N_sI, me_N_sP, me_N_nx, me_L_sI, me_L_sP, me_L_nx, show me_P M 7 0 12 = some (41, 0) from hI.1.1 (7, 0, 12, 41, 0) (by decide)]) kz) ?_
    refine jx_of (fun _ _ kz => jw_iload d_M_step_257 rfl kz) ?_
    refine jx_of (fun _ _ kz => jw_ialde (_) d_M_step_259 rfl rfl (by rw [show me_L _ 41 0 = 144 from (by simp [me_I_sI, me_I_sP, me_I_nx, me_P_sI, me_P_sP, me_P_nx, me_N_sI, me_N_sP, me_N_nx, me_L_sI, me_L_sP, me_L_nx, show me_L M 41 0 = 144 from hI.1.2 (41, 0, 144) (by decide)])]; exact (vp_in_nI (by omega) (by decide))) rfl kz) ?_
    refine jx_of (fun _ _ kz => jw_istore d_M_step_260 (Nat.le_of_ble_eq_true rfl) kz) ?_
    dsimp only [List.set]
    refine jx_of (fun _ _ kz => jw_iload d_M_step_262 rfl kz) ?_
    refine jx_of (fun _ _ kz => jw_bipush 15 d_M_step_264 (by decide) kz) ?_
    refine jx_icmp_ne 280 d_M_step_266 (by decide) (fun b_266 => ?_) (fun b_266 => ?_)
    · skip
      refine jx_of (fun _ _ kz => jw_aload_n 0 d_M_step_280 rfl rfl kz) ?_
      refine jx_of (fun _ _ kz => jw_iload_n 3 d_M_step_281 rfl rfl kz) ?_
      refine jx_of (fun _ _ kz => jw_iload d_M_step_282 rfl kz) ?_
      refine jx_callV (z_M_broken (d + 5) x _ np nt X hI  hx) mt_M_broken cf_M rfl rfl ml_M_165 im_M_broken se_M_broken d_M_step_284 rfl rfl (Nat.le_of_ble_eq_true rfl) ?_
      rintro _ M1 ⟨rfl, h1⟩
      refine jx_eq (st2 := []) rfl rfl rfl ?_
      refine jx_of (fun _ _ kz => jw_iload d_M_step_287 rfl kz) ?_
      refine jx_if_lt 299 d_M_step_289 (by decide) (fun h => absurd h (nI_pos (by omega))) (fun _ => ?_)
      refine jx_of (fun _ _ kz => jw_aload_n 0 d_M_step_292 rfl rfl kz) ?_
      refine jx_of (fun _ _ kz => jw_iload_n 1 d_M_step_293 rfl rfl kz) ?_
      refine jx_of (fun _ _ kz => jw_iload d_M_step_294 rfl kz) ?_
      refine jx_callV (z_M_drop d t e p len o np nt X h1.2.1  ht (tP_iv hp h1 ht) (by first | exact hc1 | exact hc2)) mt_M_drop cf_M rfl rfl ml_M_168 im_M_drop se_M_drop d_M_step_296 rfl rfl (Nat.le_of_ble_eq_true rfl) ?_
      rintro _ M2 ⟨rfl, h2⟩
      refine jx_eq (st2 := []) rfl rfl rfl ?_
      refine jx_of (fun _ _ kz => jw_aload_n 0 d_M_step_299 rfl rfl kz) ?_
      refine jx_of (fun _ _ kz => jw_iload d_M_step_300 rfl kz) ?_
      refine jx_of (fun _ _ kz => jw_bipush 15 d_M_step_302 (by decide) kz) ?_
      refine jx_icmp_ne 311 d_M_step_304 (by decide) (fun b_304 => ?_) (fun b_304 => ?_)
      · skip
        refine jx_of (fun _ _ kz => jw_iconst 3 d_M_step_311 (by decide) kz) ?_
        refine jx_of (fun _ _ kz => jw_putI fl_M_151 (Or.inl rfl) rfl rfl d_M_step_312 rfl rfl kz) ?_
        refine jx_of (fun _ _ kz => jw_iconst (-1) d_M_step_315 (by decide) kz) ?_
        refine jx_iret d_M_step_316 rfl ?_
        exact ⟨Or.inl rfl, by first | exact h1 | exact iv_sI (iv_tr h1 h2) (by unfold hl; omega) | exact iv_sI h1 (by unfold hl; omega) | exact iv_rf hI⟩
      · skip
        refine jx_of (fun _ _ kz => jw_iconst 2 d_M_step_307 (by decide) kz) ?_
        refine jx_of (fun _ _ kz => jw_goto 312 d_M_step_308 (by decide) kz) ?_
        refine jx_of (fun _ _ kz => jw_putI fl_M_151 (Or.inl rfl) rfl rfl d_M_step_312 rfl rfl kz) ?_
        refine jx_of (fun _ _ kz => jw_iconst (-1) d_M_step_315 (by decide) kz) ?_
        refine jx_iret d_M_step_316 rfl ?_
        exact ⟨Or.inl rfl, by first | exact h1 | exact iv_sI (iv_tr h1 h2) (by unfold hl; omega) | exact iv_sI h1 (by unfold hl; omega) | exact iv_rf hI⟩
    · skip
      refine jx_of (fun _ _ kz => jw_aload_n 0 d_M_step_269 rfl rfl kz) ?_
      refine jx_of (fun _ _ kz => jw_iload_n 3 d_M_step_270 rfl rfl kz) ?_
      refine jx_of (fun _ _ kz => jw_iload d_M_step_271 rfl kz) ?_
      refine jx_of (fun _ _ kz => jw_ineg d_M_step_273 kz) ?_
      refine jx_callV (z_M_ready (d + 5) x ((-_)) np nt X hI  hx) mt_M_ready cf_M rfl rfl ml_M_171 im_M_ready se_M_ready d_M_step_274 rfl rfl (Nat.le_of_ble_eq_true rfl) ?_
      rintro _ M1 ⟨rfl, h1⟩
      refine jx_eq (st2 := []) rfl rfl rfl ?_
      refine jx_of (fun _ _ kz => jw_goto 287 d_M_step_277 (by decide) kz) ?_
      refine jx_of (fun _ _ kz => jw_iload d_M_step_287 rfl kz) ?_
      refine jx_if_lt 299 d_M_step_289 (by decide) (fun h => absurd h (nI_pos (by omega))) (fun _ => ?_)
      refine jx_of (fun _ _ kz => jw_aload_n 0 d_M_step_292 rfl rfl kz) ?_
      refine jx_of (fun _ _ kz => jw_iload_n 1 d_M_step_293 rfl rfl kz) ?_
      refine jx_of (fun _ _ kz => jw_iload d_M_step_294 rfl kz) ?_
      refine jx_callV (z_M_drop d t e p len o np nt X h1.2.1  ht (tP_iv hp h1 ht) (by first | exact hc1 | exact hc2)) mt_M_drop cf_M rfl rfl ml_M_168 im_M_drop se_M_drop d_M_step_296 rfl rfl (Nat.le_of_ble_eq_true rfl) ?_
      rintro _ M2 ⟨rfl, h2⟩
      refine jx_eq (st2 := []) rfl rfl rfl ?_
      refine jx_of (fun _ _ kz => jw_aload_n 0 d_M_step_299 rfl rfl kz) ?_
      refine jx_of (fun _ _ kz => jw_iload d_M_step_300 rfl kz) ?_
      refine jx_of (fun _ _ kz => jw_bipush 15 d_M_step_302 (by decide) kz) ?_
      refine jx_icmp_ne 311 d_M_step_304 (by decide) (fun b_304 => ?_) (fun b_304 => ?_)
      · skip
        refine jx_of (fun _ _ kz => jw_iconst 3 d_M_step_311 (by decide) kz) ?_
        refine jx_of (fun _ _ kz => jw_putI fl_M_151 (Or.inl rfl) rfl rfl d_M_step_312 rfl rfl kz) ?_
        refine jx_of (fun _ _ kz => jw_iconst (-1) d_M_step_315 (by decide) kz) ?_
        refine jx_iret d_M_step_316 rfl ?_
        exact ⟨Or.inl rfl, by first | exact h1 | exact iv_sI (iv_tr h1 h2) (by unfold hl; omega) | exact iv_sI h1 (by unfold hl; omega) | exact iv_rf hI⟩
      · skip
        refine jx_of (fun _ _ kz => jw_iconst 2 d_M_step_307 (by decide) kz) ?_
        refine jx_of (fun _ _ kz => jw_goto 312 d_M_step_308 (by decide) kz) ?_
        refine jx_of (fun _ _ kz => jw_putI fl_M_151 (Or.inl rfl) rfl rfl d_M_step_312 rfl rfl kz) ?_
        refine jx_of (fun _ _ kz => jw_iconst (-1) d_M_step_315 (by decide) kz) ?_
        refine jx_iret d_M_step_316 rfl ?_
        exact ⟨Or.inl rfl, by first | exact h1 | exact iv_sI (iv_tr h1 h2) (by unfold hl; omega) | exact iv_sI h1 (by unfold hl; omega) | exact iv_rf hI⟩
set_option maxRecDepth 20000 in
set_option maxHeartbeats 4000000 in
theorem z_M_step_22 {G : Gt} {M : Me} (d : Nat) (t : Nat) (n : Nat) (x : Nat) (p : Nat) (len : Nat) (o : Nat → Nat) (np : Nat) (nt : Nat) (X : List Nat) (hI : mI M np nt X) (ht : t < nt) (hp : tP M t p len o) (hn : n < len) (hx : x < 144) (hpn : pN (o n) = 2) : sx G yt_M_step yn_M_step (d + 7) [.inr (some (7, 0)), .inl (nI t), .inl (nI n), .inl (nI x), .inl 2] M (fun r M' => r = some (.inl (-1)) ∧ iv np nt nt X M M') := by
  refine sx_of (k := 8) (lc := [some (.inr (some (7, 0))), some (.inl (nI t)), some (.inl (nI n)), some (.inl (nI x)), some (.inl 2), none, none, none, none, none, none, none, none]) mt_M_step (Nat.le_of_ble_eq_true rfl) rfl ?_
  have hok := hp.2.2.2.2.1 n hn
  obtain ⟨A, hA⟩ : ∃ A, me_I M 31 0 (12 * p + n) = A := ⟨_, rfl⟩
  have hnt := hI.2.2.1.2.1
  have hle := hp.2.2.1
  have hc1 := ch1 hp.2.2 hn (by omega)
  refine jx_of (fun _ _ kz => jw_aload_n 0 d_M_step_0 rfl rfl kz) ?_
  refine jx_of (fun _ _ kz => jw_iload_n 1 d_M_step_1 rfl rfl kz) ?_
  refine jx_of (fun _ _ kz => jw_iload_n 2 d_M_step_2 rfl rfl kz) ?_
  refine jx_callV (z_M_opOf (d + 5) t n p hI.1  (by omega) (by omega) hp.1 hp.2.1) mt_M_opOf cf_M rfl rfl ml_M_108 im_M_opOf se_M_opOf d_M_step_3 rfl rfl (Nat.le_of_ble_eq_true rfl) ?_
  rintro _ _ ⟨rfl, rfl⟩
  refine jx_eq (st2 := [.inl (me_I M 30 0 (12 * p + n))]) rfl rfl rfl ?_
  rw [show (me_I M 30 0 (12 * p + n) : Int32) = nI (o n) from hok.2.1]
  refine jx_of (fun _ _ kz => jw_istore d_M_step_6 (Nat.le_of_ble_eq_true rfl) kz) ?_
  dsimp only [List.set]
  refine jx_of (fun _ _ kz => jw_aload_n 0 d_M_step_8 rfl rfl kz) ?_
  refine jx_of (fun _ _ kz => jw_iload_n 1 d_M_step_9 rfl rfl kz) ?_
  refine jx_of (fun _ _ kz => jw_iload_n 2 d_M_step_10 rfl rfl kz) ?_
  refine jx_callV (z_M_argOf (d + 5) t n p hI.1  (by omega) (by omega) hp.1 hp.2.1) mt_M_argOf cf_M rfl rfl ml_M_132 im_M_argOf se_M_argOf d_M_step_11 rfl rfl (Nat.le_of_ble_eq_true rfl) ?_
  rintro _ _ ⟨rfl, rfl⟩
  refine jx_eq (st2 := [.inl (me_I M 31 0 (12 * p + n))]) rfl rfl rfl ?_
  rw [show (me_I M 31 0 (12 * p + n) : Int32) = A from hA]
  refine jx_of (fun _ _ kz => jw_istore d_M_step_14 (Nat.le_of_ble_eq_true rfl) kz) ?_
  dsimp only [List.set]
  refine jx_of (fun _ _ kz => jw_iload_n 2 d_M_step_16 rfl rfl kz) ?_
  refine jx_of (fun _ _ kz => jw_iconst 1 d_M_step_17 (by decide) kz) ?_
  refine jx_of (fun _ _ kz => jw_iadd d_M_step_18 kz) ?_
  rw [show ((nI n) + 1 : Int32) = nI (n + 1) from nI_1 _]
  refine jx_of (fun _ _ kz => jw_istore d_M_step_19 (Nat.le_of_ble_eq_true rfl) kz) ?_
  dsimp only [List.set]
  refine jx_of (fun _ _ kz => jw_iload d_M_step_21 rfl kz) ?_
  refine jx_callS (z_M_parts (d + 4) ((o n))  hok.1) mt_M_parts ml_M_101 sm_M_parts d_M_step_23 rfl rfl (Nat.le_of_ble_eq_true rfl) ?_
  rintro _ _ ⟨rfl, rfl⟩
  refine jx_eq (st2 := [.inl (nI (pN (o n)))]) rfl rfl rfl ?_
  rw [show (nI (pN (o n)) : Int32) = 2 from (by rw [hpn]; rfl)]
  refine jx_of (fun _ _ kz => jw_iconst 2 d_M_step_26 (by decide) kz) ?_
  refine jx_icmp_ne 40 d_M_step_27 (by decide) (fun h => absurd h (by decide)) (fun _ => ?_)
  refine jx_of (fun _ _ kz => jw_aload_n 0 d_M_step_30 rfl rfl kz) ?_
  refine jx_of (fun _ _ kz => jw_iload_n 1 d_M_step_31 rfl rfl kz) ?_
  refine jx_of (fun _ _ kz => jw_iload d_M_step_32 rfl kz) ?_
  refine jx_callV (z_M_end (d + 3) t ((n + 1)) p len o hI.1  (by omega) hp.1 hp.2.1 hp.2.2 hc1) mt_M_end cf_M rfl rfl ml_M_141 im_M_end se_M_end d_M_step_34 rfl rfl (Nat.le_of_ble_eq_true rfl) ?_
  rintro _ _ ⟨⟨e, he1, he2, he3, rfl⟩, rfl⟩
  have hc2 := ch2 hp.2.2 hn hpn he2 he3
  refine jx_eq (st2 := [.inl (nI e)]) rfl rfl rfl ?_
  refine jx_of (fun _ _ kz => jw_goto 41 d_M_step_37 (by decide) kz) ?_
  refine jx_of (fun _ _ kz => jw_istore d_M_step_41 (Nat.le_of_ble_eq_true rfl) kz) ?_
  dsimp only [List.set]
  refine jx_of (fun _ _ kz => jw_bipush 12 d_M_step_43 (by decide) kz) ?_
  refine jx_of (fun _ _ kz => jw_iload_n 1 d_M_step_45 rfl rfl kz) ?_
  refine jx_of (fun _ _ kz => jw_imul d_M_step_46 kz) ?_
  rw [show (12 * (nI t) : Int32) = nI (12 * t) from n12 t]
  refine jx_of (fun _ _ kz => jw_iload d_M_step_47 rfl kz) ?_
  refine jx_of (fun _ _ kz => jw_iadd d_M_step_49 kz) ?_
  rw [show ((nI (12 * t)) + (nI (n + 1)) : Int32) = nI (12 * t + (n + 1)) from nI_add _ _]
  refine jx_of (fun _ _ kz => jw_istore d_M_step_50 (Nat.le_of_ble_eq_true rfl) kz) ?_
  dsimp only [List.set]
  refine jx_of (fun _ _ kz => jw_bipush 12 d_M_step_52 (by decide) kz) ?_
  refine jx_of (fun _ _ kz => jw_iload_n 1 d_M_step_54 rfl rfl kz) ?_
  refine jx_of (fun _ _ kz => jw_imul d_M_step_55 kz) ?_
  rw [show (12 * (nI t) : Int32) = nI (12 * t) from n12 t]
  refine jx_of (fun _ _ kz => jw_iload d_M_step_56 rfl kz) ?_
  refine jx_of (fun _ _ kz => jw_iadd d_M_step_58 kz) ?_
  rw [show ((nI (12 * t)) + (nI e) : Int32) = nI (12 * t + e) from nI_add _ _]
  refine jx_of (fun _ _ kz => jw_istore d_M_step_59 (Nat.le_of_ble_eq_true rfl) kz) ?_
  dsimp only [List.set]
  refine jx_of (fun _ _ kz => jw_iload d_M_step_61 rfl kz) ?_
  refine jx_if_ne 105 d_M_step_63 (by decide) (fun _ => ?_) (fun h => absurd h (by decide))
  refine jx_of (fun _ _ kz => jw_iload d_M_step_105 rfl kz) ?_
  refine jx_of (fun _ _ kz => jw_iconst 2 d_M_step_107 (by decide) kz) ?_
  refine jx_icmp_ne 245 d_M_step_108 (by decide) (fun h => absurd h (by decide)) (fun _ => ?_)
  refine jx_of (fun _ _ kz => jw_aload_n 0 d_M_step_111 rfl rfl kz) ?_
  refine jx_of (fun _ _ kz => jw_getIe (me_I M 7 0 34) fl_M_151 d_M_step_112 rfl rfl rfl kz) ?_
  refine jx_of (fun _ _ kz => jw_iconst 3 d_M_step_115 (by decide) kz) ?_
  refine jx_icmp_ne 146 d_M_step_116 (by decide) (fun b_116 => ?_) (fun b_116 => ?_)
  · skip
    refine jx_of (fun _ _ kz => jw_iload d_M_step_146 rfl kz) ?_
    refine jx_of (fun _ _ kz => jw_bipush 11 d_M_step_148 (by decide) kz) ?_
    refine jx_icmp_ne 203 d_M_step_150 (by decide) (fun b_150 => ?_) (fun b_150 => ?_)
    · skip
      refine jx_of (fun _ _ kz => jw_aload_n 0 d_M_step_203 rfl rfl kz) ?_
      refine jx_of (fun _ _ kz => jw_getIe (me_I M 7 0 34) fl_M_151 d_M_step_204 rfl rfl rfl kz) ?_
      refine jx_of (fun _ _ kz => jw_iconst 2 d_M_step_207 (by decide) kz) ?_
      refine jx_icmp_ne 238 d_M_step_208 (by decide) (fun b_208 => ?_) (fun b_208 => ?_)
      · skip
        refine jx_of (fun _ _ kz => jw_aload_n 0 d_M_step_238 rfl rfl kz) ?_
        refine jx_of (fun _ _ kz => jw_iload_n 3 d_M_step_239 rfl rfl kz) ?_
        refine jx_callV (z_M_pending (d + 5) x np nt X hI  hx) mt_M_pending cf_M rfl rfl ml_M_174 im_M_pending se_M_pending d_M_step_240 rfl rfl (Nat.le_of_ble_eq_true rfl) ?_
        rintro _ M1 ⟨rfl, h1⟩
        refine jx_eq (st2 := []) rfl rfl rfl ?_
        refine jx_of (fun _ _ kz => jw_iconst (-1) d_M_step_243 (by decide) kz) ?_
        refine jx_iret d_M_step_244 rfl ?_
        exact ⟨rfl, by first | exact h1 | exact iv_sI (iv_tr h1 h2) (by unfold hl; omega) | exact iv_sI h1 (by unfold hl; omega) | exact iv_rf hI⟩
      · skip
        refine jx_of (fun _ _ kz => jw_aload_n 0 d_M_step_211 rfl rfl kz) ?_
        refine jx_of (fun _ _ kz => jw_iload_n 3 d_M_step_212 rfl rfl kz) ?_
        refine jx_of (fun _ _ kz => jw_aload_n 0 d_M_step_213 rfl rfl kz) ?_
        refine jx_of (fun _ _ kz => jw_getPe (some (41, 0)) fl_M_44 d_M_step_214 rfl rfl (by simp [me_I_sI, me_I_sP, me_I_nx, me_P_sI, me_P_sP, me_P_nx, me_N_sI, me_N_sP, me_N_nx, me_L_sI, me_L_sP, me_L_nx, show me_P M 7 0 12 = some (41, 0) from hI.1.1 (7, 0, 12, 41, 0) (by decide)]) kz) ?_
        refine jx_of (fun _ _ kz => jw_iload d_M_step_217 rfl kz) ?_
        refine jx_of (fun _ _ kz => jw_ialde (_) d_M_step_219 rfl rfl (by rw [show me_L _ 41 0 = 144 from (by simp [me_I_sI, me_I_sP, me_I_nx, me_P_sI, me_P_sP, me_P_nx, me_N_sI, me_N_sP, me_N_nx, me_L_sI, me_L_sP, me_L_nx, show me_L M 41 0 = 144 from hI.1.2 (41, 0, 144) (by decide)])]; exact (vp_in_nI (by omega) (by decide))) rfl kz) ?_
        refine jx_callV (z_M_ready (d + 5) x _ np nt X hI  hx) mt_M_ready cf_M rfl rfl ml_M_171 im_M_ready se_M_ready d_M_step_220 rfl rfl (Nat.le_of_ble_eq_true rfl) ?_
        rintro _ M1 ⟨rfl, h1⟩
        refine jx_eq (st2 := []) rfl rfl rfl ?_
        refine jx_of (fun _ _ kz => jw_aload_n 0 d_M_step_223 rfl rfl kz) ?_
        refine jx_of (fun _ _ kz => jw_iload_n 1 d_M_step_224 rfl rfl kz) ?_
        refine jx_of (fun _ _ kz => jw_iload d_M_step_225 rfl kz) ?_
        refine jx_callV (z_M_drop d t ((n + 1)) p len o np nt X h1.2.1  ht (tP_iv hp h1 ht) (by first | exact hc1 | exact hc2)) mt_M_drop cf_M rfl rfl ml_M_168 im_M_drop se_M_drop d_M_step_227 rfl rfl (Nat.le_of_ble_eq_true rfl) ?_
        rintro _ M2 ⟨rfl, h2⟩
        refine jx_eq (st2 := []) rfl rfl rfl ?_
        refine jx_of (fun _ _ kz => jw_aload_n 0 d_M_step_230 rfl rfl kz) ?_
        refine jx_of (fun _ _ kz => jw_iconst 2 d_M_step_231 (by decide) kz) ?_
        refine jx_of (fun _ _ kz => jw_putI fl_M_151 (Or.inl rfl) rfl rfl d_M_step_232 rfl rfl kz) ?_
        refine jx_of (fun _ _ kz => jw_goto 243 d_M_step_235 (by decide) kz) ?_
        refine jx_of (fun _ _ kz => jw_iconst (-1) d_M_step_243 (by decide) kz) ?_
        refine jx_iret d_M_step_244 rfl ?_
        exact ⟨rfl, by first | exact h1 | exact iv_sI (iv_tr h1 h2) (by unfold hl; omega) | exact iv_sI h1 (by unfold hl; omega) | exact iv_rf hI⟩
    · skip
      refine jx_of (fun _ _ kz => jw_aload_n 0 d_M_step_153 rfl rfl kz) ?_
      refine jx_of (fun _ _ kz => jw_getIe (me_I M 7 0 34) fl_M_151 d_M_step_154 rfl rfl rfl kz) ?_
      refine jx_of (fun _ _ kz => jw_iconst 2 d_M_step_157 (by decide) kz) ?_
      refine jx_icmp_ne 195 d_M_step_158 (by decide) (fun b_158 => ?_) (fun b_158 => ?_)
      · skip
        refine jx_of (fun _ _ kz => jw_aload_n 0 d_M_step_195 rfl rfl kz) ?_
        refine jx_of (fun _ _ kz => jw_iload_n 3 d_M_step_196 rfl rfl kz) ?_
        refine jx_callV (z_M_pending (d + 5) x np nt X hI  hx) mt_M_pending cf_M rfl rfl ml_M_174 im_M_pending se_M_pending d_M_step_197 rfl rfl (Nat.le_of_ble_eq_true rfl) ?_
        rintro _ M1 ⟨rfl, h1⟩
        refine jx_eq (st2 := []) rfl rfl rfl ?_
        refine jx_of (fun _ _ kz => jw_goto 243 d_M_step_200 (by decide) kz) ?_
        refine jx_of (fun _ _ kz => jw_iconst (-1) d_M_step_243 (by decide) kz) ?_
        refine jx_iret d_M_step_244 rfl ?_
        exact ⟨rfl, by first | exact h1 | exact iv_sI (iv_tr h1 h2) (by unfold hl; omega) | exact iv_sI h1 (by unfold hl; omega) | exact iv_rf hI⟩
      · skip
        refine jx_of (fun _ _ kz => jw_aload_n 0 d_M_step_161 rfl rfl kz) ?_
        refine jx_of (fun _ _ kz => jw_getPe (some (40, 0)) fl_M_41 d_M_step_162 rfl rfl (by simp [me_I_sI, me_I_sP, me_I_nx, me_P_sI, me_P_sP, me_P_nx, me_N_sI, me_N_sP, me_N_nx, me_L_sI, me_L_sP, me_L_nx, show me_P M 7 0 11 = some (40, 0) from hI.1.1 (7, 0, 11, 40, 0) (by decide)]) kz) ?_
        refine jx_of (fun _ _ kz => jw_iload d_M_step_165 rfl kz) ?_
        refine jx_of (fun _ _ kz => jw_ialde (_) d_M_step_167 rfl rfl (by rw [show me_L _ 40 0 = 144 from (by simp [me_I_sI, me_I_sP, me_I_nx, me_P_sI, me_P_sP, me_P_nx, me_N_sI, me_N_sP, me_N_nx, me_L_sI, me_L_sP, me_L_nx, show me_L M 40 0 = 144 from hI.1.2 (40, 0, 144) (by decide)])]; exact (vp_in_nI (by omega) (by decide))) rfl kz) ?_
        refine jx_of (fun _ _ kz => jw_iconst 2 d_M_step_168 (by decide) kz) ?_
        refine jx_icmp_ne 195 d_M_step_169 (by decide) (fun b_169 => ?_) (fun b_169 => ?_)
        · skip
          refine jx_of (fun _ _ kz => jw_aload_n 0 d_M_step_195 rfl rfl kz) ?_
          refine jx_of (fun _ _ kz => jw_iload_n 3 d_M_step_196 rfl rfl kz) ?_
          refine jx_callV (z_M_pending (d + 5) x np nt X hI  hx) mt_M_pending cf_M rfl rfl ml_M_174 im_M_pending se_M_pending d_M_step_197 rfl rfl (Nat.le_of_ble_eq_true rfl) ?_
          rintro _ M1 ⟨rfl, h1⟩
          refine jx_eq (st2 := []) rfl rfl rfl ?_
          refine jx_of (fun _ _ kz => jw_goto 243 d_M_step_200 (by decide) kz) ?_
          refine jx_of (fun _ _ kz => jw_iconst (-1) d_M_step_243 (by decide) kz) ?_
          refine jx_iret d_M_step_244 rfl ?_
          exact ⟨rfl, by first | exact h1 | exact iv_sI (iv_tr h1 h2) (by unfold hl; omega) | exact iv_sI h1 (by unfold hl; omega) | exact iv_rf hI⟩
        · skip
          refine jx_of (fun _ _ kz => jw_aload_n 0 d_M_step_172 rfl rfl kz) ?_
          refine jx_of (fun _ _ kz => jw_iload_n 3 d_M_step_173 rfl rfl kz) ?_
          refine jx_of (fun _ _ kz => jw_aload_n 0 d_M_step_174 rfl rfl kz) ?_
          refine jx_of (fun _ _ kz => jw_getPe (some (41, 0)) fl_M_44 d_M_step_175 rfl rfl (by simp [me_I_sI, me_I_sP, me_I_nx, me_P_sI, me_P_sP, me_P_nx, me_N_sI, me_N_sP, me_N_nx, me_L_sI, me_L_sP, me_L_nx, show me_P M 7 0 12 = some (41, 0) from hI.1.1 (7, 0, 12, 41, 0) (by decide)]) kz) ?_
          refine jx_of (fun _ _ kz => jw_iload d_M_step_178 rfl kz) ?_
          refine jx_of (fun _ _ kz => jw_ialde (_) d_M_step_180 rfl rfl (by rw [show me_L _ 41 0 = 144 from (by simp [me_I_sI, me_I_sP, me_I_nx, me_P_sI, me_P_sP, me_P_nx, me_N_sI, me_N_sP, me_N_nx, me_L_sI, me_L_sP, me_L_nx, show me_L M 41 0 = 144 from hI.1.2 (41, 0, 144) (by decide)])]; exact (vp_in_nI (by omega) (by decide))) rfl kz) ?_
          refine jx_of (fun _ _ kz => jw_aload_n 0 d_M_step_181 rfl rfl kz) ?_
          refine jx_of (fun _ _ kz => jw_getPe (some (41, 0)) fl_M_44 d_M_step_182 rfl rfl (by simp [me_I_sI, me_I_sP, me_I_nx, me_P_sI, me_P_sP, me_P_nx, me_N_sI, me_N_sP, me_N_nx, me_L_sI, me_L_sP, me_L_nx, show me_P M 7 0 12 = some (41, 0) from hI.1.1 (7, 0, 12, 41, 0) (by decide)]) kz) ?_
          refine jx_of (fun _ _ kz => jw_iload d_M_step_185 rfl kz) ?_
          refine jx_of (fun _ _ kz => jw_ialde (_) d_M_step_187 rfl rfl (by rw [show me_L _ 41 0 = 144 from (by simp [me_I_sI, me_I_sP, me_I_nx, me_P_sI, me_P_sP, me_P_nx, me_N_sI, me_N_sP, me_N_nx, me_L_sI, me_L_sP, me_L_nx, show me_L M 41 0 = 144 from hI.1.2 (41, 0, 144) (by decide)])]; exact (vp_in_nI (by omega) (by decide))) rfl kz) ?_
          refine jx_of (fun _ _ kz => jw_iadd d_M_step_188 kz) ?_
          refine jx_callV (z_M_ready (d + 5) x ((_ + _)) np nt X hI  hx) mt_M_ready cf_M rfl rfl ml_M_171 im_M_ready se_M_ready d_M_step_189 rfl rfl (Nat.le_of_ble_eq_true rfl) ?_
          rintro _ M1 ⟨rfl, h1⟩
          refine jx_eq (st2 := []) rfl rfl rfl ?_
          refine jx_of (fun _ _ kz => jw_goto 243 d_M_step_192 (by decide) kz) ?_
          refine jx_of (fun _ _ kz => jw_iconst (-1) d_M_step_243 (by decide) kz) ?_
          refine jx_iret d_M_step_244 rfl ?_
          exact ⟨rfl, by first | exact h1 | exact iv_sI (iv_tr h1 h2) (by unfold hl; omega) | exact iv_sI h1 (by unfold hl; omega) | exact iv_rf hI⟩
  · skip
    refine jx_of (fun _ _ kz => jw_aload_n 0 d_M_step_119 rfl rfl kz) ?_
    refine jx_of (fun _ _ kz => jw_iload_n 3 d_M_step_120 rfl rfl kz) ?_
    refine jx_of (fun _ _ kz => jw_aload_n 0 d_M_step_121 rfl rfl kz) ?_
    refine jx_of (fun _ _ kz => jw_getPe (some (41, 0)) fl_M_44 d_M_step_122 rfl rfl (by simp [me_I_sI, me_I_sP, me_I_nx, me_P_sI, me_P_sP, me_P_nx, me_N_sI, me_N_sP, me_N_nx, me_L_sI, me_L_sP, me_L_nx, show me_P M 7 0 12 = some (41, 0) from hI.1.1 (7, 0, 12, 41, 0) (by decide)]) kz) ?_
    refine jx_of (fun _ _ kz => jw_iload d_M_step_125 rfl kz) ?_
    refine jx_of (fun _ _ kz => jw_ialde (_) d_M_step_127 rfl rfl (by rw [show me_L _ 41 0 = 144 from (by simp [me_I_sI, me_I_sP, me_I_nx, me_P_sI, me_P_sP, me_P_nx, me_N_sI, me_N_sP, me_N_nx, me_L_sI, me_L_sP, me_L_nx, show me_L M 41 0 = 144 from hI.1.2 (41, 0, 144) (by decide)])]; exact (vp_in_nI (by omega) (by decide))) rfl kz) ?_
    refine jx_callV (z_M_broken (d + 5) x _ np nt X hI  hx) mt_M_broken cf_M rfl rfl ml_M_165 im_M_broken se_M_broken d_M_step_128 rfl rfl (Nat.le_of_ble_eq_true rfl) ?_
    rintro _ M1 ⟨rfl, h1⟩
    refine jx_eq (st2 := []) rfl rfl rfl ?_
    refine jx_of (fun _ _ kz => jw_aload_n 0 d_M_step_131 rfl rfl kz) ?_
    refine jx_of (fun _ _ kz => jw_iload_n 1 d_M_step_132 rfl rfl kz) ?_
    refine jx_of (fun _ _ kz => jw_iload d_M_step_133 rfl kz) ?_
    refine jx_callV (z_M_drop d t ((n + 1)) p len o np nt X h1.2.1  ht (tP_iv hp h1 ht) (by first | exact hc1 | exact hc2)) mt_M_drop cf_M rfl rfl ml_M_168 im_M_drop se_M_drop d_M_step_135 rfl rfl (Nat.le_of_ble_eq_true rfl) ?_
    rintro _ M2 ⟨rfl, h2⟩
    refine jx_eq (st2 := []) rfl rfl rfl ?_
    refine jx_of (fun _ _ kz => jw_aload_n 0 d_M_step_138 rfl rfl kz) ?_
    refine jx_of (fun _ _ kz => jw_iconst 3 d_M_step_139 (by decide) kz) ?_
    refine jx_of (fun _ _ kz => jw_putI fl_M_151 (Or.inl rfl) rfl rfl d_M_step_140 rfl rfl kz) ?_
    refine jx_of (fun _ _ kz => jw_goto 243 d_M_step_143 (by decide) kz) ?_
    refine jx_of (fun _ _ kz => jw_iconst (-1) d_M_step_243 (by decide) kz) ?_
    refine jx_iret d_M_step_244 rfl ?_
    exact ⟨rfl, by first | exact h1 | exact iv_sI (iv_tr h1 h2) (by unfold hl; omega) | exact iv_sI h1 (by unfold hl; omega) | exact iv_rf hI⟩
