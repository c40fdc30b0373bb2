theorem mI_work {M : Me} {np nt t : Nat} {v1 v2 : Int32} (h : mI M np nt [t]) : mI (me_sI (me_sI (me_sI (me_sI (me_sI (me_sI M 33 0 t 5) 38 0 t 0) 39 0 t 0) 37 0 t 4) 35 0 t v1) 7 0 30 v2) np nt [t] ∧ fw nt M (me_sI (me_sI (me_sI (me_sI (me_sI (me_sI M 33 0 t 5) 38 0 t 0) 39 0 t 0) 37 0 t 4) 35 0 t v1) 7 0 30 v2) := by
  have hf : fw nt M (me_sI (me_sI (me_sI (me_sI (me_sI (me_sI M 33 0 t 5) 38 0 t 0) 39 0 t 0) 37 0 t 4) 35 0 t v1) 7 0 30 v2) := fw_sI (fw_sI (fw_sI (fw_sI (fw_sI (fw_sI fw_rf (by omega)) (by omega)) (by omega)) (by omega)) (by omega)) (by omega)
  refine ⟨mI_q h hf (by simp [me_I_sI]) ?_, hf⟩
  obtain ⟨a, b, c, q⟩ := h.2.2.2.1
  exact ⟨a, b, c, qX_any (qX_any (qX_any (qX_any (qX_wh (qX_state q (Or.inl (by decide)))) (by omega)) (by omega)) (by omega)) (by omega)⟩
set_option maxRecDepth 20000 in
set_option maxHeartbeats 4000000 in
theorem z_M_work {G : Gt} {M : Me} (d : Nat) (t : Nat) (w : Nat) (np : Nat) (nt : Nat) (hI : mI M np nt [t]) (ht : t < nt) (hw : w < 3) : sx G yt_M_work yn_M_work (d + 9) [.inr (some (7, 0)), .inl (nI t), .inl (nI w)] M (fun r M' => r = none ∧ ∃ nt', iw np nt nt' [] M M') := by
  refine sx_of (k := 1) (lc := [some (.inr (some (7, 0))), some (.inl (nI t)), some (.inl (nI w)), none]) mt_M_work (Nat.le_of_ble_eq_true rfl) rfl ?_
  have hnt := hI.2.2.1.2.1
  refine jx_of (fun _ _ kz => jw_aload_n 0 d_M_work_0 rfl rfl kz) ?_
  refine jx_of (fun _ _ kz => jw_getPe (some (33, 0)) fl_M_19 d_M_work_1 rfl rfl (by simp [me_I_sI, me_I_sP, me_I_nx, me_P_sI, me_P_sP, me_P_nx, me_N_sI, me_N_sP, me_N_nx, me_L_sI, me_L_sP, me_L_nx, show me_P M 7 0 4 = some (33, 0) from hI.1.1 (7, 0, 4, 33, 0) (by decide)]) kz) ?_
  refine jx_of (fun _ _ kz => jw_iload_n 1 d_M_work_4 rfl rfl kz) ?_
  refine jx_of (fun _ _ kz => jw_iconst 5 d_M_work_5 (by decide) kz) ?_
  refine jx_of (fun _ _ kz => jw_iast d_M_work_6 rfl rfl (by rw [show me_L _ 33 0 = 12 from (by simp [me_I_sI, me_I_sP, me_I_nx, me_P_sI, me_P_sP, me_P_nx, me_N_sI, me_N_sP, me_N_nx, me_L_sI, me_L_sP, me_L_nx, show me_L M 33 0 = 12 from hI.1.2 (33, 0, 12) (by decide)])]; exact (vp_in_nI (by omega) (by decide))) kz) ?_
  rw [nI_clamp (by omega)]
  refine jx_of (fun _ _ kz => jw_aload_n 0 d_M_work_7 rfl rfl kz) ?_
  refine jx_of (fun _ _ kz => jw_getPe (some (38, 0)) fl_M_34 d_M_work_8 rfl rfl (by simp [me_I_sI, me_I_sP, me_I_nx, me_P_sI, me_P_sP, me_P_nx, me_N_sI, me_N_sP, me_N_nx, me_L_sI, me_L_sP, me_L_nx, show me_P M 7 0 9 = some (38, 0) from hI.1.1 (7, 0, 9, 38, 0) (by decide)]) kz) ?_
  refine jx_of (fun _ _ kz => jw_iload_n 1 d_M_work_11 rfl rfl kz) ?_
  refine jx_of (fun _ _ kz => jw_iconst 0 d_M_work_12 (by decide) kz) ?_
  refine jx_of (fun _ _ kz => jw_iast d_M_work_13 rfl rfl (by rw [show me_L _ 38 0 = 12 from (by simp [me_I_sI, me_I_sP, me_I_nx, me_P_sI, me_P_sP, me_P_nx, me_N_sI, me_N_sP, me_N_nx, me_L_sI, me_L_sP, me_L_nx, show me_L M 38 0 = 12 from hI.1.2 (38, 0, 12) (by decide)])]; exact (vp_in_nI (by omega) (by decide))) kz) ?_
  rw [nI_clamp (by omega)]
  refine jx_of (fun _ _ kz => jw_aload_n 0 d_M_work_14 rfl rfl kz) ?_
  refine jx_of (fun _ _ kz => jw_getPe (some (39, 0)) fl_M_37 d_M_work_15 rfl rfl (by simp [me_I_sI, me_I_sP, me_I_nx, me_P_sI, me_P_sP, me_P_nx, me_N_sI, me_N_sP, me_N_nx, me_L_sI, me_L_sP, me_L_nx, show me_P M 7 0 10 = some (39, 0) from hI.1.1 (7, 0, 10, 39, 0) (by decide)]) kz) ?_
  refine jx_of (fun _ _ kz => jw_iload_n 1 d_M_work_18 rfl rfl kz) ?_
  refine jx_of (fun _ _ kz => jw_iconst 0 d_M_work_19 (by decide) kz) ?_
  refine jx_of (fun _ _ kz => jw_zast d_M_work_20 rfl rfl (by rw [show me_L _ 39 0 = 12 from (by simp [me_I_sI, me_I_sP, me_I_nx, me_P_sI, me_P_sP, me_P_nx, me_N_sI, me_N_sP, me_N_nx, me_L_sI, me_L_sP, me_L_nx, show me_L M 39 0 = 12 from hI.1.2 (39, 0, 12) (by decide)])]; exact (vp_in_nI (by omega) (by decide))) (by decide) kz) ?_
  rw [nI_clamp (by omega)]
  refine jx_of (fun _ _ kz => jw_aload_n 0 d_M_work_21 rfl rfl kz) ?_
  refine jx_of (fun _ _ kz => jw_getPe (some (37, 0)) fl_M_31 d_M_work_22 rfl rfl (by simp [me_I_sI, me_I_sP, me_I_nx, me_P_sI, me_P_sP, me_P_nx, me_N_sI, me_N_sP, me_N_nx, me_L_sI, me_L_sP, me_L_nx, show me_P M 7 0 8 = some (37, 0) from hI.1.1 (7, 0, 8, 37, 0) (by decide)]) kz) ?_
  refine jx_of (fun _ _ kz => jw_iload_n 1 d_M_work_25 rfl rfl kz) ?_
  refine jx_of (fun _ _ kz => jw_iconst 4 d_M_work_26 (by decide) kz) ?_
  refine jx_of (fun _ _ kz => jw_iast d_M_work_27 rfl rfl (by rw [show me_L _ 37 0 = 12 from (by simp [me_I_sI, me_I_sP, me_I_nx, me_P_sI, me_P_sP, me_P_nx, me_N_sI, me_N_sP, me_N_nx, me_L_sI, me_L_sP, me_L_nx, show me_L M 37 0 = 12 from hI.1.2 (37, 0, 12) (by decide)])]; exact (vp_in_nI (by omega) (by decide))) kz) ?_
  rw [nI_clamp (by omega)]
  refine jx_of (fun _ _ kz => jw_aload_n 0 d_M_work_28 rfl rfl kz) ?_
  refine jx_of (fun _ _ kz => jw_getPe (some (35, 0)) fl_M_25 d_M_work_29 rfl rfl (by simp [me_I_sI, me_I_sP, me_I_nx, me_P_sI, me_P_sP, me_P_nx, me_N_sI, me_N_sP, me_N_nx, me_L_sI, me_L_sP, me_L_nx, show me_P M 7 0 6 = some (35, 0) from hI.1.1 (7, 0, 6, 35, 0) (by decide)]) kz) ?_
  refine jx_of (fun _ _ kz => jw_iload_n 1 d_M_work_32 rfl rfl kz) ?_
  refine jx_of (fun _ _ kz => jw_dup2 d_M_work_33 kz) ?_
  refine jx_of (fun _ _ kz => jw_ialde (me_I M 35 0 t) d_M_work_34 rfl rfl (by rw [show me_L _ 35 0 = 12 from (by simp [me_I_sI, me_I_sP, me_I_nx, me_P_sI, me_P_sP, me_P_nx, me_N_sI, me_N_sP, me_N_nx, me_L_sI, me_L_sP, me_L_nx, show me_L M 35 0 = 12 from hI.1.2 (35, 0, 12) (by decide)])]; exact (vp_in_nI (by omega) (by decide))) (by rw [nI_clamp (by omega)] <;> simp [me_I_sI]) kz) ?_
  refine jx_of (fun _ _ kz => jw_iconst 1 d_M_work_35 (by decide) kz) ?_
  refine jx_of (fun _ _ kz => jw_iadd d_M_work_36 kz) ?_
  refine jx_of (fun _ _ kz => jw_iast d_M_work_37 rfl rfl (by rw [show me_L _ 35 0 = 12 from (by simp [me_I_sI, me_I_sP, me_I_nx, me_P_sI, me_P_sP, me_P_nx, me_N_sI, me_N_sP, me_N_nx, me_L_sI, me_L_sP, me_L_nx, show me_L M 35 0 = 12 from hI.1.2 (35, 0, 12) (by decide)])]; exact (vp_in_nI (by omega) (by decide))) kz) ?_
  rw [nI_clamp (by omega)]
  refine jx_of (fun _ _ kz => jw_aload_n 0 d_M_work_38 rfl rfl kz) ?_
  refine jx_of (fun _ _ kz => jw_dup d_M_work_39 kz) ?_
  refine jx_of (fun _ _ kz => jw_getIe (me_I M 7 0 30) fl_M_195 d_M_work_40 rfl rfl (by simp [me_I_sI]) kz) ?_
  refine jx_of (fun _ _ kz => jw_iconst 1 d_M_work_43 (by decide) kz) ?_
  refine jx_of (fun _ _ kz => jw_iadd d_M_work_44 kz) ?_
  refine jx_of (fun _ _ kz => jw_putI fl_M_195 (Or.inl rfl) rfl rfl d_M_work_45 rfl rfl kz) ?_
  refine jx_of (fun _ _ kz => jw_aload_n 0 d_M_work_48 rfl rfl kz) ?_
  refine jx_of (fun _ _ kz => jw_iload_n 1 d_M_work_49 rfl rfl kz) ?_
  refine jx_callV (z_M_poll d t np nt ([t]) (mI_work hI).1  ht) mt_M_poll cf_M rfl rfl ml_M_198 im_M_poll se_M_poll d_M_work_50 rfl rfl (Nat.le_of_ble_eq_true rfl) ?_
  rintro _ M2 ⟨rfl, nt2, h2⟩
  have hz : me_I M2 38 0 t = 0 := (h2.2.2.2 t (by simp)).1.trans (by simp [me_I_sI])
  have hf := fw_tr (Nat.le_refl nt) (mI_work hI).2 h2.2.2.1
  have hn2 := h2.2.1.2.2.1.2.1
  refine jx_eq (st2 := []) rfl rfl rfl ?_
  refine jx_of (fun _ _ kz => jw_bipush 12 d_M_work_53 (by decide) kz) ?_
  refine jx_of (fun _ _ kz => jw_iload_n 1 d_M_work_55 rfl rfl kz) ?_
  refine jx_of (fun _ _ kz => jw_imul d_M_work_56 kz) ?_
  rw [show (12 * (nI t) : Int32) = nI (12 * t) from n12 t]
  refine jx_of (fun _ _ kz => jw_istore_n 3 d_M_work_57 rfl (Nat.le_of_ble_eq_true rfl) kz) ?_
  dsimp only [List.set]
  refine jx_of (fun _ _ kz => jw_aload_n 0 d_M_work_58 rfl rfl kz) ?_
  refine jx_of (fun _ _ kz => jw_getIe (me_I M2 7 0 34) fl_M_151 d_M_work_59 rfl rfl rfl kz) ?_
  refine jx_of (fun _ _ kz => jw_iconst 1 d_M_work_62 (by decide) kz) ?_
  refine jx_icmp_ne 104 d_M_work_63 (by decide) (fun b_63 => ?_) (fun b_63 => ?_)
  · skip
    refine jx_of (fun _ _ kz => jw_aload_n 0 d_M_work_104 rfl rfl kz) ?_
    refine jx_of (fun _ _ kz => jw_iload_n 1 d_M_work_105 rfl rfl kz) ?_
    refine jx_of (fun _ _ kz => jw_aload_n 0 d_M_work_106 rfl rfl kz) ?_
    refine jx_of (fun _ _ kz => jw_getIe (me_I M2 7 0 34) fl_M_151 d_M_work_107 rfl rfl rfl kz) ?_
    refine jx_of (fun _ _ kz => jw_iconst 2 d_M_work_110 (by decide) kz) ?_
    refine jx_icmp_ne 118 d_M_work_111 (by decide) (fun b_111 => ?_) (fun b_111 => ?_)
    · skip
      refine jx_of (fun _ _ kz => jw_iconst 3 d_M_work_118 (by decide) kz) ?_
      refine jx_of (fun _ _ kz => jw_aload_n 0 d_M_work_119 rfl rfl kz) ?_
      refine jx_of (fun _ _ kz => jw_getPe (some (41, 0)) fl_M_44 d_M_work_120 rfl rfl (by simp [me_I_sI, me_I_sP, me_I_nx, me_P_sI, me_P_sP, me_P_nx, me_N_sI, me_N_sP, me_N_nx, me_L_sI, me_L_sP, me_L_nx, show me_P M2 7 0 12 = some (41, 0) from h2.2.1.1.1 (7, 0, 12, 41, 0) (by decide)]) kz) ?_
      refine jx_of (fun _ _ kz => jw_iload_n 3 d_M_work_123 rfl rfl kz) ?_
      refine jx_of (fun _ _ kz => jw_ialde (_) d_M_work_124 rfl rfl (by rw [show me_L _ 41 0 = 144 from (by simp [me_I_sI, me_I_sP, me_I_nx, me_P_sI, me_P_sP, me_P_nx, me_N_sI, me_N_sP, me_N_nx, me_L_sI, me_L_sP, me_L_nx, show me_L M2 41 0 = 144 from h2.2.1.1.2 (41, 0, 144) (by decide)])]; exact (vp_in_nI (by omega) (by decide))) rfl kz) ?_
      refine jx_callV (z_M_ends (d + 7) t 3 _ h2.2.1.1  (by omega)) mt_M_ends cf_M rfl rfl ml_M_201 im_M_ends se_M_ends d_M_work_125 rfl rfl (Nat.le_of_ble_eq_true rfl) ?_
      rintro _ _ ⟨rfl, rfl⟩
      refine jx_eq (st2 := []) rfl rfl rfl ?_
      refine jx_of (fun _ _ kz => jw_aload_n 0 d_M_work_128 rfl rfl kz) ?_
      refine jx_of (fun _ _ kz => jw_iload_n 1 d_M_work_129 rfl rfl kz) ?_
      refine jx_callV (z_M_tellReapers (d + 3) ((nI t)) np nt2 ([]) (mI_any (k := t) (s := 34) (mI_q h2.2.1 (fw_sI (fw_rf (nt := nt2)) (by omega)) (by simp [me_I_sI]) (mQ_out h2.2.1.2.2.2.1 hz)) (Or.inl (by unfold hl; omega)))) mt_M_tellReapers cf_M rfl rfl ml_M_204 im_M_tellReapers se_M_tellReapers d_M_work_130 rfl rfl (Nat.le_of_ble_eq_true rfl) ?_
      rintro _ M4 ⟨rfl, h4⟩
      refine jx_eq (st2 := []) rfl rfl rfl ?_
      refine jx_vret d_M_work_133 rfl ?_
      first | exact absurd b_92 b_77 | exact ⟨rfl, nt2, iw_mk h2.1 (mI_q h2.2.1 (fw_mc (fw_sI (fw_rf (nt := nt2)) (by omega)) c3) ((c3.2 7 0 27 (by unfold kp; omega)).trans (by simp [me_I_sI])) q3) (fw_mc (fw_sI hf (by omega)) c3)⟩ | exact ⟨rfl, nt2, iw_mk h2.1 (mI_q h2.2.1 (fw_sI (fw_rf (nt := nt2)) (by omega)) (by simp [me_I_sI]) (mQ_out h2.2.1.2.2.2.1 hz)) (fw_sI hf (by omega))⟩ | exact ⟨rfl, nt2, iw_mk h2.1 h4.2.1 (fw_tr h2.1 (fw_sI (fw_sI hf (by omega)) (by omega)) (iw_iv h4).2.2.1)⟩
    · skip
      refine jx_of (fun _ _ kz => jw_iconst 2 d_M_work_114 (by decide) kz) ?_
      refine jx_of (fun _ _ kz => jw_goto 119 d_M_work_115 (by decide) kz) ?_
      refine jx_of (fun _ _ kz => jw_aload_n 0 d_M_work_119 rfl rfl kz) ?_
      refine jx_of (fun _ _ kz => jw_getPe (some (41, 0)) fl_M_44 d_M_work_120 rfl rfl (by simp [me_I_sI, me_I_sP, me_I_nx, me_P_sI, me_P_sP, me_P_nx, me_N_sI, me_N_sP, me_N_nx, me_L_sI, me_L_sP, me_L_nx, show me_P M2 7 0 12 = some (41, 0) from h2.2.1.1.1 (7, 0, 12, 41, 0) (by decide)]) kz) ?_
      refine jx_of (fun _ _ kz => jw_iload_n 3 d_M_work_123 rfl rfl kz) ?_
      refine jx_of (fun _ _ kz => jw_ialde (_) d_M_work_124 rfl rfl (by rw [show me_L _ 41 0 = 144 from (by simp [me_I_sI, me_I_sP, me_I_nx, me_P_sI, me_P_sP, me_P_nx, me_N_sI, me_N_sP, me_N_nx, me_L_sI, me_L_sP, me_L_nx, show me_L M2 41 0 = 144 from h2.2.1.1.2 (41, 0, 144) (by decide)])]; exact (vp_in_nI (by omega) (by decide))) rfl kz) ?_
      refine jx_callV (z_M_ends (d + 7) t 2 _ h2.2.1.1  (by omega)) mt_M_ends cf_M rfl rfl ml_M_201 im_M_ends se_M_ends d_M_work_125 rfl rfl (Nat.le_of_ble_eq_true rfl) ?_
      rintro _ _ ⟨rfl, rfl⟩
      refine jx_eq (st2 := []) rfl rfl rfl ?_
      refine jx_of (fun _ _ kz => jw_aload_n 0 d_M_work_128 rfl rfl kz) ?_
      refine jx_of (fun _ _ kz => jw_iload_n 1 d_M_work_129 rfl rfl kz) ?_
      refine jx_callV (z_M_tellReapers (d + 3) ((nI t)) np nt2 ([]) (mI_any (k := t) (s := 34) (mI_q h2.2.1 (fw_sI (fw_rf (nt := nt2)) (by omega)) (by simp [me_I_sI]) (mQ_out h2.2.1.2.2.2.1 hz)) (Or.inl (by unfold hl; omega)))) mt_M_tellReapers cf_M rfl rfl ml_M_204 im_M_tellReapers se_M_tellReapers d_M_work_130 rfl rfl (Nat.le_of_ble_eq_true rfl) ?_
      rintro _ M4 ⟨rfl, h4⟩
      refine jx_eq (st2 := []) rfl rfl rfl ?_
      refine jx_vret d_M_work_133 rfl ?_
      first | exact absurd b_92 b_77 | exact ⟨rfl, nt2, iw_mk h2.1 (mI_q h2.2.1 (fw_mc (fw_sI (fw_rf (nt := nt2)) (by omega)) c3) ((c3.2 7 0 27 (by unfold kp; omega)).trans (by simp [me_I_sI])) q3) (fw_mc (fw_sI hf (by omega)) c3)⟩ | exact ⟨rfl, nt2, iw_mk h2.1 (mI_q h2.2.1 (fw_sI (fw_rf (nt := nt2)) (by omega)) (by simp [me_I_sI]) (mQ_out h2.2.1.2.2.2.1 hz)) (fw_sI hf (by omega))⟩ | exact ⟨rfl, nt2, iw_mk h2.1 h4.2.1 (fw_tr h2.1 (fw_sI (fw_sI hf (by omega)) (by omega)) (iw_iv h4).2.2.1)⟩
  · skip
    refine jx_of (fun _ _ kz => jw_aload_n 0 d_M_work_66 rfl rfl kz) ?_
    refine jx_of (fun _ _ kz => jw_getPe (some (33, 0)) fl_M_19 d_M_work_67 rfl rfl (by simp [me_I_sI, me_I_sP, me_I_nx, me_P_sI, me_P_sP, me_P_nx, me_N_sI, me_N_sP, me_N_nx, me_L_sI, me_L_sP, me_L_nx, show me_P M2 7 0 4 = some (33, 0) from h2.2.1.1.1 (7, 0, 4, 33, 0) (by decide)]) kz) ?_
    refine jx_of (fun _ _ kz => jw_iload_n 1 d_M_work_70 rfl rfl kz) ?_
    refine jx_of (fun _ _ kz => jw_aload_n 0 d_M_work_71 rfl rfl kz) ?_
    refine jx_of (fun _ _ kz => jw_getPe (some (39, 0)) fl_M_37 d_M_work_72 rfl rfl (by simp [me_I_sI, me_I_sP, me_I_nx, me_P_sI, me_P_sP, me_P_nx, me_N_sI, me_N_sP, me_N_nx, me_L_sI, me_L_sP, me_L_nx, show me_P M2 7 0 10 = some (39, 0) from h2.2.1.1.1 (7, 0, 10, 39, 0) (by decide)]) kz) ?_
    refine jx_of (fun _ _ kz => jw_iload_n 1 d_M_work_75 rfl rfl kz) ?_
    refine jx_of (fun _ _ kz => jw_zalde (me_I M2 39 0 t) d_M_work_76 rfl rfl (by rw [show me_L _ 39 0 = 12 from (by simp [me_I_sI, me_I_sP, me_I_nx, me_P_sI, me_P_sP, me_P_nx, me_N_sI, me_N_sP, me_N_nx, me_L_sI, me_L_sP, me_L_nx, show me_L M2 39 0 = 12 from h2.2.1.1.2 (39, 0, 12) (by decide)])]; exact (vp_in_nI (by omega) (by decide))) (by rw [nI_clamp (by omega)] <;> simp [me_I_sI]) kz) ?_
    refine jx_if_eq 84 d_M_work_77 (by decide) (fun b_77 => ?_) (fun b_77 => ?_)
    · skip
      refine jx_of (fun _ _ kz => jw_iconst 0 d_M_work_84 (by decide) kz) ?_
      refine jx_of (fun _ _ kz => jw_iast d_M_work_85 rfl rfl (by rw [show me_L _ 33 0 = 12 from (by simp [me_I_sI, me_I_sP, me_I_nx, me_P_sI, me_P_sP, me_P_nx, me_N_sI, me_N_sP, me_N_nx, me_L_sI, me_L_sP, me_L_nx, show me_L M2 33 0 = 12 from h2.2.1.1.2 (33, 0, 12) (by decide)])]; exact (vp_in_nI (by omega) (by decide))) kz) ?_
      rw [nI_clamp (by omega)]
      refine jx_of (fun _ _ kz => jw_aload_n 0 d_M_work_86 rfl rfl kz) ?_
      refine jx_of (fun _ _ kz => jw_getPe (some (39, 0)) fl_M_37 d_M_work_87 rfl rfl (by simp [me_I_sI, me_I_sP, me_I_nx, me_P_sI, me_P_sP, me_P_nx, me_N_sI, me_N_sP, me_N_nx, me_L_sI, me_L_sP, me_L_nx, show me_P M2 7 0 10 = some (39, 0) from h2.2.1.1.1 (7, 0, 10, 39, 0) (by decide)]) kz) ?_
      refine jx_of (fun _ _ kz => jw_iload_n 1 d_M_work_90 rfl rfl kz) ?_
      refine jx_of (fun _ _ kz => jw_zalde (me_I M2 39 0 t) d_M_work_91 rfl rfl (by rw [show me_L _ 39 0 = 12 from (by simp [me_I_sI, me_I_sP, me_I_nx, me_P_sI, me_P_sP, me_P_nx, me_N_sI, me_N_sP, me_N_nx, me_L_sI, me_L_sP, me_L_nx, show me_L M2 39 0 = 12 from h2.2.1.1.2 (39, 0, 12) (by decide)])]; exact (vp_in_nI (by omega) (by decide))) (by rw [nI_clamp (by omega)] <;> simp [me_I_sI]) kz) ?_
      refine jx_if_eq 133 d_M_work_92 (by decide) (fun b_92 => ?_) (fun b_92 => ?_)
      · skip
        refine jx_vret d_M_work_133 rfl ?_
        first | exact absurd b_92 b_77 | exact ⟨rfl, nt2, iw_mk h2.1 (mI_q h2.2.1 (fw_mc (fw_sI (fw_rf (nt := nt2)) (by omega)) c3) ((c3.2 7 0 27 (by unfold kp; omega)).trans (by simp [me_I_sI])) q3) (fw_mc (fw_sI hf (by omega)) c3)⟩ | exact ⟨rfl, nt2, iw_mk h2.1 (mI_q h2.2.1 (fw_sI (fw_rf (nt := nt2)) (by omega)) (by simp [me_I_sI]) (mQ_out h2.2.1.2.2.2.1 hz)) (fw_sI hf (by omega))⟩ | exact ⟨rfl, nt2, iw_mk h2.1 h4.2.1 (fw_tr h2.1 (fw_sI (fw_sI hf (by omega)) (by omega)) (iw_iv h4).2.2.1)⟩
      · skip
        refine jx_of (fun _ _ kz => jw_aload_n 0 d_M_work_95 rfl rfl kz) ?_
        refine jx_of (fun _ _ kz => jw_iload_n 1 d_M_work_96 rfl rfl kz) ?_
        refine jx_of (fun _ _ kz => jw_iload_n 2 d_M_work_97 rfl rfl kz) ?_
        refine jx_callV (z_M_toRing (d + 5) t w nt2 ([]) (mSh_mc h2.2.1.1 (sq_sI sq_rf))  hw (by first | exact mQ_state h2.2.1.2.2.2.1 (by decide) | exact absurd b_77 b_92)) mt_M_toRing cf_M rfl rfl ml_M_128 im_M_toRing se_M_toRing d_M_work_98 rfl rfl (Nat.le_of_ble_eq_true rfl) ?_
        rintro _ M3 ⟨rfl, q3, c3, t3⟩
        refine jx_eq (st2 := []) rfl rfl rfl ?_
        refine jx_of (fun _ _ kz => jw_goto 133 d_M_work_101 (by decide) kz) ?_
        refine jx_vret d_M_work_133 rfl ?_
        first | exact absurd b_92 b_77 | exact ⟨rfl, nt2, iw_mk h2.1 (mI_q h2.2.1 (fw_mc (fw_sI (fw_rf (nt := nt2)) (by omega)) c3) ((c3.2 7 0 27 (by unfold kp; omega)).trans (by simp [me_I_sI])) q3) (fw_mc (fw_sI hf (by omega)) c3)⟩ | exact ⟨rfl, nt2, iw_mk h2.1 (mI_q h2.2.1 (fw_sI (fw_rf (nt := nt2)) (by omega)) (by simp [me_I_sI]) (mQ_out h2.2.1.2.2.2.1 hz)) (fw_sI hf (by omega))⟩ | exact ⟨rfl, nt2, iw_mk h2.1 h4.2.1 (fw_tr h2.1 (fw_sI (fw_sI hf (by omega)) (by omega)) (iw_iv h4).2.2.1)⟩
    · skip
      refine jx_of (fun _ _ kz => jw_iconst 1 d_M_work_80 (by decide) kz) ?_
      refine jx_of (fun _ _ kz => jw_goto 85 d_M_work_81 (by decide) kz) ?_
      refine jx_of (fun _ _ kz => jw_iast d_M_work_85 rfl rfl (by rw [show me_L _ 33 0 = 12 from (by simp [me_I_sI, me_I_sP, me_I_nx, me_P_sI, me_P_sP, me_P_nx, me_N_sI, me_N_sP, me_N_nx, me_L_sI, me_L_sP, me_L_nx, show me_L M2 33 0 = 12 from h2.2.1.1.2 (33, 0, 12) (by decide)])]; exact (vp_in_nI (by omega) (by decide))) kz) ?_
      rw [nI_clamp (by omega)]
      refine jx_of (fun _ _ kz => jw_aload_n 0 d_M_work_86 rfl rfl kz) ?_
      refine jx_of (fun _ _ kz => jw_getPe (some (39, 0)) fl_M_37 d_M_work_87 rfl rfl (by simp [me_I_sI, me_I_sP, me_I_nx, me_P_sI, me_P_sP, me_P_nx, me_N_sI, me_N_sP, me_N_nx, me_L_sI, me_L_sP, me_L_nx, show me_P M2 7 0 10 = some (39, 0) from h2.2.1.1.1 (7, 0, 10, 39, 0) (by decide)]) kz) ?_
      refine jx_of (fun _ _ kz => jw_iload_n 1 d_M_work_90 rfl rfl kz) ?_
      refine jx_of (fun _ _ kz => jw_zalde (me_I M2 39 0 t) d_M_work_91 rfl rfl (by rw [show me_L _ 39 0 = 12 from (by simp [me_I_sI, me_I_sP, me_I_nx, me_P_sI, me_P_sP, me_P_nx, me_N_sI, me_N_sP, me_N_nx, me_L_sI, me_L_sP, me_L_nx, show me_L M2 39 0 = 12 from h2.2.1.1.2 (39, 0, 12) (by decide)])]; exact (vp_in_nI (by omega) (by decide))) (by rw [nI_clamp (by omega)] <;> simp [me_I_sI]) kz) ?_
      refine jx_if_eq 133 d_M_work_92 (by decide) (fun b_92 => ?_) (fun b_92 => ?_)
      · skip
        refine jx_vret d_M_work_133 rfl ?_
        first | exact absurd b_92 b_77 | exact ⟨rfl, nt2, iw_mk h2.1 (mI_q h2.2.1 (fw_mc (fw_sI (fw_rf (nt := nt2)) (by omega)) c3) ((c3.2 7 0 27 (by unfold kp; omega)).trans (by simp [me_I_sI])) q3) (fw_mc (fw_sI hf (by omega)) c3)⟩ | exact ⟨rfl, nt2, iw_mk h2.1 (mI_q h2.2.1 (fw_sI (fw_rf (nt := nt2)) (by omega)) (by simp [me_I_sI]) (mQ_out h2.2.1.2.2.2.1 hz)) (fw_sI hf (by omega))⟩ | exact ⟨rfl, nt2, iw_mk h2.1 h4.2.1 (fw_tr h2.1 (fw_sI (fw_sI hf (by omega)) (by omega)) (iw_iv h4).2.2.1)⟩
      · skip
        refine jx_of (fun _ _ kz => jw_aload_n 0 d_M_work_95 rfl rfl kz) ?_
        refine jx_of (fun _ _ kz => jw_iload_n 1 d_M_work_96 rfl rfl kz) ?_
        refine jx_of (fun _ _ kz => jw_iload_n 2 d_M_work_97 rfl rfl kz) ?_
        refine jx_callV (z_M_toRing (d + 5) t w nt2 ([]) (mSh_mc h2.2.1.1 (sq_sI sq_rf))  hw (by first | exact mQ_state h2.2.1.2.2.2.1 (by decide) | exact absurd b_77 b_92)) mt_M_toRing cf_M rfl rfl ml_M_128 im_M_toRing se_M_toRing d_M_work_98 rfl rfl (Nat.le_of_ble_eq_true rfl) ?_
        rintro _ M3 ⟨rfl, q3, c3, t3⟩
        refine jx_eq (st2 := []) rfl rfl rfl ?_
        refine jx_of (fun _ _ kz => jw_goto 133 d_M_work_101 (by decide) kz) ?_
        refine jx_vret d_M_work_133 rfl ?_
        first | exact absurd b_92 b_77 | exact ⟨rfl, nt2, iw_mk h2.1 (mI_q h2.2.1 (fw_mc (fw_sI (fw_rf (nt := nt2)) (by omega)) c3) ((c3.2 7 0 27 (by unfold kp; omega)).trans (by simp [me_I_sI])) q3) (fw_mc (fw_sI hf (by omega)) c3)⟩ | exact ⟨rfl, nt2, iw_mk h2.1 (mI_q h2.2.1 (fw_sI (fw_rf (nt := nt2)) (by omega)) (by simp [me_I_sI]) (mQ_out h2.2.1.2.2.2.1 hz)) (fw_sI hf (by omega))⟩ | exact ⟨rfl, nt2, iw_mk h2.1 h4.2.1 (fw_tr h2.1 (fw_sI (fw_sI hf (by omega)) (by omega)) (iw_iv h4).2.2.1)⟩
