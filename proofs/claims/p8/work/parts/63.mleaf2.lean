set_option maxRecDepth 20000 in
set_option maxHeartbeats 4000000 in
theorem z_M_leaf {G : Gt} {M : Me} (d : Nat) (t : Nat) (n : Nat) (x : Nat) (p : Nat) (len : Nat) (o : Nat → Nat) (np : Nat) (nt : Nat) (X : List Nat) (hI : mI M np nt X) (ht : t < nt) (hp : tP M t p len o) (hn : n < len) (hx : x < 144) : sx G yt_M_leaf yn_M_leaf (d + 7) [.inr (some (7, 0)), .inl (nI t), .inl (nI n), .inl (nI x)] M (fun r M' => r = none ∧ ∃ nt', iv np nt nt' X M M') := by
  refine sx_of (k := 4) (lc := [some (.inr (some (7, 0))), some (.inl (nI t)), some (.inl (nI n)), some (.inl (nI x)), none, none, none, none]) mt_M_leaf (Nat.le_of_ble_eq_true rfl) rfl ?_
  have hok := hp.2.2.2.2.1 n hn
  obtain ⟨A, hA⟩ : ∃ A, me_I M 31 0 (12 * p + n) = A := ⟨_, rfl⟩
  have hnt := hI.2.2.1.2.1
  have hle := hp.2.2.1
  refine jx_of (fun _ _ kz => jw_aload_n 0 d_M_leaf_0 rfl rfl kz) ?_
  refine jx_of (fun _ _ kz => jw_iload_n 1 d_M_leaf_1 rfl rfl kz) ?_
  refine jx_of (fun _ _ kz => jw_iload_n 2 d_M_leaf_2 rfl rfl kz) ?_
  refine jx_callV (z_M_opOf (d + 5) t n p hI.1  (by omega) (by omega) hp.1 hp.2.1) mt_M_opOf cf_M rfl rfl ml_M_108 im_M_opOf se_M_opOf d_M_leaf_3 rfl rfl (Nat.le_of_ble_eq_true rfl) ?_
  rintro _ _ ⟨rfl, rfl⟩
  refine jx_eq (st2 := [.inl (me_I M 30 0 (12 * p + n))]) rfl rfl rfl ?_
  rw [show (me_I M 30 0 (12 * p + n) : Int32) = nI (o n) from hok.2.1]
  refine jx_of (fun _ _ kz => jw_istore d_M_leaf_6 (Nat.le_of_ble_eq_true rfl) kz) ?_
  dsimp only [List.set]
  refine jx_of (fun _ _ kz => jw_aload_n 0 d_M_leaf_8 rfl rfl kz) ?_
  refine jx_of (fun _ _ kz => jw_iload_n 1 d_M_leaf_9 rfl rfl kz) ?_
  refine jx_of (fun _ _ kz => jw_iload_n 2 d_M_leaf_10 rfl rfl kz) ?_
  refine jx_callV (z_M_argOf (d + 5) t n p hI.1  (by omega) (by omega) hp.1 hp.2.1) mt_M_argOf cf_M rfl rfl ml_M_132 im_M_argOf se_M_argOf d_M_leaf_11 rfl rfl (Nat.le_of_ble_eq_true rfl) ?_
  rintro _ _ ⟨rfl, rfl⟩
  refine jx_eq (st2 := [.inl (me_I M 31 0 (12 * p + n))]) rfl rfl rfl ?_
  rw [show (me_I M 31 0 (12 * p + n) : Int32) = A from hA]
  refine jx_of (fun _ _ kz => jw_istore d_M_leaf_14 (Nat.le_of_ble_eq_true rfl) kz) ?_
  dsimp only [List.set]
  refine jx_of (fun _ _ kz => jw_iload d_M_leaf_16 rfl kz) ?_
  rcases sw_cases (nI (o n)) 10 (by decide) with t_18 | t_18
  · skip
    refine jx_of (fun _ _ kz => jw_tabOut 285 d_M_leaf_18 (by rcases t_18 with h | h <;> omega) (by decide) kz) ?_
    refine jx_of (fun _ _ kz => jw_aload_n 0 d_M_leaf_285 rfl rfl kz) ?_
    refine jx_of (fun _ _ kz => jw_iload_n 3 d_M_leaf_286 rfl rfl kz) ?_
    refine jx_of (fun _ _ kz => jw_iload d_M_leaf_287 rfl kz) ?_
    refine jx_callV (z_M_ready (d + 5) x A np _ X (by first | exact h1.2.1 | exact hI | exact (iv_sI (iv_rf hI) (by unfold hl; omega)).2.1)  hx) mt_M_ready cf_M rfl rfl ml_M_171 im_M_ready se_M_ready d_M_leaf_289 rfl rfl (Nat.le_of_ble_eq_true rfl) ?_
    rintro _ M2 ⟨rfl, h2⟩
    refine jx_eq (st2 := []) rfl rfl rfl ?_
    refine jx_vret d_M_leaf_292 rfl ?_
    first | exact ⟨rfl, _, iv_tr h1 h2⟩ | exact ⟨rfl, _, h2⟩ | exact ⟨rfl, _, iv_tr (iv_sI (iv_rf hI) (by unfold hl; omega)) h2⟩
  · skip
    obtain ⟨j_18, t_18, e_18⟩ := t_18
    rcases (show j_18 = 0 ∨ j_18 = 1 ∨ j_18 = 2 ∨ j_18 = 3 ∨ j_18 = 4 ∨ j_18 = 5 ∨ j_18 = 6 ∨ j_18 = 7 ∨ j_18 = 8 ∨ j_18 = 9 by omega) with rfl | rfl | rfl | rfl | rfl | rfl | rfl | rfl | rfl | rfl
    · skip
      refine jx_of (fun _ _ kz => jw_tabOut 285 d_M_leaf_18 (by rw [e_18]; decide) (by decide) kz) ?_
      refine jx_of (fun _ _ kz => jw_aload_n 0 d_M_leaf_285 rfl rfl kz) ?_
      refine jx_of (fun _ _ kz => jw_iload_n 3 d_M_leaf_286 rfl rfl kz) ?_
      refine jx_of (fun _ _ kz => jw_iload d_M_leaf_287 rfl kz) ?_
      refine jx_callV (z_M_ready (d + 5) x A np _ X (by first | exact h1.2.1 | exact hI | exact (iv_sI (iv_rf hI) (by unfold hl; omega)).2.1)  hx) mt_M_ready cf_M rfl rfl ml_M_171 im_M_ready se_M_ready d_M_leaf_289 rfl rfl (Nat.le_of_ble_eq_true rfl) ?_
      rintro _ M2 ⟨rfl, h2⟩
      refine jx_eq (st2 := []) rfl rfl rfl ?_
      refine jx_vret d_M_leaf_292 rfl ?_
      first | exact ⟨rfl, _, iv_tr h1 h2⟩ | exact ⟨rfl, _, h2⟩ | exact ⟨rfl, _, iv_tr (iv_sI (iv_rf hI) (by unfold hl; omega)) h2⟩
    · skip
      refine jx_of (fun _ _ kz => jw_tabIn 68 d_M_leaf_18 (by rw [e_18]; decide) (by rw [e_18]; decide) (by rw [e_18]; rfl) (by decide) kz) ?_
      refine jx_of (fun _ _ kz => jw_aload_n 0 d_M_leaf_68 rfl rfl kz) ?_
      refine jx_of (fun _ _ kz => jw_getPe (some (42, 0)) fl_M_47 d_M_leaf_69 rfl rfl (by simp [me_I_sI, me_I_sP, me_I_nx, me_P_sI, me_P_sP, me_P_nx, me_N_sI, me_N_sP, me_N_nx, me_L_sI, me_L_sP, me_L_nx, show me_P M 7 0 13 = some (42, 0) from hI.1.1 (7, 0, 13, 42, 0) (by decide)]) kz) ?_
      refine jx_of (fun _ _ kz => jw_iload_n 3 d_M_leaf_72 rfl rfl kz) ?_
      refine jx_of (fun _ _ kz => jw_ialde (me_I M 42 0 x) d_M_leaf_73 rfl rfl (by rw [show me_L _ 42 0 = 144 from (by simp [me_I_sI, me_I_sP, me_I_nx, me_P_sI, me_P_sP, me_P_nx, me_N_sI, me_N_sP, me_N_nx, me_L_sI, me_L_sP, me_L_nx, show me_L M 42 0 = 144 from hI.1.2 (42, 0, 144) (by decide)])]; exact (vp_in_nI hx (by decide))) (by rw [nI_clamp (by omega)] <;> simp [me_I_sI]) kz) ?_
      refine jx_of (fun _ _ kz => jw_iload d_M_leaf_74 rfl kz) ?_
      refine jx_icmp_ne 88 d_M_leaf_76 (by decide) (fun b_76 => ?_) (fun b_76 => ?_)
      · skip
        refine jx_of (fun _ _ kz => jw_aload_n 0 d_M_leaf_88 rfl rfl kz) ?_
        refine jx_of (fun _ _ kz => jw_getPe (some (42, 0)) fl_M_47 d_M_leaf_89 rfl rfl (by simp [me_I_sI, me_I_sP, me_I_nx, me_P_sI, me_P_sP, me_P_nx, me_N_sI, me_N_sP, me_N_nx, me_L_sI, me_L_sP, me_L_nx, show me_P M 7 0 13 = some (42, 0) from hI.1.1 (7, 0, 13, 42, 0) (by decide)]) kz) ?_
        refine jx_of (fun _ _ kz => jw_iload_n 3 d_M_leaf_92 rfl rfl kz) ?_
        refine jx_of (fun _ _ kz => jw_dup2 d_M_leaf_93 kz) ?_
        refine jx_of (fun _ _ kz => jw_ialde (me_I M 42 0 x) d_M_leaf_94 rfl rfl (by rw [show me_L _ 42 0 = 144 from (by simp [me_I_sI, me_I_sP, me_I_nx, me_P_sI, me_P_sP, me_P_nx, me_N_sI, me_N_sP, me_N_nx, me_L_sI, me_L_sP, me_L_nx, show me_L M 42 0 = 144 from hI.1.2 (42, 0, 144) (by decide)])]; exact (vp_in_nI hx (by decide))) (by rw [nI_clamp (by omega)] <;> simp [me_I_sI]) kz) ?_
        refine jx_of (fun _ _ kz => jw_iconst 1 d_M_leaf_95 (by decide) kz) ?_
        refine jx_of (fun _ _ kz => jw_iadd d_M_leaf_96 kz) ?_
        refine jx_of (fun _ _ kz => jw_iast d_M_leaf_97 rfl rfl (by rw [show me_L _ 42 0 = 144 from (by simp [me_I_sI, me_I_sP, me_I_nx, me_P_sI, me_P_sP, me_P_nx, me_N_sI, me_N_sP, me_N_nx, me_L_sI, me_L_sP, me_L_nx, show me_L M 42 0 = 144 from hI.1.2 (42, 0, 144) (by decide)])]; exact (vp_in_nI hx (by decide))) kz) ?_
        rw [nI_clamp (by omega)]
        refine jx_of (fun _ _ kz => jw_aload_n 0 d_M_leaf_98 rfl rfl kz) ?_
        refine jx_of (fun _ _ kz => jw_iload_n 1 d_M_leaf_99 rfl rfl kz) ?_
        refine jx_callV (z_M_wakeUp (d + 2) t nt X (iv_sI (iv_rf hI) (by unfold hl; omega)).2.1.1  ht (iv_sI (iv_rf hI) (by unfold hl; omega)).2.1.2.2.2.2 (iv_sI (iv_rf hI) (by unfold hl; omega)).2.1.2.2.2.1) mt_M_wakeUp cf_M rfl rfl ml_M_115 im_M_wakeUp se_M_wakeUp d_M_leaf_100 rfl rfl (Nat.le_of_ble_eq_true rfl) ?_
        rintro _ M1 ⟨rfl, q9, c9, t9⟩
        have h1 := iv_mc (iv_sI (iv_rf hI) (by unfold hl; omega)) q9 c9 t9
        refine jx_eq (st2 := []) rfl rfl rfl ?_
        refine jx_of (fun _ _ kz => jw_aload_n 0 d_M_leaf_103 rfl rfl kz) ?_
        refine jx_of (fun _ _ kz => jw_iload_n 3 d_M_leaf_104 rfl rfl kz) ?_
        refine jx_callV (z_M_pending (d + 5) x np _ X h1.2.1  hx) mt_M_pending cf_M rfl rfl ml_M_174 im_M_pending se_M_pending d_M_leaf_105 rfl rfl (Nat.le_of_ble_eq_true rfl) ?_
        rintro _ M2 ⟨rfl, h2⟩
        refine jx_eq (st2 := []) rfl rfl rfl ?_
        refine jx_of (fun _ _ kz => jw_goto 292 d_M_leaf_108 (by decide) kz) ?_
        refine jx_vret d_M_leaf_292 rfl ?_
        first | exact ⟨rfl, _, iv_tr h1 h2⟩ | exact ⟨rfl, _, h2⟩ | exact ⟨rfl, _, iv_tr (iv_sI (iv_rf hI) (by unfold hl; omega)) h2⟩
      · skip
        refine jx_of (fun _ _ kz => jw_aload_n 0 d_M_leaf_79 rfl rfl kz) ?_
        refine jx_of (fun _ _ kz => jw_iload_n 3 d_M_leaf_80 rfl rfl kz) ?_
        refine jx_of (fun _ _ kz => jw_iconst 0 d_M_leaf_81 (by decide) kz) ?_
        refine jx_callV (z_M_ready (d + 5) x 0 np _ X (by first | exact h1.2.1 | exact hI | exact (iv_sI (iv_rf hI) (by unfold hl; omega)).2.1)  hx) mt_M_ready cf_M rfl rfl ml_M_171 im_M_ready se_M_ready d_M_leaf_82 rfl rfl (Nat.le_of_ble_eq_true rfl) ?_
        rintro _ M2 ⟨rfl, h2⟩
        refine jx_eq (st2 := []) rfl rfl rfl ?_
        refine jx_of (fun _ _ kz => jw_goto 292 d_M_leaf_85 (by decide) kz) ?_
        refine jx_vret d_M_leaf_292 rfl ?_
        first | exact ⟨rfl, _, iv_tr h1 h2⟩ | exact ⟨rfl, _, h2⟩ | exact ⟨rfl, _, iv_tr (iv_sI (iv_rf hI) (by unfold hl; omega)) h2⟩
    · skip
      refine jx_of (fun _ _ kz => jw_tabIn 111 d_M_leaf_18 (by rw [e_18]; decide) (by rw [e_18]; decide) (by rw [e_18]; rfl) (by decide) kz) ?_
      refine jx_of (fun _ _ kz => jw_aload_n 0 d_M_leaf_111 rfl rfl kz) ?_
      refine jx_of (fun _ _ kz => jw_getPe (some (40, 0)) fl_M_41 d_M_leaf_112 rfl rfl (by simp [me_I_sI, me_I_sP, me_I_nx, me_P_sI, me_P_sP, me_P_nx, me_N_sI, me_N_sP, me_N_nx, me_L_sI, me_L_sP, me_L_nx, show me_P M 7 0 11 = some (40, 0) from hI.1.1 (7, 0, 11, 40, 0) (by decide)]) kz) ?_
      refine jx_of (fun _ _ kz => jw_iload_n 3 d_M_leaf_115 rfl rfl kz) ?_
      refine jx_of (fun _ _ kz => jw_ialde (me_I M 40 0 x) d_M_leaf_116 rfl rfl (by rw [show me_L _ 40 0 = 144 from (by simp [me_I_sI, me_I_sP, me_I_nx, me_P_sI, me_P_sP, me_P_nx, me_N_sI, me_N_sP, me_N_nx, me_L_sI, me_L_sP, me_L_nx, show me_L M 40 0 = 144 from hI.1.2 (40, 0, 144) (by decide)])]; exact (vp_in_nI hx (by decide))) (by rw [nI_clamp (by omega)] <;> simp [me_I_sI]) kz) ?_
      refine jx_if_ne 133 d_M_leaf_117 (by decide) (fun b_117 => ?_) (fun b_117 => ?_)
      · skip
        refine jx_of (fun _ _ kz => jw_aload_n 0 d_M_leaf_133 rfl rfl kz) ?_
        refine jx_of (fun _ _ kz => jw_getIe (me_I M 7 0 29) fl_M_162 d_M_leaf_134 rfl rfl (by simp [me_I_sI]) kz) ?_
        refine jx_of (fun _ _ kz => jw_aload_n 0 d_M_leaf_137 rfl rfl kz) ?_
        refine jx_of (fun _ _ kz => jw_getPe (some (42, 0)) fl_M_47 d_M_leaf_138 rfl rfl (by simp [me_I_sI, me_I_sP, me_I_nx, me_P_sI, me_P_sP, me_P_nx, me_N_sI, me_N_sP, me_N_nx, me_L_sI, me_L_sP, me_L_nx, show me_P M 7 0 13 = some (42, 0) from hI.1.1 (7, 0, 13, 42, 0) (by decide)]) kz) ?_
        refine jx_of (fun _ _ kz => jw_iload_n 3 d_M_leaf_141 rfl rfl kz) ?_
        refine jx_of (fun _ _ kz => jw_ialde (_) d_M_leaf_142 rfl rfl (by rw [show me_L _ 42 0 = 144 from (by simp [me_I_sI, me_I_sP, me_I_nx, me_P_sI, me_P_sP, me_P_nx, me_N_sI, me_N_sP, me_N_nx, me_L_sI, me_L_sP, me_L_nx, show me_L M 42 0 = 144 from hI.1.2 (42, 0, 144) (by decide)])]; exact (vp_in_nI hx (by decide))) rfl kz) ?_
        refine jx_icmp_lt 155 d_M_leaf_143 (by decide) (fun b_143 => ?_) (fun b_143 => ?_)
        · skip
          refine jx_of (fun _ _ kz => jw_aload_n 0 d_M_leaf_155 rfl rfl kz) ?_
          refine jx_of (fun _ _ kz => jw_iload_n 3 d_M_leaf_156 rfl rfl kz) ?_
          refine jx_callV (z_M_pending (d + 5) x np _ X (by first | exact h1.2.1 | exact hI | exact (iv_sI (iv_rf hI) (by unfold hl; omega)).2.1)  hx) mt_M_pending cf_M rfl rfl ml_M_174 im_M_pending se_M_pending d_M_leaf_157 rfl rfl (Nat.le_of_ble_eq_true rfl) ?_
          rintro _ M2 ⟨rfl, h2⟩
          refine jx_eq (st2 := []) rfl rfl rfl ?_
          refine jx_of (fun _ _ kz => jw_goto 292 d_M_leaf_160 (by decide) kz) ?_
          refine jx_vret d_M_leaf_292 rfl ?_
          first | exact ⟨rfl, _, iv_tr h1 h2⟩ | exact ⟨rfl, _, h2⟩ | exact ⟨rfl, _, iv_tr (iv_sI (iv_rf hI) (by unfold hl; omega)) h2⟩
        · skip
          refine jx_of (fun _ _ kz => jw_aload_n 0 d_M_leaf_146 rfl rfl kz) ?_
          refine jx_of (fun _ _ kz => jw_iload_n 3 d_M_leaf_147 rfl rfl kz) ?_
          refine jx_of (fun _ _ kz => jw_iconst 0 d_M_leaf_148 (by decide) kz) ?_
          refine jx_callV (z_M_ready (d + 5) x 0 np _ X (by first | exact h1.2.1 | exact hI | exact (iv_sI (iv_rf hI) (by unfold hl; omega)).2.1)  hx) mt_M_ready cf_M rfl rfl ml_M_171 im_M_ready se_M_ready d_M_leaf_149 rfl rfl (Nat.le_of_ble_eq_true rfl) ?_
          rintro _ M2 ⟨rfl, h2⟩
          refine jx_eq (st2 := []) rfl rfl rfl ?_
          refine jx_of (fun _ _ kz => jw_goto 292 d_M_leaf_152 (by decide) kz) ?_
          refine jx_vret d_M_leaf_292 rfl ?_
          first | exact ⟨rfl, _, iv_tr h1 h2⟩ | exact ⟨rfl, _, h2⟩ | exact ⟨rfl, _, iv_tr (iv_sI (iv_rf hI) (by unfold hl; omega)) h2⟩
      · skip
        refine jx_of (fun _ _ kz => jw_aload_n 0 d_M_leaf_120 rfl rfl kz) ?_
        refine jx_of (fun _ _ kz => jw_getPe (some (42, 0)) fl_M_47 d_M_leaf_121 rfl rfl (by simp [me_I_sI, me_I_sP, me_I_nx, me_P_sI, me_P_sP, me_P_nx, me_N_sI, me_N_sP, me_N_nx, me_L_sI, me_L_sP, me_L_nx, show me_P M 7 0 13 = some (42, 0) from hI.1.1 (7, 0, 13, 42, 0) (by decide)]) kz) ?_
        refine jx_of (fun _ _ kz => jw_iload_n 3 d_M_leaf_124 rfl rfl kz) ?_
        refine jx_of (fun _ _ kz => jw_aload_n 0 d_M_leaf_125 rfl rfl kz) ?_
        refine jx_of (fun _ _ kz => jw_getIe (me_I M 7 0 29) fl_M_162 d_M_leaf_126 rfl rfl (by simp [me_I_sI]) kz) ?_
        refine jx_of (fun _ _ kz => jw_iload d_M_leaf_129 rfl kz) ?_
        refine jx_of (fun _ _ kz => jw_iadd d_M_leaf_131 kz) ?_
        refine jx_of (fun _ _ kz => jw_iast d_M_leaf_132 rfl rfl (by rw [show me_L _ 42 0 = 144 from (by simp [me_I_sI, me_I_sP, me_I_nx, me_P_sI, me_P_sP, me_P_nx, me_N_sI, me_N_sP, me_N_nx, me_L_sI, me_L_sP, me_L_nx, show me_L M 42 0 = 144 from hI.1.2 (42, 0, 144) (by decide)])]; exact (vp_in_nI hx (by decide))) kz) ?_
        rw [nI_clamp (by omega)]
        refine jx_of (fun _ _ kz => jw_aload_n 0 d_M_leaf_133 rfl rfl kz) ?_
        refine jx_of (fun _ _ kz => jw_getIe (me_I M 7 0 29) fl_M_162 d_M_leaf_134 rfl rfl (by simp [me_I_sI]) kz) ?_
        refine jx_of (fun _ _ kz => jw_aload_n 0 d_M_leaf_137 rfl rfl kz) ?_
        refine jx_of (fun _ _ kz => jw_getPe (some (42, 0)) fl_M_47 d_M_leaf_138 rfl rfl (by simp [me_I_sI, me_I_sP, me_I_nx, me_P_sI, me_P_sP, me_P_nx, me_N_sI, me_N_sP, me_N_nx, me_L_sI, me_L_sP, me_L_nx, show me_P M 7 0 13 = some (42, 0) from hI.1.1 (7, 0, 13, 42, 0) (by decide)]) kz) ?_
        refine jx_of (fun _ _ kz => jw_iload_n 3 d_M_leaf_141 rfl rfl kz) ?_
        refine jx_of (fun _ _ kz => jw_ialde (_) d_M_leaf_142 rfl rfl (by rw [show me_L _ 42 0 = 144 from (by simp [me_I_sI, me_I_sP, me_I_nx, me_P_sI, me_P_sP, me_P_nx, me_N_sI, me_N_sP, me_N_nx, me_L_sI, me_L_sP, me_L_nx, show me_L M 42 0 = 144 from hI.1.2 (42, 0, 144) (by decide)])]; exact (vp_in_nI hx (by decide))) rfl kz) ?_
        refine jx_icmp_lt 155 d_M_leaf_143 (by decide) (fun b_143 => ?_) (fun b_143 => ?_)
        · skip
          refine jx_of (fun _ _ kz => jw_aload_n 0 d_M_leaf_155 rfl rfl kz) ?_
          refine jx_of (fun _ _ kz => jw_iload_n 3 d_M_leaf_156 rfl rfl kz) ?_
          refine jx_callV (z_M_pending (d + 5) x np _ X (by first | exact h1.2.1 | exact hI | exact (iv_sI (iv_rf hI) (by unfold hl; omega)).2.1)  hx) mt_M_pending cf_M rfl rfl ml_M_174 im_M_pending se_M_pending d_M_leaf_157 rfl rfl (Nat.le_of_ble_eq_true rfl) ?_
          rintro _ M2 ⟨rfl, h2⟩
          refine jx_eq (st2 := []) rfl rfl rfl ?_
          refine jx_of (fun _ _ kz => jw_goto 292 d_M_leaf_160 (by decide) kz) ?_
          refine jx_vret d_M_leaf_292 rfl ?_
          first | exact ⟨rfl, _, iv_tr h1 h2⟩ | exact ⟨rfl, _, h2⟩ | exact ⟨rfl, _, iv_tr (iv_sI (iv_rf hI) (by unfold hl; omega)) h2⟩
        · skip
          refine jx_of (fun _ _ kz => jw_aload_n 0 d_M_leaf_146 rfl rfl kz) ?_
          refine jx_of (fun _ _ kz => jw_iload_n 3 d_M_leaf_147 rfl rfl kz) ?_
          refine jx_of (fun _ _ kz => jw_iconst 0 d_M_leaf_148 (by decide) kz) ?_
          refine jx_callV (z_M_ready (d + 5) x 0 np _ X (by first | exact h1.2.1 | exact hI | exact (iv_sI (iv_rf hI) (by unfold hl; omega)).2.1)  hx) mt_M_ready cf_M rfl rfl ml_M_171 im_M_ready se_M_ready d_M_leaf_149 rfl rfl (Nat.le_of_ble_eq_true rfl) ?_
          rintro _ M2 ⟨rfl, h2⟩
          refine jx_eq (st2 := []) rfl rfl rfl ?_
          refine jx_of (fun _ _ kz => jw_goto 292 d_M_leaf_152 (by decide) kz) ?_
          refine jx_vret d_M_leaf_292 rfl ?_
          first | exact ⟨rfl, _, iv_tr h1 h2⟩ | exact ⟨rfl, _, h2⟩ | exact ⟨rfl, _, iv_tr (iv_sI (iv_rf hI) (by unfold hl; omega)) h2⟩
    · skip
      refine jx_of (fun _ _ kz => jw_tabIn 163 d_M_leaf_18 (by rw [e_18]; decide) (by rw [e_18]; decide) (by rw [e_18]; rfl) (by decide) kz) ?_
      obtain ⟨aa, ha5, rfl⟩ := tk3 (y := A) (by rw [← hA, ← e_18]; exact hok.2.2)
      refine jx_of (fun _ _ kz => jw_aload_n 0 d_M_leaf_163 rfl rfl kz) ?_
      refine jx_of (fun _ _ kz => jw_iload_n 1 d_M_leaf_164 rfl rfl kz) ?_
      refine jx_of (fun _ _ kz => jw_iload_n 3 d_M_leaf_165 rfl rfl kz) ?_
      refine jx_of (fun _ _ kz => jw_iload d_M_leaf_166 rfl kz) ?_
      refine jx_callV (z_M_take d t x aa np _ X hI  ht hx ha5) mt_M_take cf_M rfl rfl ml_M_183 im_M_take se_M_take d_M_leaf_168 rfl rfl (Nat.le_of_ble_eq_true rfl) ?_
      rintro _ M2 ⟨rfl, h2⟩
      refine jx_eq (st2 := []) rfl rfl rfl ?_
      refine jx_of (fun _ _ kz => jw_goto 292 d_M_leaf_171 (by decide) kz) ?_
      refine jx_vret d_M_leaf_292 rfl ?_
      first | exact ⟨rfl, _, iv_tr h1 h2⟩ | exact ⟨rfl, _, h2⟩ | exact ⟨rfl, _, iv_tr (iv_sI (iv_rf hI) (by unfold hl; omega)) h2⟩
    · skip
      refine jx_of (fun _ _ kz => jw_tabIn 174 d_M_leaf_18 (by rw [e_18]; decide) (by rw [e_18]; decide) (by rw [e_18]; rfl) (by decide) kz) ?_
      obtain ⟨aa, ha5, rfl⟩ := tk4 (y := A) (by rw [← hA, ← e_18]; exact hok.2.2)
      refine jx_of (fun _ _ kz => jw_aload_n 0 d_M_leaf_174 rfl rfl kz) ?_
      refine jx_of (fun _ _ kz => jw_iload d_M_leaf_175 rfl kz) ?_
      refine jx_of (fun _ _ kz => jw_iconst 2 d_M_leaf_177 (by decide) kz) ?_
      refine jx_of (fun _ _ kz => jw_irem d_M_leaf_178 (by decide) kz) ?_
      rw [show ((nI aa) - (nI aa) / 2 * 2 : Int32) = nI (aa % 2) from pk_rem (by omega) (by decide) (by decide)]
      refine jx_of (fun _ _ kz => jw_iload d_M_leaf_179 rfl kz) ?_
      refine jx_callS (z_M_wants (d + 5) ((nI aa))) mt_M_wants ml_M_138 sm_M_wants d_M_leaf_181 rfl rfl (Nat.le_of_ble_eq_true rfl) ?_
      rintro _ _ ⟨rfl, rfl⟩
      refine jx_eq (st2 := [.inl (1 + ((nI aa) / 2)), .inl (nI (aa % 2)), .inr (some (7, 0))]) rfl rfl rfl ?_
      refine jx_callV (z_M_add (d + 1) ((aa % 2)) ((1 + ((nI aa) / 2))) np _ X hI  (by omega)) mt_M_add cf_M rfl rfl ml_M_144 im_M_add se_M_add d_M_leaf_184 rfl rfl (Nat.le_of_ble_eq_true rfl) ?_
      rintro _ M1 ⟨rfl, h1⟩
      refine jx_eq (st2 := []) rfl rfl rfl ?_
      refine jx_of (fun _ _ kz => jw_aload_n 0 d_M_leaf_187 rfl rfl kz) ?_
      refine jx_of (fun _ _ kz => jw_iload_n 3 d_M_leaf_188 rfl rfl kz) ?_
      refine jx_of (fun _ _ kz => jw_iconst 0 d_M_leaf_189 (by decide) kz) ?_
      refine jx_callV (z_M_ready (d + 5) x 0 np _ X (by first | exact h1.2.1 | exact hI | exact (iv_sI (iv_rf hI) (by unfold hl; omega)).2.1)  hx) mt_M_ready cf_M rfl rfl ml_M_171 im_M_ready se_M_ready d_M_leaf_190 rfl rfl (Nat.le_of_ble_eq_true rfl) ?_
      rintro _ M2 ⟨rfl, h2⟩
      refine jx_eq (st2 := []) rfl rfl rfl ?_
      refine jx_of (fun _ _ kz => jw_goto 292 d_M_leaf_193 (by decide) kz) ?_
      refine jx_vret d_M_leaf_292 rfl ?_
      first | exact ⟨rfl, _, iv_tr h1 h2⟩ | exact ⟨rfl, _, h2⟩ | exact ⟨rfl, _, iv_tr (iv_sI (iv_rf hI) (by unfold hl; omega)) h2⟩
    · skip
      refine jx_of (fun _ _ kz => jw_tabIn 196 d_M_leaf_18 (by rw [e_18]; decide) (by rw [e_18]; decide) (by rw [e_18]; rfl) (by decide) kz) ?_
      obtain ⟨aa, ha5, rfl⟩ := tk5 (y := A) (by rw [← hA, ← e_18]; exact hok.2.2)
      refine jx_of (fun _ _ kz => jw_aload_n 0 d_M_leaf_196 rfl rfl kz) ?_
      refine jx_of (fun _ _ kz => jw_iload_n 1 d_M_leaf_197 rfl rfl kz) ?_
      refine jx_of (fun _ _ kz => jw_iload_n 3 d_M_leaf_198 rfl rfl kz) ?_
      refine jx_of (fun _ _ kz => jw_iload d_M_leaf_199 rfl kz) ?_
      refine jx_callV (z_M_await d t x aa np _ X hI  ht hx (by omega)) mt_M_await cf_M rfl rfl ml_M_186 im_M_await se_M_await d_M_leaf_201 rfl rfl (Nat.le_of_ble_eq_true rfl) ?_
      rintro _ M2 ⟨rfl, h2⟩
      refine jx_eq (st2 := []) rfl rfl rfl ?_
      refine jx_of (fun _ _ kz => jw_goto 292 d_M_leaf_204 (by decide) kz) ?_
      refine jx_vret d_M_leaf_292 rfl ?_
      first | exact ⟨rfl, _, iv_tr h1 h2⟩ | exact ⟨rfl, _, h2⟩ | exact ⟨rfl, _, iv_tr (iv_sI (iv_rf hI) (by unfold hl; omega)) h2⟩
    · skip
      refine jx_of (fun _ _ kz => jw_tabIn 207 d_M_leaf_18 (by rw [e_18]; decide) (by rw [e_18]; decide) (by rw [e_18]; rfl) (by decide) kz) ?_
      obtain ⟨aa, ha5, rfl⟩ := tk6 (y := A) (by rw [← hA, ← e_18]; exact hok.2.2)
      refine jx_of (fun _ _ kz => jw_aload_n 0 d_M_leaf_207 rfl rfl kz) ?_
      refine jx_of (fun _ _ kz => jw_iload d_M_leaf_208 rfl kz) ?_
      refine jx_callV (z_M_give (d + 1) aa np _ X hI  (by omega)) mt_M_give cf_M rfl rfl ml_M_147 im_M_give se_M_give d_M_leaf_210 rfl rfl (Nat.le_of_ble_eq_true rfl) ?_
      rintro r M1 ⟨hr, h1⟩
      obtain ⟨rv, rfl⟩ : ∃ v : Int32, r = some (.inl v) := by rcases hr with hr | hr; exact ⟨_, hr⟩; exact ⟨_, hr⟩
      refine jx_eq (st2 := [.inl rv]) rfl rfl rfl ?_
      refine jx_of (fun _ _ kz => jw_pop d_M_leaf_213 kz) ?_
      refine jx_of (fun _ _ kz => jw_aload_n 0 d_M_leaf_214 rfl rfl kz) ?_
      refine jx_of (fun _ _ kz => jw_iload_n 3 d_M_leaf_215 rfl rfl kz) ?_
      refine jx_of (fun _ _ kz => jw_iconst 0 d_M_leaf_216 (by decide) kz) ?_
      refine jx_callV (z_M_ready (d + 5) x 0 np _ X (by first | exact h1.2.1 | exact hI | exact (iv_sI (iv_rf hI) (by unfold hl; omega)).2.1)  hx) mt_M_ready cf_M rfl rfl ml_M_171 im_M_ready se_M_ready d_M_leaf_217 rfl rfl (Nat.le_of_ble_eq_true rfl) ?_
      rintro _ M2 ⟨rfl, h2⟩
      refine jx_eq (st2 := []) rfl rfl rfl ?_
      refine jx_of (fun _ _ kz => jw_goto 292 d_M_leaf_220 (by decide) kz) ?_
      refine jx_vret d_M_leaf_292 rfl ?_
      first | exact ⟨rfl, _, iv_tr h1 h2⟩ | exact ⟨rfl, _, h2⟩ | exact ⟨rfl, _, iv_tr (iv_sI (iv_rf hI) (by unfold hl; omega)) h2⟩
    · skip
      refine jx_of (fun _ _ kz => jw_tabIn 223 d_M_leaf_18 (by rw [e_18]; decide) (by rw [e_18]; decide) (by rw [e_18]; rfl) (by decide) kz) ?_
      obtain ⟨aa, ha5, rfl⟩ := tk7 (y := A) (by rw [← hA, ← e_18]; exact hok.2.2)
      refine jx_of (fun _ _ kz => jw_iload d_M_leaf_223 rfl kz) ?_
      refine jx_of (fun _ _ kz => jw_aload_n 0 d_M_leaf_225 rfl rfl kz) ?_
      refine jx_of (fun _ _ kz => jw_getIe (nI np) fl_M_105 d_M_leaf_226 rfl rfl hI.2.1.1 kz) ?_
      refine jx_icmp_ge 245 d_M_leaf_229 (by decide) (fun b_229 => ?_) (fun b_229 => ?_)
      · skip
        refine jx_of (fun _ _ kz => jw_iconst 0 d_M_leaf_245 (by decide) kz) ?_
        refine jx_of (fun _ _ kz => jw_istore d_M_leaf_246 (Nat.le_of_ble_eq_true rfl) kz) ?_
        dsimp only [List.set]
        refine jx_of (fun _ _ kz => jw_iload d_M_leaf_248 rfl kz) ?_
        refine jx_if_eq 262 d_M_leaf_250 (by decide) (fun _ => ?_) (fun h => absurd h (by decide))
        refine jx_of (fun _ _ kz => jw_iconst (-1) d_M_leaf_262 (by decide) kz) ?_
        refine jx_of (fun _ _ kz => jw_istore d_M_leaf_263 (Nat.le_of_ble_eq_true rfl) kz) ?_
        dsimp only [List.set]
        refine jx_of (fun _ _ kz => jw_aload_n 0 d_M_leaf_265 rfl rfl kz) ?_
        refine jx_of (fun _ _ kz => jw_iload_n 3 d_M_leaf_266 rfl rfl kz) ?_
        refine jx_of (fun _ _ kz => jw_iload d_M_leaf_267 rfl kz) ?_
        refine jx_callV (z_M_ready (d + 5) x (((-1))) np _ X (by first | exact h1.2.1 | exact hI | exact (iv_sI (iv_rf hI) (by unfold hl; omega)).2.1)  hx) mt_M_ready cf_M rfl rfl ml_M_171 im_M_ready se_M_ready d_M_leaf_269 rfl rfl (Nat.le_of_ble_eq_true rfl) ?_
        rintro _ M2 ⟨rfl, h2⟩
        refine jx_eq (st2 := []) rfl rfl rfl ?_
        refine jx_of (fun _ _ kz => jw_goto 292 d_M_leaf_272 (by decide) kz) ?_
        refine jx_vret d_M_leaf_292 rfl ?_
        first | exact ⟨rfl, _, iv_tr h1 h2⟩ | exact ⟨rfl, _, h2⟩ | exact ⟨rfl, _, iv_tr (iv_sI (iv_rf hI) (by unfold hl; omega)) h2⟩
      · skip
        refine jx_of (fun _ _ kz => jw_aload_n 0 d_M_leaf_232 rfl rfl kz) ?_
        refine jx_of (fun _ _ kz => jw_getIe (nI nt) fl_M_112 d_M_leaf_233 rfl rfl hI.2.2.1.1 kz) ?_
        refine jx_of (fun _ _ kz => jw_bipush 12 d_M_leaf_236 (by decide) kz) ?_
        refine jx_icmp_ge 245 d_M_leaf_238 (by decide) (fun b_238 => ?_) (fun b_238 => ?_)
        · skip
          refine jx_of (fun _ _ kz => jw_iconst 0 d_M_leaf_245 (by decide) kz) ?_
          refine jx_of (fun _ _ kz => jw_istore d_M_leaf_246 (Nat.le_of_ble_eq_true rfl) kz) ?_
          dsimp only [List.set]
          refine jx_of (fun _ _ kz => jw_iload d_M_leaf_248 rfl kz) ?_
          refine jx_if_eq 262 d_M_leaf_250 (by decide) (fun _ => ?_) (fun h => absurd h (by decide))
          refine jx_of (fun _ _ kz => jw_iconst (-1) d_M_leaf_262 (by decide) kz) ?_
          refine jx_of (fun _ _ kz => jw_istore d_M_leaf_263 (Nat.le_of_ble_eq_true rfl) kz) ?_
          dsimp only [List.set]
          refine jx_of (fun _ _ kz => jw_aload_n 0 d_M_leaf_265 rfl rfl kz) ?_
          refine jx_of (fun _ _ kz => jw_iload_n 3 d_M_leaf_266 rfl rfl kz) ?_
          refine jx_of (fun _ _ kz => jw_iload d_M_leaf_267 rfl kz) ?_
          refine jx_callV (z_M_ready (d + 5) x (((-1))) np _ X (by first | exact h1.2.1 | exact hI | exact (iv_sI (iv_rf hI) (by unfold hl; omega)).2.1)  hx) mt_M_ready cf_M rfl rfl ml_M_171 im_M_ready se_M_ready d_M_leaf_269 rfl rfl (Nat.le_of_ble_eq_true rfl) ?_
          rintro _ M2 ⟨rfl, h2⟩
          refine jx_eq (st2 := []) rfl rfl rfl ?_
          refine jx_of (fun _ _ kz => jw_goto 292 d_M_leaf_272 (by decide) kz) ?_
          refine jx_vret d_M_leaf_292 rfl ?_
          first | exact ⟨rfl, _, iv_tr h1 h2⟩ | exact ⟨rfl, _, h2⟩ | exact ⟨rfl, _, iv_tr (iv_sI (iv_rf hI) (by unfold hl; omega)) h2⟩
        · skip
          refine jx_of (fun _ _ kz => jw_iconst 1 d_M_leaf_241 (by decide) kz) ?_
          refine jx_of (fun _ _ kz => jw_goto 246 d_M_leaf_242 (by decide) kz) ?_
          refine jx_of (fun _ _ kz => jw_istore d_M_leaf_246 (Nat.le_of_ble_eq_true rfl) kz) ?_
          dsimp only [List.set]
          refine jx_of (fun _ _ kz => jw_iload d_M_leaf_248 rfl kz) ?_
          refine jx_if_eq 262 d_M_leaf_250 (by decide) (fun h => absurd h (by decide)) (fun _ => ?_)
          refine jx_of (fun _ _ kz => jw_aload_n 0 d_M_leaf_253 rfl rfl kz) ?_
          refine jx_of (fun _ _ kz => jw_iload d_M_leaf_254 rfl kz) ?_
          refine jx_callV (z_M_make (d + 1) aa np _ X hI  (Nat.lt_of_not_le (fun q => b_229 (nI_le q (by omega)))) (Nat.lt_of_not_le (fun q => b_238 (nI_le q (by omega))))) mt_M_make cf_M rfl rfl ml_M_189 im_M_make se_M_make d_M_leaf_256 rfl rfl (Nat.le_of_ble_eq_true rfl) ?_
          rintro _ M1 ⟨rfl, h1⟩
          refine jx_eq (st2 := [.inl (nI nt)]) rfl rfl rfl ?_
          refine jx_of (fun _ _ kz => jw_goto 263 d_M_leaf_259 (by decide) kz) ?_
          refine jx_of (fun _ _ kz => jw_istore d_M_leaf_263 (Nat.le_of_ble_eq_true rfl) kz) ?_
          dsimp only [List.set]
          refine jx_of (fun _ _ kz => jw_aload_n 0 d_M_leaf_265 rfl rfl kz) ?_
          refine jx_of (fun _ _ kz => jw_iload_n 3 d_M_leaf_266 rfl rfl kz) ?_
          refine jx_of (fun _ _ kz => jw_iload d_M_leaf_267 rfl kz) ?_
          refine jx_callV (z_M_ready (d + 5) x ((nI nt)) np _ X (by first | exact h1.2.1 | exact hI | exact (iv_sI (iv_rf hI) (by unfold hl; omega)).2.1)  hx) mt_M_ready cf_M rfl rfl ml_M_171 im_M_ready se_M_ready d_M_leaf_269 rfl rfl (Nat.le_of_ble_eq_true rfl) ?_
          rintro _ M2 ⟨rfl, h2⟩
          refine jx_eq (st2 := []) rfl rfl rfl ?_
          refine jx_of (fun _ _ kz => jw_goto 292 d_M_leaf_272 (by decide) kz) ?_
          refine jx_vret d_M_leaf_292 rfl ?_
          first | exact ⟨rfl, _, iv_tr h1 h2⟩ | exact ⟨rfl, _, h2⟩ | exact ⟨rfl, _, iv_tr (iv_sI (iv_rf hI) (by unfold hl; omega)) h2⟩
    · skip
      refine jx_of (fun _ _ kz => jw_tabIn 285 d_M_leaf_18 (by rw [e_18]; decide) (by rw [e_18]; decide) (by rw [e_18]; rfl) (by decide) kz) ?_
      refine jx_of (fun _ _ kz => jw_aload_n 0 d_M_leaf_285 rfl rfl kz) ?_
      refine jx_of (fun _ _ kz => jw_iload_n 3 d_M_leaf_286 rfl rfl kz) ?_
      refine jx_of (fun _ _ kz => jw_iload d_M_leaf_287 rfl kz) ?_
      refine jx_callV (z_M_ready (d + 5) x A np _ X (by first | exact h1.2.1 | exact hI | exact (iv_sI (iv_rf hI) (by unfold hl; omega)).2.1)  hx) mt_M_ready cf_M rfl rfl ml_M_171 im_M_ready se_M_ready d_M_leaf_289 rfl rfl (Nat.le_of_ble_eq_true rfl) ?_
      rintro _ M2 ⟨rfl, h2⟩
      refine jx_eq (st2 := []) rfl rfl rfl ?_
      refine jx_vret d_M_leaf_292 rfl ?_
      first | exact ⟨rfl, _, iv_tr h1 h2⟩ | exact ⟨rfl, _, h2⟩ | exact ⟨rfl, _, iv_tr (iv_sI (iv_rf hI) (by unfold hl; omega)) h2⟩
    · skip
      refine jx_of (fun _ _ kz => jw_tabIn 275 d_M_leaf_18 (by rw [e_18]; decide) (by rw [e_18]; decide) (by rw [e_18]; rfl) (by decide) kz) ?_
      refine jx_of (fun _ _ kz => jw_aload_n 0 d_M_leaf_275 rfl rfl kz) ?_
      refine jx_of (fun _ _ kz => jw_iload_n 3 d_M_leaf_276 rfl rfl kz) ?_
      refine jx_of (fun _ _ kz => jw_iload d_M_leaf_277 rfl kz) ?_
      refine jx_callV (z_M_broken (d + 5) x A np _ X (by first | exact h1.2.1 | exact hI | exact (iv_sI (iv_rf hI) (by unfold hl; omega)).2.1)  hx) mt_M_broken cf_M rfl rfl ml_M_165 im_M_broken se_M_broken d_M_leaf_279 rfl rfl (Nat.le_of_ble_eq_true rfl) ?_
      rintro _ M2 ⟨rfl, h2⟩
      refine jx_eq (st2 := []) rfl rfl rfl ?_
      refine jx_of (fun _ _ kz => jw_goto 292 d_M_leaf_282 (by decide) kz) ?_
      refine jx_vret d_M_leaf_292 rfl ?_
      first | exact ⟨rfl, _, iv_tr h1 h2⟩ | exact ⟨rfl, _, h2⟩ | exact ⟨rfl, _, iv_tr (iv_sI (iv_rf hI) (by unfold hl; omega)) h2⟩
