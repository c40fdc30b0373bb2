set_option maxRecDepth 20000 in
set_option maxHeartbeats 4000000 in
theorem y_Y_po38 {G : Gt} {M : Me} (d t p n : Nat) (o : Nat → Nat) (k j np nt : Nat) (hq : yq G (d + 4) t p n o np (j + 1)) (ht : t < nt) (hT : tO M t p n o) (hk : k < 12) (c0 s0 : Nat) (M0 : Me) (w0 : yv np nt nt M M0) (o4 : Option AV) : jx G yt_Y_poll (d + 6) c0 s0 M0 38 [some (.inr (some (0, 0))), some (.inr (some (2, t))), some (.inl (nI k)), some (.inl (nI j)), o4] [] (fun r M' => (∃ v : Int32, r = some (.inl v)) ∧ ∃ nt', yv np nt nt' M M') := by
  have h0 := w0.2.1
  have hN0 := w0.2.2.1
  have hT0 := tO_yf hT ht w0.2.2.2.1
  have ht0 := ht
  have h12 := hT.2.2.1
  refine jx_of (fun _ _ kz => jw_aload_n 1 d_Y_poll_38 rfl rfl kz) ?_
  refine jx_of (fun _ _ kz => jw_getPe (some (1, p)) fl_Y_257 d_Y_poll_39 rfl rfl (by simp [me_I_sI, me_I_sP, me_I_nx, me_P_sI, me_P_sP, me_P_nx, me_N_sI, me_N_sP, me_N_nx, me_L_sI, me_L_sP, me_L_nx, show me_P M0 2 t 2 = some (1, p) from hT0.1.1]) kz) ?_
  refine jx_of (fun _ _ kz => jw_getPe (some (12, p)) fl_Y_266 d_Y_poll_42 rfl rfl (by simp [me_I_sI, me_I_sP, me_I_nx, me_P_sI, me_P_sP, me_P_nx, me_N_sI, me_N_sP, me_N_nx, me_L_sI, me_L_sP, me_L_nx, show me_P M0 1 p 1 = some (12, p) from hT0.2.1.2.1]) kz) ?_
  refine jx_of (fun _ _ kz => jw_iload_n 2 d_Y_poll_45 rfl rfl kz) ?_
  refine jx_of (fun _ _ kz => jw_ialde (me_I M0 12 p k) d_Y_poll_46 rfl rfl (by rw [show me_L _ 12 p = 12 from (by simp [me_I_sI, me_I_sP, me_I_nx, me_P_sI, me_P_sP, me_P_nx, me_N_sI, me_N_sP, me_N_nx, me_L_sI, me_L_sP, me_L_nx, show me_L M0 12 p = 12 from hT0.2.1.2.2.2.2.1])]; exact (vp_in_nI (by omega) (by omega))) (by rw [nI_clamp (by omega)]) kz) ?_
  refine jx_of (fun _ _ kz => jw_istore d_Y_poll_47 (Nat.le_of_ble_eq_true rfl) kz) ?_
  dsimp only [List.set]
  refine jx_of (fun _ _ kz => jw_aload_n 1 d_Y_poll_49 rfl rfl kz) ?_
  refine jx_of (fun _ _ kz => jw_getPe (some (1, p)) fl_Y_257 d_Y_poll_50 rfl rfl (by simp [me_I_sI, me_I_sP, me_I_nx, me_P_sI, me_P_sP, me_P_nx, me_N_sI, me_N_sP, me_N_nx, me_L_sI, me_L_sP, me_L_nx, show me_P M0 2 t 2 = some (1, p) from hT0.1.1]) kz) ?_
  refine jx_of (fun _ _ kz => jw_getPe (some (11, p)) fl_Y_269 d_Y_poll_53 rfl rfl (by simp [me_I_sI, me_I_sP, me_I_nx, me_P_sI, me_P_sP, me_P_nx, me_N_sI, me_N_sP, me_N_nx, me_L_sI, me_L_sP, me_L_nx, show me_P M0 1 p 0 = some (11, p) from hT0.2.1.1]) kz) ?_
  refine jx_of (fun _ _ kz => jw_iload_n 2 d_Y_poll_56 rfl rfl kz) ?_
  refine jx_of (fun _ _ kz => jw_ialde (me_I M0 11 p k) d_Y_poll_57 rfl rfl (by rw [show me_L _ 11 p = 12 from (by simp [me_I_sI, me_I_sP, me_I_nx, me_P_sI, me_P_sP, me_P_nx, me_N_sI, me_N_sP, me_N_nx, me_L_sI, me_L_sP, me_L_nx, show me_L M0 11 p = 12 from hT0.2.1.2.2.2.1])]; exact (vp_in_nI (by omega) (by omega))) (by rw [nI_clamp (by omega)]) kz) ?_
  rcases sw_cases (me_I M0 11 p k) 16 (by decide) with t_58 | t_58
  · skip
    refine jx_of (fun _ _ kz => jw_tabOut 334 d_Y_poll_58 (by simpa using t_58) (by decide) kz) ?_
    refine jx_of (fun _ _ kz => jw_aload_n 1 d_Y_poll_334 rfl rfl kz) ?_
    refine jx_of (fun _ _ kz => jw_getPe (some (14, t)) fl_Y_263 d_Y_poll_335 rfl rfl (by simp [me_I_sI, me_I_sP, me_I_nx, me_P_sI, me_P_sP, me_P_nx, me_N_sI, me_N_sP, me_N_nx, me_L_sI, me_L_sP, me_L_nx, show me_P M0 2 t 8 = some (14, t) from hT0.1.2.1]) kz) ?_
    refine jx_of (fun _ _ kz => jw_iload_n 2 d_Y_poll_338 rfl rfl kz) ?_
    refine jx_of (fun _ _ kz => jw_ialde (_) d_Y_poll_339 rfl rfl (by rw [show me_L _ 14 t = 12 from (by simp [me_I_sI, me_I_sP, me_I_nx, me_P_sI, me_P_sP, me_P_nx, me_N_sI, me_N_sP, me_N_nx, me_L_sI, me_L_sP, me_L_nx, show me_L M0 14 t = 12 from hT0.1.2.2.2.2.1])]; exact (vp_in_nI (by omega) (by omega))) rfl kz) ?_
    refine jx_iret d_Y_poll_340 rfl ?_
    first | exact ⟨⟨_, rfl⟩, _, w2⟩ | exact ⟨⟨_, rfl⟩, _, w1⟩ | exact ⟨⟨_, rfl⟩, _, w0⟩
  · skip
    obtain ⟨j_58, t_58, e_58⟩ := t_58
    rcases (show j_58 = 0 ∨ j_58 = 1 ∨ j_58 = 2 ∨ j_58 = 3 ∨ j_58 = 4 ∨ j_58 = 5 ∨ j_58 = 6 ∨ j_58 = 7 ∨ j_58 = 8 ∨ j_58 = 9 ∨ j_58 = 10 ∨ j_58 = 11 ∨ j_58 = 12 ∨ j_58 = 13 ∨ j_58 = 14 ∨ j_58 = 15 by omega) with rfl | rfl | rfl | rfl | rfl | rfl | rfl | rfl | rfl | rfl | rfl | rfl | rfl | rfl | rfl | rfl
    · skip
      refine jx_of (fun _ _ kz => jw_tabIn 136 d_Y_poll_58 (by rw [e_58]; decide) (by rw [e_58]; decide) (by rw [e_58]; rfl) (by decide) kz) ?_
      refine jx_of (fun _ _ kz => jw_aload_n 1 d_Y_poll_136 rfl rfl kz) ?_
      refine jx_of (fun _ _ kz => jw_iload_n 2 d_Y_poll_137 rfl rfl kz) ?_
      refine jx_of (fun _ _ kz => jw_iload d_Y_poll_138 rfl kz) ?_
      refine jx_callV (y_T_makeReady (d + 4) t p n o k ((me_I M0 12 p k)) hT0  hk) mt_T_makeReady cf_T rfl rfl ml_Y_272 im_T_makeReady se_T_makeReady d_Y_poll_140 rfl rfl (Nat.le_of_ble_eq_true rfl) ?_
      rintro _ M1 ⟨rfl, c1⟩
      have w1 := yv_tc w0 c1
      have h1 := w1.2.1
      have hN1 := w1.2.2.1
      have hT1 := tO_yf hT ht w1.2.2.2.1
      have ht1 : t < nt := by have hle := w1.1; omega
      refine jx_eq (st2 := []) rfl rfl rfl ?_
      refine jx_of (fun _ _ kz => jw_goto 334 d_Y_poll_143 (by decide) kz) ?_
      refine jx_of (fun _ _ kz => jw_aload_n 1 d_Y_poll_334 rfl rfl kz) ?_
      refine jx_of (fun _ _ kz => jw_getPe (some (14, t)) fl_Y_263 d_Y_poll_335 rfl rfl (by simp [me_I_sI, me_I_sP, me_I_nx, me_P_sI, me_P_sP, me_P_nx, me_N_sI, me_N_sP, me_N_nx, me_L_sI, me_L_sP, me_L_nx, show me_P M1 2 t 8 = some (14, t) from hT1.1.2.1]) kz) ?_
      refine jx_of (fun _ _ kz => jw_iload_n 2 d_Y_poll_338 rfl rfl kz) ?_
      refine jx_of (fun _ _ kz => jw_ialde (_) d_Y_poll_339 rfl rfl (by rw [show me_L _ 14 t = 12 from (by simp [me_I_sI, me_I_sP, me_I_nx, me_P_sI, me_P_sP, me_P_nx, me_N_sI, me_N_sP, me_N_nx, me_L_sI, me_L_sP, me_L_nx, show me_L M1 14 t = 12 from hT1.1.2.2.2.2.1])]; exact (vp_in_nI (by omega) (by omega))) rfl kz) ?_
      refine jx_iret d_Y_poll_340 rfl ?_
      first | exact ⟨⟨_, rfl⟩, _, w2⟩ | exact ⟨⟨_, rfl⟩, _, w1⟩ | exact ⟨⟨_, rfl⟩, _, w0⟩
    · skip
      refine jx_of (fun _ _ kz => jw_tabIn 146 d_Y_poll_58 (by rw [e_58]; decide) (by rw [e_58]; decide) (by rw [e_58]; rfl) (by decide) kz) ?_
      refine jx_of (fun _ _ kz => jw_aload_n 0 d_Y_poll_146 rfl rfl kz) ?_
      refine jx_of (fun _ _ kz => jw_aload_n 1 d_Y_poll_147 rfl rfl kz) ?_
      refine jx_of (fun _ _ kz => jw_iload_n 2 d_Y_poll_148 rfl rfl kz) ?_
      refine jx_of (fun _ _ kz => jw_iload d_Y_poll_149 rfl kz) ?_
      refine jx_callV (y_Y_pollTurn (d + 2) t p n o k ((me_I M0 12 p k)) np nt h0  ht hT0 hk) mt_Y_pollTurn cf_Y rfl rfl ml_Y_276 im_Y_pollTurn se_Y_pollTurn d_Y_poll_151 rfl rfl (Nat.le_of_ble_eq_true rfl) ?_
      rintro _ M1 ⟨rfl, g1, k1⟩
      have w1 := yv_yk w0 g1 k1
      have h1 := w1.2.1
      have hN1 := w1.2.2.1
      have hT1 := tO_yf hT ht w1.2.2.2.1
      have ht1 : t < nt := by have hle := w1.1; omega
      refine jx_eq (st2 := []) rfl rfl rfl ?_
      refine jx_of (fun _ _ kz => jw_goto 334 d_Y_poll_154 (by decide) kz) ?_
      refine jx_of (fun _ _ kz => jw_aload_n 1 d_Y_poll_334 rfl rfl kz) ?_
      refine jx_of (fun _ _ kz => jw_getPe (some (14, t)) fl_Y_263 d_Y_poll_335 rfl rfl (by simp [me_I_sI, me_I_sP, me_I_nx, me_P_sI, me_P_sP, me_P_nx, me_N_sI, me_N_sP, me_N_nx, me_L_sI, me_L_sP, me_L_nx, show me_P M1 2 t 8 = some (14, t) from hT1.1.2.1]) kz) ?_
      refine jx_of (fun _ _ kz => jw_iload_n 2 d_Y_poll_338 rfl rfl kz) ?_
      refine jx_of (fun _ _ kz => jw_ialde (_) d_Y_poll_339 rfl rfl (by rw [show me_L _ 14 t = 12 from (by simp [me_I_sI, me_I_sP, me_I_nx, me_P_sI, me_P_sP, me_P_nx, me_N_sI, me_N_sP, me_N_nx, me_L_sI, me_L_sP, me_L_nx, show me_L M1 14 t = 12 from hT1.1.2.2.2.2.1])]; exact (vp_in_nI (by omega) (by omega))) rfl kz) ?_
      refine jx_iret d_Y_poll_340 rfl ?_
      first | exact ⟨⟨_, rfl⟩, _, w2⟩ | exact ⟨⟨_, rfl⟩, _, w1⟩ | exact ⟨⟨_, rfl⟩, _, w0⟩
    · skip
      refine jx_of (fun _ _ kz => jw_tabIn 157 d_Y_poll_58 (by rw [e_58]; decide) (by rw [e_58]; decide) (by rw [e_58]; rfl) (by decide) kz) ?_
      refine jx_of (fun _ _ kz => jw_aload_n 0 d_Y_poll_157 rfl rfl kz) ?_
      refine jx_of (fun _ _ kz => jw_aload_n 1 d_Y_poll_158 rfl rfl kz) ?_
      refine jx_of (fun _ _ kz => jw_iload_n 2 d_Y_poll_159 rfl rfl kz) ?_
      refine jx_of (fun _ _ kz => jw_iload d_Y_poll_160 rfl kz) ?_
      refine jx_callV (y_Y_pollSleep (d + 2) t p n o k ((me_I M0 12 p k)) np nt h0  ht hT0 hk) mt_Y_pollSleep cf_Y rfl rfl ml_Y_280 im_Y_pollSleep se_Y_pollSleep d_Y_poll_162 rfl rfl (Nat.le_of_ble_eq_true rfl) ?_
      rintro _ M1 ⟨rfl, g1, k1⟩
      have w1 := yv_yk w0 g1 k1
      have h1 := w1.2.1
      have hN1 := w1.2.2.1
      have hT1 := tO_yf hT ht w1.2.2.2.1
      have ht1 : t < nt := by have hle := w1.1; omega
      refine jx_eq (st2 := []) rfl rfl rfl ?_
      refine jx_of (fun _ _ kz => jw_goto 334 d_Y_poll_165 (by decide) kz) ?_
      refine jx_of (fun _ _ kz => jw_aload_n 1 d_Y_poll_334 rfl rfl kz) ?_
      refine jx_of (fun _ _ kz => jw_getPe (some (14, t)) fl_Y_263 d_Y_poll_335 rfl rfl (by simp [me_I_sI, me_I_sP, me_I_nx, me_P_sI, me_P_sP, me_P_nx, me_N_sI, me_N_sP, me_N_nx, me_L_sI, me_L_sP, me_L_nx, show me_P M1 2 t 8 = some (14, t) from hT1.1.2.1]) kz) ?_
      refine jx_of (fun _ _ kz => jw_iload_n 2 d_Y_poll_338 rfl rfl kz) ?_
      refine jx_of (fun _ _ kz => jw_ialde (_) d_Y_poll_339 rfl rfl (by rw [show me_L _ 14 t = 12 from (by simp [me_I_sI, me_I_sP, me_I_nx, me_P_sI, me_P_sP, me_P_nx, me_N_sI, me_N_sP, me_N_nx, me_L_sI, me_L_sP, me_L_nx, show me_L M1 14 t = 12 from hT1.1.2.2.2.2.1])]; exact (vp_in_nI (by omega) (by omega))) rfl kz) ?_
      refine jx_iret d_Y_poll_340 rfl ?_
      first | exact ⟨⟨_, rfl⟩, _, w2⟩ | exact ⟨⟨_, rfl⟩, _, w1⟩ | exact ⟨⟨_, rfl⟩, _, w0⟩
    · skip
      refine jx_of (fun _ _ kz => jw_tabIn 168 d_Y_poll_58 (by rw [e_58]; decide) (by rw [e_58]; decide) (by rw [e_58]; rfl) (by decide) kz) ?_
      refine jx_of (fun _ _ kz => jw_aload_n 0 d_Y_poll_168 rfl rfl kz) ?_
      refine jx_of (fun _ _ kz => jw_aload_n 1 d_Y_poll_169 rfl rfl kz) ?_
      refine jx_of (fun _ _ kz => jw_iload_n 2 d_Y_poll_170 rfl rfl kz) ?_
      refine jx_of (fun _ _ kz => jw_iload d_Y_poll_171 rfl kz) ?_
      refine jx_callV (y_Y_pollTake (d + 1) t p n o k ((me_I M0 12 p k)) np nt h0  ht hT0 hk) mt_Y_pollTake cf_Y rfl rfl ml_Y_283 im_Y_pollTake se_Y_pollTake d_Y_poll_173 rfl rfl (Nat.le_of_ble_eq_true rfl) ?_
      rintro _ M1 ⟨rfl, g1, k1⟩
      have w1 := yv_yk w0 g1 k1
      have h1 := w1.2.1
      have hN1 := w1.2.2.1
      have hT1 := tO_yf hT ht w1.2.2.2.1
      have ht1 : t < nt := by have hle := w1.1; omega
      refine jx_eq (st2 := []) rfl rfl rfl ?_
      refine jx_of (fun _ _ kz => jw_goto 334 d_Y_poll_176 (by decide) kz) ?_
      refine jx_of (fun _ _ kz => jw_aload_n 1 d_Y_poll_334 rfl rfl kz) ?_
      refine jx_of (fun _ _ kz => jw_getPe (some (14, t)) fl_Y_263 d_Y_poll_335 rfl rfl (by simp [me_I_sI, me_I_sP, me_I_nx, me_P_sI, me_P_sP, me_P_nx, me_N_sI, me_N_sP, me_N_nx, me_L_sI, me_L_sP, me_L_nx, show me_P M1 2 t 8 = some (14, t) from hT1.1.2.1]) kz) ?_
      refine jx_of (fun _ _ kz => jw_iload_n 2 d_Y_poll_338 rfl rfl kz) ?_
      refine jx_of (fun _ _ kz => jw_ialde (_) d_Y_poll_339 rfl rfl (by rw [show me_L _ 14 t = 12 from (by simp [me_I_sI, me_I_sP, me_I_nx, me_P_sI, me_P_sP, me_P_nx, me_N_sI, me_N_sP, me_N_nx, me_L_sI, me_L_sP, me_L_nx, show me_L M1 14 t = 12 from hT1.1.2.2.2.2.1])]; exact (vp_in_nI (by omega) (by omega))) rfl kz) ?_
      refine jx_iret d_Y_poll_340 rfl ?_
      first | exact ⟨⟨_, rfl⟩, _, w2⟩ | exact ⟨⟨_, rfl⟩, _, w1⟩ | exact ⟨⟨_, rfl⟩, _, w0⟩
    · skip
      refine jx_of (fun _ _ kz => jw_tabIn 179 d_Y_poll_58 (by rw [e_58]; decide) (by rw [e_58]; decide) (by rw [e_58]; rfl) (by decide) kz) ?_
      obtain ⟨g, hg, hga⟩ := and1 (me_I M0 12 p k)
      refine jx_of (fun _ _ kz => jw_aload_n 0 d_Y_poll_179 rfl rfl kz) ?_
      refine jx_of (fun _ _ kz => jw_aload_n 0 d_Y_poll_180 rfl rfl kz) ?_
      refine jx_of (fun _ _ kz => jw_getPe (some (20, 0)) fl_Y_55 d_Y_poll_181 rfl rfl (by simp [me_I_sI, me_I_sP, me_I_nx, me_P_sI, me_P_sP, me_P_nx, me_N_sI, me_N_sP, me_N_nx, me_L_sI, me_L_sP, me_L_nx, show me_P M0 0 0 8 = some (20, 0) from h0.1.1 (0, 0, 8, 20, 0) (by decide)]) kz) ?_
      refine jx_of (fun _ _ kz => jw_iload d_Y_poll_184 rfl kz) ?_
      refine jx_of (fun _ _ kz => jw_iconst 1 d_Y_poll_186 (by decide) kz) ?_
      refine jx_of (fun _ _ kz => jw_iand d_Y_poll_187 kz) ?_
      rw [show ((me_I M0 12 p k) &&& 1 : Int32) = nI g from hga]
      refine jx_of (fun _ _ kz => jw_aalde (some (5, g)) d_Y_poll_188 rfl rfl (by rw [show me_L _ 20 0 = 2 from (by simp [me_I_sI, me_I_sP, me_I_nx, me_P_sI, me_P_sP, me_P_nx, me_N_sI, me_N_sP, me_N_nx, me_L_sI, me_L_sP, me_L_nx, show me_L M0 20 0 = 2 from h0.1.2.1 (20, 0, 2) (by decide)])]; exact (vp_in_nI (by omega) (by omega))) (by rw [nI_clamp (by omega)]; exact yg20 h0 hg) kz) ?_
      refine jx_of (fun _ _ kz => jw_iload d_Y_poll_189 rfl kz) ?_
      refine jx_callS (y_Y_permitsOf (d + 4) ((me_I M0 12 p k))) mt_Y_permitsOf ml_Y_286 sm_Y_permitsOf d_Y_poll_191 rfl rfl (Nat.le_of_ble_eq_true rfl) ?_
      rintro _ _ ⟨rfl, rfl⟩
      refine jx_eq (st2 := [.inl (1 + ((me_I M0 12 p k) / 2)), .inr (some (5, g)), .inr (some (0, 0))]) rfl rfl rfl ?_
      refine jx_callV (y_Y_addPermits (d + 2) g ((1 + ((me_I M0 12 p k) / 2))) np nt h0  hg) mt_Y_addPermits cf_Y rfl rfl ml_Y_133 im_Y_addPermits se_Y_addPermits d_Y_poll_194 rfl rfl (Nat.le_of_ble_eq_true rfl) ?_
      rintro _ M1 ⟨rfl, g1, k1⟩
      have w1 := yv_yk w0 g1 k1
      have h1 := w1.2.1
      have hN1 := w1.2.2.1
      have hT1 := tO_yf hT ht w1.2.2.2.1
      have ht1 : t < nt := by have hle := w1.1; omega
      refine jx_eq (st2 := []) rfl rfl rfl ?_
      refine jx_of (fun _ _ kz => jw_aload_n 1 d_Y_poll_197 rfl rfl kz) ?_
      refine jx_of (fun _ _ kz => jw_iload_n 2 d_Y_poll_198 rfl rfl kz) ?_
      refine jx_of (fun _ _ kz => jw_iconst 0 d_Y_poll_199 (by decide) kz) ?_
      refine jx_callV (y_T_makeReady (d + 4) t p n o k 0 hT1  hk) mt_T_makeReady cf_T rfl rfl ml_Y_272 im_T_makeReady se_T_makeReady d_Y_poll_200 rfl rfl (Nat.le_of_ble_eq_true rfl) ?_
      rintro _ M2 ⟨rfl, c2⟩
      have w2 := yv_tc w1 c2
      have h2 := w2.2.1
      have hN2 := w2.2.2.1
      have hT2 := tO_yf hT ht w2.2.2.2.1
      have ht2 : t < nt := by have hle := w2.1; omega
      refine jx_eq (st2 := []) rfl rfl rfl ?_
      refine jx_of (fun _ _ kz => jw_goto 334 d_Y_poll_203 (by decide) kz) ?_
      refine jx_of (fun _ _ kz => jw_aload_n 1 d_Y_poll_334 rfl rfl kz) ?_
      refine jx_of (fun _ _ kz => jw_getPe (some (14, t)) fl_Y_263 d_Y_poll_335 rfl rfl (by simp [me_I_sI, me_I_sP, me_I_nx, me_P_sI, me_P_sP, me_P_nx, me_N_sI, me_N_sP, me_N_nx, me_L_sI, me_L_sP, me_L_nx, show me_P M2 2 t 8 = some (14, t) from hT2.1.2.1]) kz) ?_
      refine jx_of (fun _ _ kz => jw_iload_n 2 d_Y_poll_338 rfl rfl kz) ?_
      refine jx_of (fun _ _ kz => jw_ialde (_) d_Y_poll_339 rfl rfl (by rw [show me_L _ 14 t = 12 from (by simp [me_I_sI, me_I_sP, me_I_nx, me_P_sI, me_P_sP, me_P_nx, me_N_sI, me_N_sP, me_N_nx, me_L_sI, me_L_sP, me_L_nx, show me_L M2 14 t = 12 from hT2.1.2.2.2.2.1])]; exact (vp_in_nI (by omega) (by omega))) rfl kz) ?_
      refine jx_iret d_Y_poll_340 rfl ?_
      first | exact ⟨⟨_, rfl⟩, _, w2⟩ | exact ⟨⟨_, rfl⟩, _, w1⟩ | exact ⟨⟨_, rfl⟩, _, w0⟩
    · skip
      refine jx_of (fun _ _ kz => jw_tabIn 206 d_Y_poll_58 (by rw [e_58]; decide) (by rw [e_58]; decide) (by rw [e_58]; rfl) (by decide) kz) ?_
      refine jx_of (fun _ _ kz => jw_aload_n 0 d_Y_poll_206 rfl rfl kz) ?_
      refine jx_of (fun _ _ kz => jw_aload_n 1 d_Y_poll_207 rfl rfl kz) ?_
      refine jx_of (fun _ _ kz => jw_iload_n 2 d_Y_poll_208 rfl rfl kz) ?_
      refine jx_of (fun _ _ kz => jw_iload d_Y_poll_209 rfl kz) ?_
      refine jx_callV (y_Y_pollWait (d + 1) t p n o k ((me_I M0 12 p k)) np nt h0  ht hT0 hk) mt_Y_pollWait cf_Y rfl rfl ml_Y_289 im_Y_pollWait se_Y_pollWait d_Y_poll_211 rfl rfl (Nat.le_of_ble_eq_true rfl) ?_
      rintro _ M1 ⟨rfl, g1, k1⟩
      have w1 := yv_yk w0 g1 k1
      have h1 := w1.2.1
      have hN1 := w1.2.2.1
      have hT1 := tO_yf hT ht w1.2.2.2.1
      have ht1 : t < nt := by have hle := w1.1; omega
      refine jx_eq (st2 := []) rfl rfl rfl ?_
      refine jx_of (fun _ _ kz => jw_goto 334 d_Y_poll_214 (by decide) kz) ?_
      refine jx_of (fun _ _ kz => jw_aload_n 1 d_Y_poll_334 rfl rfl kz) ?_
      refine jx_of (fun _ _ kz => jw_getPe (some (14, t)) fl_Y_263 d_Y_poll_335 rfl rfl (by simp [me_I_sI, me_I_sP, me_I_nx, me_P_sI, me_P_sP, me_P_nx, me_N_sI, me_N_sP, me_N_nx, me_L_sI, me_L_sP, me_L_nx, show me_P M1 2 t 8 = some (14, t) from hT1.1.2.1]) kz) ?_
      refine jx_of (fun _ _ kz => jw_iload_n 2 d_Y_poll_338 rfl rfl kz) ?_
      refine jx_of (fun _ _ kz => jw_ialde (_) d_Y_poll_339 rfl rfl (by rw [show me_L _ 14 t = 12 from (by simp [me_I_sI, me_I_sP, me_I_nx, me_P_sI, me_P_sP, me_P_nx, me_N_sI, me_N_sP, me_N_nx, me_L_sI, me_L_sP, me_L_nx, show me_L M1 14 t = 12 from hT1.1.2.2.2.2.1])]; exact (vp_in_nI (by omega) (by omega))) rfl kz) ?_
      refine jx_iret d_Y_poll_340 rfl ?_
      first | exact ⟨⟨_, rfl⟩, _, w2⟩ | exact ⟨⟨_, rfl⟩, _, w1⟩ | exact ⟨⟨_, rfl⟩, _, w0⟩
    · skip
      refine jx_of (fun _ _ kz => jw_tabIn 217 d_Y_poll_58 (by rw [e_58]; decide) (by rw [e_58]; decide) (by rw [e_58]; rfl) (by decide) kz) ?_
      obtain ⟨g, hg, hga⟩ := and1 (me_I M0 12 p k)
      refine jx_of (fun _ _ kz => jw_aload_n 0 d_Y_poll_217 rfl rfl kz) ?_
      refine jx_of (fun _ _ kz => jw_aload_n 0 d_Y_poll_218 rfl rfl kz) ?_
      refine jx_of (fun _ _ kz => jw_getPe (some (21, 0)) fl_Y_62 d_Y_poll_219 rfl rfl (by simp [me_I_sI, me_I_sP, me_I_nx, me_P_sI, me_P_sP, me_P_nx, me_N_sI, me_N_sP, me_N_nx, me_L_sI, me_L_sP, me_L_nx, show me_P M0 0 0 9 = some (21, 0) from h0.1.1 (0, 0, 9, 21, 0) (by decide)]) kz) ?_
      refine jx_of (fun _ _ kz => jw_iload d_Y_poll_222 rfl kz) ?_
      refine jx_of (fun _ _ kz => jw_iconst 1 d_Y_poll_224 (by decide) kz) ?_
      refine jx_of (fun _ _ kz => jw_iand d_Y_poll_225 kz) ?_
      rw [show ((me_I M0 12 p k) &&& 1 : Int32) = nI g from hga]
      refine jx_of (fun _ _ kz => jw_aalde (some (6, g)) d_Y_poll_226 rfl rfl (by rw [show me_L _ 21 0 = 2 from (by simp [me_I_sI, me_I_sP, me_I_nx, me_P_sI, me_P_sP, me_P_nx, me_N_sI, me_N_sP, me_N_nx, me_L_sI, me_L_sP, me_L_nx, show me_L M0 21 0 = 2 from h0.1.2.1 (21, 0, 2) (by decide)])]; exact (vp_in_nI (by omega) (by omega))) (by rw [nI_clamp (by omega)]; exact yg21 h0 hg) kz) ?_
      refine jx_callV (y_Y_giveNotice (d + 2) g np nt h0  hg) mt_Y_giveNotice cf_Y rfl rfl ml_Y_140 im_Y_giveNotice se_Y_giveNotice d_Y_poll_227 rfl rfl (Nat.le_of_ble_eq_true rfl) ?_
      rintro r M1 ⟨hr, g1, k1⟩
      obtain ⟨v1, rfl⟩ : ∃ v : Int32, r = some (.inl v) := by rcases hr with hr | hr; exact ⟨_, hr⟩; exact ⟨_, hr⟩
      have w1 := yv_yk w0 g1 k1
      have h1 := w1.2.1
      have hN1 := w1.2.2.1
      have hT1 := tO_yf hT ht w1.2.2.2.1
      have ht1 : t < nt := by have hle := w1.1; omega
      refine jx_eq (st2 := [.inl v1]) rfl rfl rfl ?_
      refine jx_of (fun _ _ kz => jw_pop d_Y_poll_230 kz) ?_
      refine jx_of (fun _ _ kz => jw_aload_n 1 d_Y_poll_231 rfl rfl kz) ?_
      refine jx_of (fun _ _ kz => jw_iload_n 2 d_Y_poll_232 rfl rfl kz) ?_
      refine jx_of (fun _ _ kz => jw_iconst 0 d_Y_poll_233 (by decide) kz) ?_
      refine jx_callV (y_T_makeReady (d + 4) t p n o k 0 hT1  hk) mt_T_makeReady cf_T rfl rfl ml_Y_272 im_T_makeReady se_T_makeReady d_Y_poll_234 rfl rfl (Nat.le_of_ble_eq_true rfl) ?_
      rintro _ M2 ⟨rfl, c2⟩
      have w2 := yv_tc w1 c2
      have h2 := w2.2.1
      have hN2 := w2.2.2.1
      have hT2 := tO_yf hT ht w2.2.2.2.1
      have ht2 : t < nt := by have hle := w2.1; omega
      refine jx_eq (st2 := []) rfl rfl rfl ?_
      refine jx_of (fun _ _ kz => jw_goto 334 d_Y_poll_237 (by decide) kz) ?_
      refine jx_of (fun _ _ kz => jw_aload_n 1 d_Y_poll_334 rfl rfl kz) ?_
      refine jx_of (fun _ _ kz => jw_getPe (some (14, t)) fl_Y_263 d_Y_poll_335 rfl rfl (by simp [me_I_sI, me_I_sP, me_I_nx, me_P_sI, me_P_sP, me_P_nx, me_N_sI, me_N_sP, me_N_nx, me_L_sI, me_L_sP, me_L_nx, show me_P M2 2 t 8 = some (14, t) from hT2.1.2.1]) kz) ?_
      refine jx_of (fun _ _ kz => jw_iload_n 2 d_Y_poll_338 rfl rfl kz) ?_
      refine jx_of (fun _ _ kz => jw_ialde (_) d_Y_poll_339 rfl rfl (by rw [show me_L _ 14 t = 12 from (by simp [me_I_sI, me_I_sP, me_I_nx, me_P_sI, me_P_sP, me_P_nx, me_N_sI, me_N_sP, me_N_nx, me_L_sI, me_L_sP, me_L_nx, show me_L M2 14 t = 12 from hT2.1.2.2.2.2.1])]; exact (vp_in_nI (by omega) (by omega))) rfl kz) ?_
      refine jx_iret d_Y_poll_340 rfl ?_
      first | exact ⟨⟨_, rfl⟩, _, w2⟩ | exact ⟨⟨_, rfl⟩, _, w1⟩ | exact ⟨⟨_, rfl⟩, _, w0⟩
    · skip
      refine jx_of (fun _ _ kz => jw_tabIn 240 d_Y_poll_58 (by rw [e_58]; decide) (by rw [e_58]; decide) (by rw [e_58]; rfl) (by decide) kz) ?_
      refine jx_of (fun _ _ kz => jw_aload_n 1 d_Y_poll_240 rfl rfl kz) ?_
      refine jx_of (fun _ _ kz => jw_iload_n 2 d_Y_poll_241 rfl rfl kz) ?_
      refine jx_of (fun _ _ kz => jw_aload_n 0 d_Y_poll_242 rfl rfl kz) ?_
      refine jx_of (fun _ _ kz => jw_iload d_Y_poll_243 rfl kz) ?_
      refine jx_callV (y_Y_makeTask (d + 3) ((me_I M0 12 p k)) np nt h0  hN0) mt_Y_makeTask cf_Y rfl rfl ml_Y_99 im_Y_makeTask se_Y_makeTask d_Y_poll_245 rfl rfl (Nat.le_of_ble_eq_true rfl) ?_
      rintro _ M1 ⟨⟨v1, rfl⟩, nt1, u1⟩
      have w1 := yv_tr w0 u1
      have h1 := w1.2.1
      have hN1 := w1.2.2.1
      have hT1 := tO_yf hT ht w1.2.2.2.1
      have ht1 : t < nt1 := by have hle := w1.1; omega
      refine jx_eq (st2 := [.inl v1, .inl (nI k), .inr (some (2, t))]) rfl rfl rfl ?_
      refine jx_callV (y_T_makeReady (d + 4) t p n o k v1 hT1  hk) mt_T_makeReady cf_T rfl rfl ml_Y_272 im_T_makeReady se_T_makeReady d_Y_poll_248 rfl rfl (Nat.le_of_ble_eq_true rfl) ?_
      rintro _ M2 ⟨rfl, c2⟩
      have w2 := yv_tc w1 c2
      have h2 := w2.2.1
      have hN2 := w2.2.2.1
      have hT2 := tO_yf hT ht w2.2.2.2.1
      have ht2 : t < nt1 := by have hle := w2.1; omega
      refine jx_eq (st2 := []) rfl rfl rfl ?_
      refine jx_of (fun _ _ kz => jw_goto 334 d_Y_poll_251 (by decide) kz) ?_
      refine jx_of (fun _ _ kz => jw_aload_n 1 d_Y_poll_334 rfl rfl kz) ?_
      refine jx_of (fun _ _ kz => jw_getPe (some (14, t)) fl_Y_263 d_Y_poll_335 rfl rfl (by simp [me_I_sI, me_I_sP, me_I_nx, me_P_sI, me_P_sP, me_P_nx, me_N_sI, me_N_sP, me_N_nx, me_L_sI, me_L_sP, me_L_nx, show me_P M2 2 t 8 = some (14, t) from hT2.1.2.1]) kz) ?_
      refine jx_of (fun _ _ kz => jw_iload_n 2 d_Y_poll_338 rfl rfl kz) ?_
      refine jx_of (fun _ _ kz => jw_ialde (_) d_Y_poll_339 rfl rfl (by rw [show me_L _ 14 t = 12 from (by simp [me_I_sI, me_I_sP, me_I_nx, me_P_sI, me_P_sP, me_P_nx, me_N_sI, me_N_sP, me_N_nx, me_L_sI, me_L_sP, me_L_nx, show me_L M2 14 t = 12 from hT2.1.2.2.2.2.1])]; exact (vp_in_nI (by omega) (by omega))) rfl kz) ?_
      refine jx_iret d_Y_poll_340 rfl ?_
      first | exact ⟨⟨_, rfl⟩, _, w2⟩ | exact ⟨⟨_, rfl⟩, _, w1⟩ | exact ⟨⟨_, rfl⟩, _, w0⟩
    · skip
      refine jx_of (fun _ _ kz => jw_tabIn 254 d_Y_poll_58 (by rw [e_58]; decide) (by rw [e_58]; decide) (by rw [e_58]; rfl) (by decide) kz) ?_
      refine jx_of (fun _ _ kz => jw_aload_n 0 d_Y_poll_254 rfl rfl kz) ?_
      refine jx_of (fun _ _ kz => jw_aload_n 1 d_Y_poll_255 rfl rfl kz) ?_
      refine jx_of (fun _ _ kz => jw_iload_n 2 d_Y_poll_256 rfl rfl kz) ?_
      refine jx_of (fun _ _ kz => jw_iload_n 3 d_Y_poll_257 rfl rfl kz) ?_
      refine jx_callV (y_Y_pollReap d t p n o k j np nt h0  hq hN0 ht0 hT0 hk) mt_Y_pollReap cf_Y rfl rfl ml_Y_292 im_Y_pollReap se_Y_pollReap d_Y_poll_258 rfl rfl (Nat.le_of_ble_eq_true rfl) ?_
      rintro _ M1 ⟨rfl, nt1, u1⟩
      have w1 := yv_tr w0 u1
      have h1 := w1.2.1
      have hN1 := w1.2.2.1
      have hT1 := tO_yf hT ht w1.2.2.2.1
      have ht1 : t < nt1 := by have hle := w1.1; omega
      refine jx_eq (st2 := []) rfl rfl rfl ?_
      refine jx_of (fun _ _ kz => jw_goto 334 d_Y_poll_261 (by decide) kz) ?_
      refine jx_of (fun _ _ kz => jw_aload_n 1 d_Y_poll_334 rfl rfl kz) ?_
      refine jx_of (fun _ _ kz => jw_getPe (some (14, t)) fl_Y_263 d_Y_poll_335 rfl rfl (by simp [me_I_sI, me_I_sP, me_I_nx, me_P_sI, me_P_sP, me_P_nx, me_N_sI, me_N_sP, me_N_nx, me_L_sI, me_L_sP, me_L_nx, show me_P M1 2 t 8 = some (14, t) from hT1.1.2.1]) kz) ?_
      refine jx_of (fun _ _ kz => jw_iload_n 2 d_Y_poll_338 rfl rfl kz) ?_
      refine jx_of (fun _ _ kz => jw_ialde (_) d_Y_poll_339 rfl rfl (by rw [show me_L _ 14 t = 12 from (by simp [me_I_sI, me_I_sP, me_I_nx, me_P_sI, me_P_sP, me_P_nx, me_N_sI, me_N_sP, me_N_nx, me_L_sI, me_L_sP, me_L_nx, show me_L M1 14 t = 12 from hT1.1.2.2.2.2.1])]; exact (vp_in_nI (by omega) (by omega))) rfl kz) ?_
      refine jx_iret d_Y_poll_340 rfl ?_
      first | exact ⟨⟨_, rfl⟩, _, w2⟩ | exact ⟨⟨_, rfl⟩, _, w1⟩ | exact ⟨⟨_, rfl⟩, _, w0⟩
    · skip
      refine jx_of (fun _ _ kz => jw_tabIn 264 d_Y_poll_58 (by rw [e_58]; decide) (by rw [e_58]; decide) (by rw [e_58]; rfl) (by decide) kz) ?_
      refine jx_of (fun _ _ kz => jw_aload_n 1 d_Y_poll_264 rfl rfl kz) ?_
      refine jx_of (fun _ _ kz => jw_iload_n 2 d_Y_poll_265 rfl rfl kz) ?_
      refine jx_of (fun _ _ kz => jw_iload d_Y_poll_266 rfl kz) ?_
      refine jx_callV (y_T_makeBroken (d + 4) t p n o k ((me_I M0 12 p k)) hT0  hk) mt_T_makeBroken cf_T rfl rfl ml_Y_295 im_T_makeBroken se_T_makeBroken d_Y_poll_268 rfl rfl (Nat.le_of_ble_eq_true rfl) ?_
      rintro _ M1 ⟨rfl, c1⟩
      have w1 := yv_tc w0 c1
      have h1 := w1.2.1
      have hN1 := w1.2.2.1
      have hT1 := tO_yf hT ht w1.2.2.2.1
      have ht1 : t < nt := by have hle := w1.1; omega
      refine jx_eq (st2 := []) rfl rfl rfl ?_
      refine jx_of (fun _ _ kz => jw_goto 334 d_Y_poll_271 (by decide) kz) ?_
      refine jx_of (fun _ _ kz => jw_aload_n 1 d_Y_poll_334 rfl rfl kz) ?_
      refine jx_of (fun _ _ kz => jw_getPe (some (14, t)) fl_Y_263 d_Y_poll_335 rfl rfl (by simp [me_I_sI, me_I_sP, me_I_nx, me_P_sI, me_P_sP, me_P_nx, me_N_sI, me_N_sP, me_N_nx, me_L_sI, me_L_sP, me_L_nx, show me_P M1 2 t 8 = some (14, t) from hT1.1.2.1]) kz) ?_
      refine jx_of (fun _ _ kz => jw_iload_n 2 d_Y_poll_338 rfl rfl kz) ?_
      refine jx_of (fun _ _ kz => jw_ialde (_) d_Y_poll_339 rfl rfl (by rw [show me_L _ 14 t = 12 from (by simp [me_I_sI, me_I_sP, me_I_nx, me_P_sI, me_P_sP, me_P_nx, me_N_sI, me_N_sP, me_N_nx, me_L_sI, me_L_sP, me_L_nx, show me_L M1 14 t = 12 from hT1.1.2.2.2.2.1])]; exact (vp_in_nI (by omega) (by omega))) rfl kz) ?_
      refine jx_iret d_Y_poll_340 rfl ?_
      first | exact ⟨⟨_, rfl⟩, _, w2⟩ | exact ⟨⟨_, rfl⟩, _, w1⟩ | exact ⟨⟨_, rfl⟩, _, w0⟩
    · skip
      refine jx_of (fun _ _ kz => jw_tabIn 274 d_Y_poll_58 (by rw [e_58]; decide) (by rw [e_58]; decide) (by rw [e_58]; rfl) (by decide) kz) ?_
      refine jx_of (fun _ _ kz => jw_aload_n 0 d_Y_poll_274 rfl rfl kz) ?_
      refine jx_of (fun _ _ kz => jw_aload_n 1 d_Y_poll_275 rfl rfl kz) ?_
      refine jx_of (fun _ _ kz => jw_iload_n 2 d_Y_poll_276 rfl rfl kz) ?_
      refine jx_of (fun _ _ kz => jw_iload_n 3 d_Y_poll_277 rfl rfl kz) ?_
      refine jx_callV (y_Y_pollThen d t p n o k j np nt h0  hq hN0 ht0 hT0 hk) mt_Y_pollThen cf_Y rfl rfl ml_Y_298 im_Y_pollThen se_Y_pollThen d_Y_poll_278 rfl rfl (Nat.le_of_ble_eq_true rfl) ?_
      rintro _ M1 ⟨rfl, nt1, u1⟩
      have w1 := yv_tr w0 u1
      have h1 := w1.2.1
      have hN1 := w1.2.2.1
      have hT1 := tO_yf hT ht w1.2.2.2.1
      have ht1 : t < nt1 := by have hle := w1.1; omega
      refine jx_eq (st2 := []) rfl rfl rfl ?_
      refine jx_of (fun _ _ kz => jw_goto 334 d_Y_poll_281 (by decide) kz) ?_
      refine jx_of (fun _ _ kz => jw_aload_n 1 d_Y_poll_334 rfl rfl kz) ?_
      refine jx_of (fun _ _ kz => jw_getPe (some (14, t)) fl_Y_263 d_Y_poll_335 rfl rfl (by simp [me_I_sI, me_I_sP, me_I_nx, me_P_sI, me_P_sP, me_P_nx, me_N_sI, me_N_sP, me_N_nx, me_L_sI, me_L_sP, me_L_nx, show me_P M1 2 t 8 = some (14, t) from hT1.1.2.1]) kz) ?_
      refine jx_of (fun _ _ kz => jw_iload_n 2 d_Y_poll_338 rfl rfl kz) ?_
      refine jx_of (fun _ _ kz => jw_ialde (_) d_Y_poll_339 rfl rfl (by rw [show me_L _ 14 t = 12 from (by simp [me_I_sI, me_I_sP, me_I_nx, me_P_sI, me_P_sP, me_P_nx, me_N_sI, me_N_sP, me_N_nx, me_L_sI, me_L_sP, me_L_nx, show me_L M1 14 t = 12 from hT1.1.2.2.2.2.1])]; exact (vp_in_nI (by omega) (by omega))) rfl kz) ?_
      refine jx_iret d_Y_poll_340 rfl ?_
      first | exact ⟨⟨_, rfl⟩, _, w2⟩ | exact ⟨⟨_, rfl⟩, _, w1⟩ | exact ⟨⟨_, rfl⟩, _, w0⟩
    · skip
      refine jx_of (fun _ _ kz => jw_tabIn 284 d_Y_poll_58 (by rw [e_58]; decide) (by rw [e_58]; decide) (by rw [e_58]; rfl) (by decide) kz) ?_
      refine jx_of (fun _ _ kz => jw_aload_n 0 d_Y_poll_284 rfl rfl kz) ?_
      refine jx_of (fun _ _ kz => jw_aload_n 1 d_Y_poll_285 rfl rfl kz) ?_
      refine jx_of (fun _ _ kz => jw_iload_n 2 d_Y_poll_286 rfl rfl kz) ?_
      refine jx_of (fun _ _ kz => jw_iload_n 3 d_Y_poll_287 rfl rfl kz) ?_
      refine jx_callV (y_Y_pollBoth d t p n o k j np nt h0  hq hN0 ht0 hT0 hk) mt_Y_pollBoth cf_Y rfl rfl ml_Y_301 im_Y_pollBoth se_Y_pollBoth d_Y_poll_288 rfl rfl (Nat.le_of_ble_eq_true rfl) ?_
      rintro _ M1 ⟨rfl, nt1, u1⟩
      have w1 := yv_tr w0 u1
      have h1 := w1.2.1
      have hN1 := w1.2.2.1
      have hT1 := tO_yf hT ht w1.2.2.2.1
      have ht1 : t < nt1 := by have hle := w1.1; omega
      refine jx_eq (st2 := []) rfl rfl rfl ?_
      refine jx_of (fun _ _ kz => jw_goto 334 d_Y_poll_291 (by decide) kz) ?_
      refine jx_of (fun _ _ kz => jw_aload_n 1 d_Y_poll_334 rfl rfl kz) ?_
      refine jx_of (fun _ _ kz => jw_getPe (some (14, t)) fl_Y_263 d_Y_poll_335 rfl rfl (by simp [me_I_sI, me_I_sP, me_I_nx, me_P_sI, me_P_sP, me_P_nx, me_N_sI, me_N_sP, me_N_nx, me_L_sI, me_L_sP, me_L_nx, show me_P M1 2 t 8 = some (14, t) from hT1.1.2.1]) kz) ?_
      refine jx_of (fun _ _ kz => jw_iload_n 2 d_Y_poll_338 rfl rfl kz) ?_
      refine jx_of (fun _ _ kz => jw_ialde (_) d_Y_poll_339 rfl rfl (by rw [show me_L _ 14 t = 12 from (by simp [me_I_sI, me_I_sP, me_I_nx, me_P_sI, me_P_sP, me_P_nx, me_N_sI, me_N_sP, me_N_nx, me_L_sI, me_L_sP, me_L_nx, show me_L M1 14 t = 12 from hT1.1.2.2.2.2.1])]; exact (vp_in_nI (by omega) (by omega))) rfl kz) ?_
      refine jx_iret d_Y_poll_340 rfl ?_
      first | exact ⟨⟨_, rfl⟩, _, w2⟩ | exact ⟨⟨_, rfl⟩, _, w1⟩ | exact ⟨⟨_, rfl⟩, _, w0⟩
    · skip
      refine jx_of (fun _ _ kz => jw_tabIn 294 d_Y_poll_58 (by rw [e_58]; decide) (by rw [e_58]; decide) (by rw [e_58]; rfl) (by decide) kz) ?_
      refine jx_of (fun _ _ kz => jw_aload_n 0 d_Y_poll_294 rfl rfl kz) ?_
      refine jx_of (fun _ _ kz => jw_aload_n 1 d_Y_poll_295 rfl rfl kz) ?_
      refine jx_of (fun _ _ kz => jw_iload_n 2 d_Y_poll_296 rfl rfl kz) ?_
      refine jx_of (fun _ _ kz => jw_iload_n 3 d_Y_poll_297 rfl rfl kz) ?_
      refine jx_callV (y_Y_pollFirst d t p n o k j np nt h0  hq hN0 ht0 hT0 hk) mt_Y_pollFirst cf_Y rfl rfl ml_Y_304 im_Y_pollFirst se_Y_pollFirst d_Y_poll_298 rfl rfl (Nat.le_of_ble_eq_true rfl) ?_
      rintro _ M1 ⟨rfl, nt1, u1⟩
      have w1 := yv_tr w0 u1
      have h1 := w1.2.1
      have hN1 := w1.2.2.1
      have hT1 := tO_yf hT ht w1.2.2.2.1
      have ht1 : t < nt1 := by have hle := w1.1; omega
      refine jx_eq (st2 := []) rfl rfl rfl ?_
      refine jx_of (fun _ _ kz => jw_goto 334 d_Y_poll_301 (by decide) kz) ?_
      refine jx_of (fun _ _ kz => jw_aload_n 1 d_Y_poll_334 rfl rfl kz) ?_
      refine jx_of (fun _ _ kz => jw_getPe (some (14, t)) fl_Y_263 d_Y_poll_335 rfl rfl (by simp [me_I_sI, me_I_sP, me_I_nx, me_P_sI, me_P_sP, me_P_nx, me_N_sI, me_N_sP, me_N_nx, me_L_sI, me_L_sP, me_L_nx, show me_P M1 2 t 8 = some (14, t) from hT1.1.2.1]) kz) ?_
      refine jx_of (fun _ _ kz => jw_iload_n 2 d_Y_poll_338 rfl rfl kz) ?_
      refine jx_of (fun _ _ kz => jw_ialde (_) d_Y_poll_339 rfl rfl (by rw [show me_L _ 14 t = 12 from (by simp [me_I_sI, me_I_sP, me_I_nx, me_P_sI, me_P_sP, me_P_nx, me_N_sI, me_N_sP, me_N_nx, me_L_sI, me_L_sP, me_L_nx, show me_L M1 14 t = 12 from hT1.1.2.2.2.2.1])]; exact (vp_in_nI (by omega) (by omega))) rfl kz) ?_
      refine jx_iret d_Y_poll_340 rfl ?_
      first | exact ⟨⟨_, rfl⟩, _, w2⟩ | exact ⟨⟨_, rfl⟩, _, w1⟩ | exact ⟨⟨_, rfl⟩, _, w0⟩
    · skip
      refine jx_of (fun _ _ kz => jw_tabIn 304 d_Y_poll_58 (by rw [e_58]; decide) (by rw [e_58]; decide) (by rw [e_58]; rfl) (by decide) kz) ?_
      refine jx_of (fun _ _ kz => jw_aload_n 0 d_Y_poll_304 rfl rfl kz) ?_
      refine jx_of (fun _ _ kz => jw_aload_n 1 d_Y_poll_305 rfl rfl kz) ?_
      refine jx_of (fun _ _ kz => jw_iload_n 2 d_Y_poll_306 rfl rfl kz) ?_
      refine jx_of (fun _ _ kz => jw_iload_n 3 d_Y_poll_307 rfl rfl kz) ?_
      refine jx_callV (y_Y_pollWithin d t p n o k j np nt h0  hq hN0 ht0 hT0 hk) mt_Y_pollWithin cf_Y rfl rfl ml_Y_307 im_Y_pollWithin se_Y_pollWithin d_Y_poll_308 rfl rfl (Nat.le_of_ble_eq_true rfl) ?_
      rintro _ M1 ⟨rfl, nt1, u1⟩
      have w1 := yv_tr w0 u1
      have h1 := w1.2.1
      have hN1 := w1.2.2.1
      have hT1 := tO_yf hT ht w1.2.2.2.1
      have ht1 : t < nt1 := by have hle := w1.1; omega
      refine jx_eq (st2 := []) rfl rfl rfl ?_
      refine jx_of (fun _ _ kz => jw_goto 334 d_Y_poll_311 (by decide) kz) ?_
      refine jx_of (fun _ _ kz => jw_aload_n 1 d_Y_poll_334 rfl rfl kz) ?_
      refine jx_of (fun _ _ kz => jw_getPe (some (14, t)) fl_Y_263 d_Y_poll_335 rfl rfl (by simp [me_I_sI, me_I_sP, me_I_nx, me_P_sI, me_P_sP, me_P_nx, me_N_sI, me_N_sP, me_N_nx, me_L_sI, me_L_sP, me_L_nx, show me_P M1 2 t 8 = some (14, t) from hT1.1.2.1]) kz) ?_
      refine jx_of (fun _ _ kz => jw_iload_n 2 d_Y_poll_338 rfl rfl kz) ?_
      refine jx_of (fun _ _ kz => jw_ialde (_) d_Y_poll_339 rfl rfl (by rw [show me_L _ 14 t = 12 from (by simp [me_I_sI, me_I_sP, me_I_nx, me_P_sI, me_P_sP, me_P_nx, me_N_sI, me_N_sP, me_N_nx, me_L_sI, me_L_sP, me_L_nx, show me_L M1 14 t = 12 from hT1.1.2.2.2.2.1])]; exact (vp_in_nI (by omega) (by omega))) rfl kz) ?_
      refine jx_iret d_Y_poll_340 rfl ?_
      first | exact ⟨⟨_, rfl⟩, _, w2⟩ | exact ⟨⟨_, rfl⟩, _, w1⟩ | exact ⟨⟨_, rfl⟩, _, w0⟩
    · skip
      refine jx_of (fun _ _ kz => jw_tabIn 314 d_Y_poll_58 (by rw [e_58]; decide) (by rw [e_58]; decide) (by rw [e_58]; rfl) (by decide) kz) ?_
      refine jx_of (fun _ _ kz => jw_aload_n 0 d_Y_poll_314 rfl rfl kz) ?_
      refine jx_of (fun _ _ kz => jw_aload_n 1 d_Y_poll_315 rfl rfl kz) ?_
      refine jx_of (fun _ _ kz => jw_iload_n 2 d_Y_poll_316 rfl rfl kz) ?_
      refine jx_of (fun _ _ kz => jw_iload_n 3 d_Y_poll_317 rfl rfl kz) ?_
      refine jx_callV (y_Y_pollAdd d t p n o k j np nt h0  hq hN0 ht0 hT0 hk) mt_Y_pollAdd cf_Y rfl rfl ml_Y_310 im_Y_pollAdd se_Y_pollAdd d_Y_poll_318 rfl rfl (Nat.le_of_ble_eq_true rfl) ?_
      rintro _ M1 ⟨rfl, nt1, u1⟩
      have w1 := yv_tr w0 u1
      have h1 := w1.2.1
      have hN1 := w1.2.2.1
      have hT1 := tO_yf hT ht w1.2.2.2.1
      have ht1 : t < nt1 := by have hle := w1.1; omega
      refine jx_eq (st2 := []) rfl rfl rfl ?_
      refine jx_of (fun _ _ kz => jw_goto 334 d_Y_poll_321 (by decide) kz) ?_
      refine jx_of (fun _ _ kz => jw_aload_n 1 d_Y_poll_334 rfl rfl kz) ?_
      refine jx_of (fun _ _ kz => jw_getPe (some (14, t)) fl_Y_263 d_Y_poll_335 rfl rfl (by simp [me_I_sI, me_I_sP, me_I_nx, me_P_sI, me_P_sP, me_P_nx, me_N_sI, me_N_sP, me_N_nx, me_L_sI, me_L_sP, me_L_nx, show me_P M1 2 t 8 = some (14, t) from hT1.1.2.1]) kz) ?_
      refine jx_of (fun _ _ kz => jw_iload_n 2 d_Y_poll_338 rfl rfl kz) ?_
      refine jx_of (fun _ _ kz => jw_ialde (_) d_Y_poll_339 rfl rfl (by rw [show me_L _ 14 t = 12 from (by simp [me_I_sI, me_I_sP, me_I_nx, me_P_sI, me_P_sP, me_P_nx, me_N_sI, me_N_sP, me_N_nx, me_L_sI, me_L_sP, me_L_nx, show me_L M1 14 t = 12 from hT1.1.2.2.2.2.1])]; exact (vp_in_nI (by omega) (by omega))) rfl kz) ?_
      refine jx_iret d_Y_poll_340 rfl ?_
      first | exact ⟨⟨_, rfl⟩, _, w2⟩ | exact ⟨⟨_, rfl⟩, _, w1⟩ | exact ⟨⟨_, rfl⟩, _, w0⟩
    · skip
      refine jx_of (fun _ _ kz => jw_tabIn 324 d_Y_poll_58 (by rw [e_58]; decide) (by rw [e_58]; decide) (by rw [e_58]; rfl) (by decide) kz) ?_
      refine jx_of (fun _ _ kz => jw_aload_n 0 d_Y_poll_324 rfl rfl kz) ?_
      refine jx_of (fun _ _ kz => jw_aload_n 1 d_Y_poll_325 rfl rfl kz) ?_
      refine jx_of (fun _ _ kz => jw_iload_n 2 d_Y_poll_326 rfl rfl kz) ?_
      refine jx_of (fun _ _ kz => jw_iload_n 3 d_Y_poll_327 rfl rfl kz) ?_
      refine jx_callV (y_Y_pollCatch d t p n o k j np nt h0  hq hN0 ht0 hT0 hk) mt_Y_pollCatch cf_Y rfl rfl ml_Y_313 im_Y_pollCatch se_Y_pollCatch d_Y_poll_328 rfl rfl (Nat.le_of_ble_eq_true rfl) ?_
      rintro _ M1 ⟨rfl, nt1, u1⟩
      have w1 := yv_tr w0 u1
      have h1 := w1.2.1
      have hN1 := w1.2.2.1
      have hT1 := tO_yf hT ht w1.2.2.2.1
      have ht1 : t < nt1 := by have hle := w1.1; omega
      refine jx_eq (st2 := []) rfl rfl rfl ?_
      refine jx_of (fun _ _ kz => jw_goto 334 d_Y_poll_331 (by decide) kz) ?_
      refine jx_of (fun _ _ kz => jw_aload_n 1 d_Y_poll_334 rfl rfl kz) ?_
      refine jx_of (fun _ _ kz => jw_getPe (some (14, t)) fl_Y_263 d_Y_poll_335 rfl rfl (by simp [me_I_sI, me_I_sP, me_I_nx, me_P_sI, me_P_sP, me_P_nx, me_N_sI, me_N_sP, me_N_nx, me_L_sI, me_L_sP, me_L_nx, show me_P M1 2 t 8 = some (14, t) from hT1.1.2.1]) kz) ?_
      refine jx_of (fun _ _ kz => jw_iload_n 2 d_Y_poll_338 rfl rfl kz) ?_
      refine jx_of (fun _ _ kz => jw_ialde (_) d_Y_poll_339 rfl rfl (by rw [show me_L _ 14 t = 12 from (by simp [me_I_sI, me_I_sP, me_I_nx, me_P_sI, me_P_sP, me_P_nx, me_N_sI, me_N_sP, me_N_nx, me_L_sI, me_L_sP, me_L_nx, show me_L M1 14 t = 12 from hT1.1.2.2.2.2.1])]; exact (vp_in_nI (by omega) (by omega))) rfl kz) ?_
      refine jx_iret d_Y_poll_340 rfl ?_
      first | exact ⟨⟨_, rfl⟩, _, w2⟩ | exact ⟨⟨_, rfl⟩, _, w1⟩ | exact ⟨⟨_, rfl⟩, _, w0⟩
set_option maxRecDepth 20000 in
set_option maxHeartbeats 4000000 in
theorem y_Y_poll_s {G : Gt} {M : Me} (d : Nat) (t : Nat) (p : Nat) (n : Nat) (o : Nat → Nat) (x : Int32) (j : Nat) (np : Nat) (nt : Nat) (hY : yI M np nt) (hq : yq G (d + 4) t p n o np (j + 1)) (hN : yN M np nt) (ht : t < nt) (hT : tO M t p n o) (hj : j < 12) : sx G yt_Y_poll yn_Y_poll (d + 6) [.inr (some (0, 0)), .inr (some (2, t)), .inl x, .inl (nI j)] M (fun r M' => (∃ v : Int32, r = some (.inl v)) ∧ ∃ nt', yv np nt nt' M M') := by
  refine sx_of (k := 1) (lc := [some (.inr (some (0, 0))), some (.inr (some (2, t))), some (.inl x), some (.inl (nI j)), none]) mt_Y_poll (Nat.le_of_ble_eq_true rfl) rfl ?_
  refine jx_of (fun _ _ kz => jw_iload_n 3 d_Y_poll_0 rfl rfl kz) ?_
  refine jx_of (fun _ _ kz => jw_bipush 12 d_Y_poll_1 (by decide) kz) ?_
  refine jx_icmp_ge 17 d_Y_poll_3 (by decide) (fun h => absurd h (nI_ge (b := 12) (by omega) (by omega))) (fun _ => ?_)
  refine jx_of (fun _ _ kz => jw_aload_n 1 d_Y_poll_6 rfl rfl kz) ?_
  refine jx_of (fun _ _ kz => jw_getPe (some (1, p)) fl_Y_257 d_Y_poll_7 rfl rfl (by simp [me_I_sI, me_I_sP, me_I_nx, me_P_sI, me_P_sP, me_P_nx, me_N_sI, me_N_sP, me_N_nx, me_L_sI, me_L_sP, me_L_nx, show me_P M 2 t 2 = some (1, p) from hT.1.1]) kz) ?_
  refine jx_of (fun _ _ kz => jw_iload_n 2 d_Y_poll_10 rfl rfl kz) ?_
  refine jx_callV (y_P_has (d + 4) p n o x hT.2) mt_P_has cf_P rfl rfl ml_Y_260 im_P_has se_P_has d_Y_poll_11 rfl rfl (Nat.le_of_ble_eq_true rfl) ?_
  rintro r _ ⟨hr, rfl⟩
  obtain ⟨rv, rfl, hrv⟩ : ∃ v : Int32, r = some (.inl v) ∧ (v = 0 ∨ ∃ j, j < n ∧ x = nI j) := by rcases hr with hr | ⟨hr, h2⟩; exact ⟨_, hr, Or.inl rfl⟩; exact ⟨_, hr, Or.inr h2⟩
  refine jx_eq (st2 := [.inl rv]) rfl rfl rfl ?_
  refine jx_if_ne 19 d_Y_poll_14 (by decide) (fun b_14 => ?_) (fun b_14 => ?_)
  · skip
    obtain ⟨k, hk0, rfl⟩ := hrv.resolve_left b_14
    have h12 := hT.2.2.1
    have hk : k < 12 := by omega
    refine jx_of (fun _ _ kz => jw_aload_n 1 d_Y_poll_19 rfl rfl kz) ?_
    refine jx_of (fun _ _ kz => jw_getPe (some (14, t)) fl_Y_263 d_Y_poll_20 rfl rfl (by simp [me_I_sI, me_I_sP, me_I_nx, me_P_sI, me_P_sP, me_P_nx, me_N_sI, me_N_sP, me_N_nx, me_L_sI, me_L_sP, me_L_nx, show me_P M 2 t 8 = some (14, t) from hT.1.2.1]) kz) ?_
    refine jx_of (fun _ _ kz => jw_iload_n 2 d_Y_poll_23 rfl rfl kz) ?_
    refine jx_of (fun _ _ kz => jw_ialde (_) d_Y_poll_24 rfl rfl (by rw [show me_L _ 14 t = 12 from (by simp [me_I_sI, me_I_sP, me_I_nx, me_P_sI, me_P_sP, me_P_nx, me_N_sI, me_N_sP, me_N_nx, me_L_sI, me_L_sP, me_L_nx, show me_L M 14 t = 12 from hT.1.2.2.2.2.1])]; exact (vp_in_nI (by omega) (by omega))) rfl kz) ?_
    refine jx_of (fun _ _ kz => jw_iconst 2 d_Y_poll_25 (by decide) kz) ?_
    refine jx_icmp_ne 31 d_Y_poll_26 (by decide) (fun b_26 => ?_) (fun b_26 => ?_)
    · skip
      refine jx_of (fun _ _ kz => jw_aload_n 1 d_Y_poll_31 rfl rfl kz) ?_
      refine jx_of (fun _ _ kz => jw_getPe (some (14, t)) fl_Y_263 d_Y_poll_32 rfl rfl (by simp [me_I_sI, me_I_sP, me_I_nx, me_P_sI, me_P_sP, me_P_nx, me_N_sI, me_N_sP, me_N_nx, me_L_sI, me_L_sP, me_L_nx, show me_P M 2 t 8 = some (14, t) from hT.1.2.1]) kz) ?_
      refine jx_of (fun _ _ kz => jw_iload_n 2 d_Y_poll_35 rfl rfl kz) ?_
      refine jx_of (fun _ _ kz => jw_iconst 1 d_Y_poll_36 (by decide) kz) ?_
      refine jx_of (fun _ _ kz => jw_iast d_Y_poll_37 rfl rfl (by rw [show me_L _ 14 t = 12 from (by simp [me_I_sI, me_I_sP, me_I_nx, me_P_sI, me_P_sP, me_P_nx, me_N_sI, me_N_sP, me_N_nx, me_L_sI, me_L_sP, me_L_nx, show me_L M 14 t = 12 from hT.1.2.2.2.2.1])]; exact (vp_in_nI (by omega) (by omega))) kz) ?_
      rw [nI_clamp (by omega)]
      exact y_Y_po38 d t p n o k j np nt hq ht hT hk _ _ _ (yv_tc (yv_rf hY hN) (tc_sI tc_rf (by omega))) _
    · skip
      refine jx_of (fun _ _ kz => jw_iconst 2 d_Y_poll_29 (by decide) kz) ?_
      refine jx_iret d_Y_poll_30 rfl ?_
      exact ⟨⟨_, rfl⟩, nt, yv_rf hY hN⟩
  · skip
    refine jx_of (fun _ _ kz => jw_iconst 1 d_Y_poll_17 (by decide) kz) ?_
    refine jx_iret d_Y_poll_18 rfl ?_
    exact ⟨⟨_, rfl⟩, nt, yv_rf hY hN⟩
set_option maxRecDepth 20000 in
set_option maxHeartbeats 4000000 in
theorem y_Y_poll_z {G : Gt} {M : Me} (d : Nat) (t : Nat) (p : Nat) (n : Nat) (o : Nat → Nat) (x : Int32) (np : Nat) (nt : Nat) (hY : yI M np nt) (hN : yN M np nt) (ht : t < nt) (hT : tO M t p n o) : sx G yt_Y_poll yn_Y_poll (d + 6) [.inr (some (0, 0)), .inr (some (2, t)), .inl x, .inl 12] M (fun r M' => (∃ v : Int32, r = some (.inl v)) ∧ ∃ nt', yv np nt nt' M M') := by
  refine sx_of (k := 1) (lc := [some (.inr (some (0, 0))), some (.inr (some (2, t))), some (.inl x), some (.inl 12), none]) mt_Y_poll (Nat.le_of_ble_eq_true rfl) rfl ?_
  refine jx_of (fun _ _ kz => jw_iload_n 3 d_Y_poll_0 rfl rfl kz) ?_
  refine jx_of (fun _ _ kz => jw_bipush 12 d_Y_poll_1 (by decide) kz) ?_
  refine jx_icmp_ge 17 d_Y_poll_3 (by decide) (fun _ => ?_) (fun h => absurd h (by decide))
  refine jx_of (fun _ _ kz => jw_iconst 1 d_Y_poll_17 (by decide) kz) ?_
  refine jx_iret d_Y_poll_18 rfl ?_
  exact ⟨⟨_, rfl⟩, nt, yv_rf hY hN⟩
theorem y_q {G : Gt} (d t p n : Nat) (o : Nat → Nat) (np : Nat) : ∀ (m j : Nat), j + m = 12 → yq G (d + 2 * m + 6) t p n o np j := by
  intro m
  induction m with
  | zero =>
    intro j hj x M nt hY hN ht hT
    rw [show j = 12 by omega]
    exact y_Y_poll_z (d + 2 * 0) t p n o x np nt hY hN ht hT
  | succ m ih =>
    intro j hj x M nt hY hN ht hT
    rw [show d + 2 * (m + 1) + 6 = (d + 2 * m + 2) + 6 by omega]
    exact y_Y_poll_s (d + 2 * m + 2) t p n o x j np nt hY (ih (j + 1) (by omega)) hN ht hT (by omega)
theorem y_Y_poll {G : Gt} {M : Me} (d t p n : Nat) (o : Nat → Nat) (x : Int32) (np nt : Nat) (hY : yI M np nt) (hN : yN M np nt) (ht : t < nt) (hT : tO M t p n o) : sx G yt_Y_poll yn_Y_poll (d + 30) [.inr (some (0, 0)), .inr (some (2, t)), .inl x, .inl 0] M (fun r M' => (∃ v : Int32, r = some (.inl v)) ∧ ∃ nt', yv np nt nt' M M') := by
  have h := y_q (G := G) d t p n o np 12 0 rfl x M nt hY hN ht hT
  rw [show d + 2 * 12 + 6 = d + 30 by omega] at h
  exact h
