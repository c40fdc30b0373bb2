theorem yw19 {M : Me} {np nt w : Nat} (h : yI M np nt) (hw : w < 3) : me_P M 19 0 w = some (3, w) := by
  rcases w3 hw with rfl | rfl | rfl
  · exact h.1.1 (19, 0, 0, 3, 0) (by decide)
  · exact h.1.1 (19, 0, 1, 3, 1) (by decide)
  · exact h.1.1 (19, 0, 2, 3, 2) (by decide)
set_option maxRecDepth 20000 in
set_option maxHeartbeats 4000000 in
theorem y_R_isEmpty2 {G : Gt} {M : Me} (d : Nat) (i : Nat) (hR : rO M i) : sx G yt_R_isEmpty yn_R_isEmpty (d + 1) [.inr (some (4, i))] M (fun r M' => (∃ v : Int32, r = some (.inl v) ∧ (v = 0 → ¬ me_I M 4 i 1 = 0)) ∧ M = M') := by
  refine sx_of (k := 0) (lc := [some (.inr (some (4, i)))]) mt_R_isEmpty (Nat.le_of_ble_eq_true rfl) rfl ?_
  refine jx_of (fun _ _ kz => jw_aload_n 0 d_R_isEmpty_0 rfl rfl kz) ?_
  refine jx_of (fun _ _ kz => jw_getIe (me_I M 4 i 1) fl_R_9 d_R_isEmpty_1 rfl rfl rfl kz) ?_
  refine jx_if_ne 11 d_R_isEmpty_4 (by decide) (fun b_4 => ?_) (fun b_4 => ?_)
  · skip
    refine jx_of (fun _ _ kz => jw_iconst 0 d_R_isEmpty_11 (by decide) kz) ?_
    refine jx_zret d_R_isEmpty_12 rfl (by decide) ?_
    first | exact ⟨⟨_, rfl, fun q => absurd q (by decide)⟩, rfl⟩ | exact ⟨⟨_, rfl, fun _ => b_4⟩, rfl⟩
  · skip
    refine jx_of (fun _ _ kz => jw_iconst 1 d_R_isEmpty_7 (by decide) kz) ?_
    refine jx_of (fun _ _ kz => jw_goto 12 d_R_isEmpty_8 (by decide) kz) ?_
    refine jx_zret d_R_isEmpty_12 rfl (by decide) ?_
    first | exact ⟨⟨_, rfl, fun q => absurd q (by decide)⟩, rfl⟩ | exact ⟨⟨_, rfl, fun _ => b_4⟩, rfl⟩
set_option maxRecDepth 20000 in
set_option maxHeartbeats 4000000 in
theorem y_K_emptySlot {G : Gt} {M : Me} (d : Nat) (i : Nat) : sx G yt_K_emptySlot yn_K_emptySlot (d + 1) [.inr (some (3, i))] M (fun r M' => (∃ v : Int32, r = some (.inl v)) ∧ me_sI M 3 i 2 (-1) = M') := by
  refine sx_of (k := 1) (lc := [some (.inr (some (3, i))), none]) mt_K_emptySlot (Nat.le_of_ble_eq_true rfl) rfl ?_
  refine jx_of (fun _ _ kz => jw_aload_n 0 d_K_emptySlot_0 rfl rfl kz) ?_
  refine jx_of (fun _ _ kz => jw_getIe (_) fl_K_20 d_K_emptySlot_1 rfl rfl rfl kz) ?_
  refine jx_of (fun _ _ kz => jw_istore_n 1 d_K_emptySlot_4 rfl (Nat.le_of_ble_eq_true rfl) kz) ?_
  dsimp only [List.set]
  refine jx_of (fun _ _ kz => jw_aload_n 0 d_K_emptySlot_5 rfl rfl kz) ?_
  refine jx_of (fun _ _ kz => jw_iconst (-1) d_K_emptySlot_6 (by decide) kz) ?_
  refine jx_of (fun _ _ kz => jw_putI fl_K_20 (Or.inl rfl) rfl rfl d_K_emptySlot_7 rfl rfl kz) ?_
  refine jx_of (fun _ _ kz => jw_iload_n 1 d_K_emptySlot_10 rfl rfl kz) ?_
  refine jx_iret d_K_emptySlot_11 rfl ?_
  exact ⟨⟨_, rfl⟩, rfl⟩
set_option maxRecDepth 20000 in
set_option maxHeartbeats 4000000 in
theorem y_Y_st_l {G : Gt} {M : Me} (d w u e np nt : Nat) (hw : w < 3) (hu : u < 3) (he : e ≤ 144) (o2 : Option AV) (v5 : Int32) (c0 s0 : Nat) : ∀ (m k : Nat) (M1 : Me), k + m = e → yI M1 np nt → yk M M1 → jx G yt_Y_steal (d + 3) c0 s0 M1 62 [some (.inr (some (0, 0))), some (.inr (some (3, w))), o2, some (.inr (some (4, u))), some (.inl (nI e)), some (.inl v5), some (.inl (nI k))] [] (fun r M' => (∃ v : Int32, r = some (.inl v)) ∧ yI M' np nt ∧ yk M M') := by
  intro m
  induction m with
  | zero =>
    intro k M1 hm h1 k1
    refine jx_of (fun _ _ kz => jw_iload d_Y_steal_62 rfl kz) ?_
    refine jx_of (fun _ _ kz => jw_iload d_Y_steal_64 rfl kz) ?_
    refine jx_icmp_ge 86 d_Y_steal_66 (by decide) (fun _ => ?_) (fun h => absurd (nI_le (by omega) (by omega)) h)
    refine jx_of (fun _ _ kz => jw_iload d_Y_steal_86 rfl kz) ?_
    refine jx_iret d_Y_steal_88 rfl ?_
    exact ⟨⟨_, rfl⟩, h1, k1⟩
  | succ m ih =>
    intro k M1 hm h1 k1
    refine jx_of (fun _ _ kz => jw_iload d_Y_steal_62 rfl kz) ?_
    refine jx_of (fun _ _ kz => jw_iload d_Y_steal_64 rfl kz) ?_
    refine jx_icmp_ge 86 d_Y_steal_66 (by decide) (fun h => absurd h (nI_ge (by omega) (by omega))) (fun _ => ?_)
    refine jx_of (fun _ _ kz => jw_aload_n 1 d_Y_steal_69 rfl rfl kz) ?_
    refine jx_of (fun _ _ kz => jw_getPe (some (4, w)) fl_Y_165 d_Y_steal_70 rfl rfl (by simp [me_I_sI, me_I_sP, me_I_nx, me_P_sI, me_P_sP, me_P_nx, me_N_sI, me_N_sP, me_N_nx, me_L_sI, me_L_sP, me_L_nx, show me_P M1 3 w 1 = some (4, w) from yw h1 hw]) kz) ?_
    refine jx_of (fun _ _ kz => jw_aload_n 3 d_Y_steal_73 rfl rfl kz) ?_
    refine jx_callV (y_R_takeFirst d u (h1.1.2.2 u (by omega))) mt_R_takeFirst cf_R rfl rfl ml_Y_231 im_R_takeFirst se_R_takeFirst d_Y_steal_74 rfl rfl (Nat.le_of_ble_eq_true rfl) ?_
    rintro _ M2 ⟨⟨v2, rfl⟩, rM2, cM2⟩
    have h2 := yI_rc h1 cM2 rM2
    refine jx_eq (st2 := [.inl v2, .inr (some (4, w))]) rfl rfl rfl ?_
    refine jx_callV (y_R_add (d + 1) w v2 (h2.1.2.2 w (by omega))) mt_R_add cf_R rfl rfl ml_Y_210 im_R_add se_R_add d_Y_steal_77 rfl rfl (Nat.le_of_ble_eq_true rfl) ?_
    rintro _ M3 ⟨rfl, rM3, cM3⟩
    have h3 := yI_rc h2 cM3 rM3
    refine jx_eq (st2 := []) rfl rfl rfl ?_
    refine jx_of (fun _ _ kz => jw_iincc 1 d_Y_steal_80 (by decide) rfl (Nat.le_of_ble_eq_true rfl) kz) ?_
    dsimp only [List.set]
    refine jx_of (fun _ _ kz => jw_goto 62 d_Y_steal_83 (by decide) kz) ?_
    rw [nI_1]
    exact ih (k + 1) M3 (by omega) h3 (yk_tr (yk_tr k1 (yk_rc cM2)) (yk_rc cM3))
set_option maxRecDepth 20000 in
set_option maxHeartbeats 4000000 in
theorem y_Y_st31 {G : Gt} {M : Me} (d w u np nt : Nat) (hw : w < 3) (hu : u < 3) (hY : yI M np nt) (h0 : ¬ me_I M 4 u 1 = 0) (c0 s0 : Nat) (o2 o4 o5 o6 : Option AV) : jx G yt_Y_steal (d + 3) c0 s0 M 31 [some (.inr (some (0, 0))), some (.inr (some (3, w))), o2, some (.inr (some (4, u))), o4, o5, o6] [] (fun r M' => (∃ v : Int32, r = some (.inl v)) ∧ yI M' np nt ∧ yk M M') := by
  obtain ⟨q, hq1, hq2⟩ := (hY.1.2.2 u (by omega)).2.2
  have hq3 := (hY.1.2.2 u (by omega)).2.1
  have hq4 : 1 ≤ q := by
    rcases Nat.eq_zero_or_pos q with z | z
    · rw [z] at hq2; exact absurd hq2 h0
    · exact z
  refine jx_of (fun _ _ kz => jw_aload_n 0 d_Y_steal_31 rfl rfl kz) ?_
  refine jx_of (fun _ _ kz => jw_dup d_Y_steal_32 kz) ?_
  refine jx_of (fun _ _ kz => jw_getIe (_) fl_Y_72 d_Y_steal_33 rfl rfl rfl kz) ?_
  refine jx_of (fun _ _ kz => jw_iconst 1 d_Y_steal_36 (by decide) kz) ?_
  refine jx_of (fun _ _ kz => jw_iadd d_Y_steal_37 kz) ?_
  refine jx_of (fun _ _ kz => jw_putI fl_Y_72 (Or.inl rfl) rfl rfl d_Y_steal_38 rfl rfl kz) ?_
  refine jx_of (fun _ _ kz => jw_aload_n 3 d_Y_steal_41 rfl rfl kz) ?_
  refine jx_of (fun _ _ kz => jw_getIe (nI q) fl_Y_168 d_Y_steal_42 rfl rfl (by rw [me_I_sI, if_neg (by omega)]; exact hq2) kz) ?_
  refine jx_of (fun _ _ kz => jw_iconst 1 d_Y_steal_45 (by decide) kz) ?_
  refine jx_of (fun _ _ kz => jw_iadd d_Y_steal_46 kz) ?_
  rw [show ((nI q) + 1 : Int32) = nI (q + 1) from nI_1 _]
  refine jx_of (fun _ _ kz => jw_iconst 2 d_Y_steal_47 (by decide) kz) ?_
  refine jx_of (fun _ _ kz => jw_idiv d_Y_steal_48 (by decide) kz) ?_
  rw [show ((nI (q + 1)) / 2 : Int32) = nI ((q + 1) / 2) from pk_div (by omega) (by decide) (by decide)]
  refine jx_of (fun _ _ kz => jw_iconst 1 d_Y_steal_49 (by decide) kz) ?_
  refine jx_of (fun _ _ kz => jw_isub d_Y_steal_50 kz) ?_
  rw [show ((nI ((q + 1) / 2)) - 1 : Int32) = nI ((q + 1) / 2 - 1) from nI_p1 (by omega)]
  refine jx_of (fun _ _ kz => jw_istore d_Y_steal_51 (Nat.le_of_ble_eq_true rfl) kz) ?_
  dsimp only [List.set]
  refine jx_of (fun _ _ kz => jw_aload_n 3 d_Y_steal_53 rfl rfl kz) ?_
  refine jx_callV (y_R_takeFirst d u ((yI_k hY (by omega)).1.2.2 u (by omega))) mt_R_takeFirst cf_R rfl rfl ml_Y_231 im_R_takeFirst se_R_takeFirst d_Y_steal_54 rfl rfl (Nat.le_of_ble_eq_true rfl) ?_
  rintro _ M1 ⟨⟨v1, rfl⟩, rM1, cM1⟩
  have h1 := yI_rc (yI_k hY (by omega)) cM1 rM1
  refine jx_eq (st2 := [.inl v1]) rfl rfl rfl ?_
  refine jx_of (fun _ _ kz => jw_istore d_Y_steal_57 (Nat.le_of_ble_eq_true rfl) kz) ?_
  dsimp only [List.set]
  refine jx_of (fun _ _ kz => jw_iconst 0 d_Y_steal_59 (by decide) kz) ?_
  refine jx_of (fun _ _ kz => jw_istore d_Y_steal_60 (Nat.le_of_ble_eq_true rfl) kz) ?_
  dsimp only [List.set]
  exact y_Y_st_l d w u ((q + 1) / 2 - 1) np nt hw hu (by omega) _ v1 _ _ ((q + 1) / 2 - 1) 0 M1 (by omega) h1 (yk_tr (yk_sI yk_rf (by omega)) (yk_rc cM1))
set_option maxRecDepth 20000 in
set_option maxHeartbeats 4000000 in
theorem y_Y_steal_0 {G : Gt} {M : Me} (d : Nat) (np : Nat) (nt : Nat) (hY : yI M np nt) : sx G yt_Y_steal yn_Y_steal (d + 3) [.inr (some (0, 0)), .inr (some (3, 0))] M (fun r M' => (∃ v : Int32, r = some (.inl v)) ∧ yI M' np nt ∧ yk M M') := by
  refine sx_of (k := 5) (lc := [some (.inr (some (0, 0))), some (.inr (some (3, 0))), none, none, none, none, none]) mt_Y_steal (Nat.le_of_ble_eq_true rfl) rfl ?_
  refine jx_of (fun _ _ kz => jw_iconst 1 d_Y_steal_0 (by decide) kz) ?_
  refine jx_of (fun _ _ kz => jw_istore_n 2 d_Y_steal_1 rfl (Nat.le_of_ble_eq_true rfl) kz) ?_
  dsimp only [List.set]
  refine jx_of (fun _ _ kz => jw_iload_n 2 d_Y_steal_2 rfl rfl kz) ?_
  refine jx_of (fun _ _ kz => jw_iconst 3 d_Y_steal_3 (by decide) kz) ?_
  refine jx_icmp_ge 95 d_Y_steal_4 (by decide) (fun h => absurd h (by decide)) (fun _ => ?_)
  refine jx_of (fun _ _ kz => jw_aload_n 0 d_Y_steal_7 rfl rfl kz) ?_
  refine jx_of (fun _ _ kz => jw_getPe (some (19, 0)) fl_Y_38 d_Y_steal_8 rfl rfl (by simp [me_I_sI, me_I_sP, me_I_nx, me_P_sI, me_P_sP, me_P_nx, me_N_sI, me_N_sP, me_N_nx, me_L_sI, me_L_sP, me_L_nx, show me_P M 0 0 5 = some (19, 0) from hY.1.1 (0, 0, 5, 19, 0) (by decide)]) kz) ?_
  refine jx_of (fun _ _ kz => jw_aload_n 1 d_Y_steal_11 rfl rfl kz) ?_
  refine jx_of (fun _ _ kz => jw_getIe (0) fl_Y_195 d_Y_steal_12 rfl rfl (hY.2.1.2.2.2.2.2.1 0 (by decide)) kz) ?_
  refine jx_of (fun _ _ kz => jw_iload_n 2 d_Y_steal_15 rfl rfl kz) ?_
  refine jx_of (fun _ _ kz => jw_iadd d_Y_steal_16 kz) ?_
  rw [show (0 + 1 : Int32) = 1 from by decide]
  refine jx_of (fun _ _ kz => jw_iconst 3 d_Y_steal_17 (by decide) kz) ?_
  refine jx_of (fun _ _ kz => jw_irem d_Y_steal_18 (by decide) kz) ?_
  rw [show (1 - 1 / 3 * 3 : Int32) = 1 from by decide]
  refine jx_of (fun _ _ kz => jw_aalde (some (3, 1)) d_Y_steal_19 rfl rfl (by rw [show me_L _ 19 0 = 3 from (by simp [me_I_sI, me_I_sP, me_I_nx, me_P_sI, me_P_sP, me_P_nx, me_N_sI, me_N_sP, me_N_nx, me_L_sI, me_L_sP, me_L_nx, show me_L M 19 0 = 3 from hY.1.2.1 (19, 0, 3) (by decide)])]; unfold vp_in; decide) (by simp [me_I_sI, me_I_sP, me_I_nx, me_P_sI, me_P_sP, me_P_nx, me_N_sI, me_N_sP, me_N_nx, me_L_sI, me_L_sP, me_L_nx, show me_P M 19 0 1 = some (3, 1) from hY.1.1 (19, 0, 1, 3, 1) (by decide)]) kz) ?_
  refine jx_of (fun _ _ kz => jw_getPe (some (4, 1)) fl_Y_165 d_Y_steal_20 rfl rfl (by simp [me_I_sI, me_I_sP, me_I_nx, me_P_sI, me_P_sP, me_P_nx, me_N_sI, me_N_sP, me_N_nx, me_L_sI, me_L_sP, me_L_nx, show me_P M 3 1 1 = some (4, 1) from hY.1.1 (3, 1, 1, 4, 1) (by decide)]) kz) ?_
  refine jx_of (fun _ _ kz => jw_astore_n 3 d_Y_steal_23 rfl (Nat.le_of_ble_eq_true rfl) kz) ?_
  dsimp only [List.set]
  refine jx_of (fun _ _ kz => jw_aload_n 3 d_Y_steal_24 rfl rfl kz) ?_
  refine jx_callV (y_R_isEmpty2 (d + 1) 1 (hY.1.2.2 _ (by omega))) mt_R_isEmpty cf_R rfl rfl ml_Y_198 im_R_isEmpty se_R_isEmpty d_Y_steal_25 rfl rfl (Nat.le_of_ble_eq_true rfl) ?_
  rintro _ _ ⟨⟨rv, rfl, hrv⟩, rfl⟩
  refine jx_eq (st2 := [.inl rv]) rfl rfl rfl ?_
  refine jx_if_ne 89 d_Y_steal_28 (by decide) (fun b_28 => ?_) (fun b_28 => ?_)
  · skip
    refine jx_of (fun _ _ kz => jw_iincc 1 d_Y_steal_89 (by decide) rfl (Nat.le_of_ble_eq_true rfl) kz) ?_
    dsimp only [List.set]
    rw [show (1 + 1 : Int32) = 2 from by decide]
    refine jx_of (fun _ _ kz => jw_goto 2 d_Y_steal_92 (by decide) kz) ?_
    refine jx_of (fun _ _ kz => jw_iload_n 2 d_Y_steal_2 rfl rfl kz) ?_
    refine jx_of (fun _ _ kz => jw_iconst 3 d_Y_steal_3 (by decide) kz) ?_
    refine jx_icmp_ge 95 d_Y_steal_4 (by decide) (fun h => absurd h (by decide)) (fun _ => ?_)
    refine jx_of (fun _ _ kz => jw_aload_n 0 d_Y_steal_7 rfl rfl kz) ?_
    refine jx_of (fun _ _ kz => jw_getPe (some (19, 0)) fl_Y_38 d_Y_steal_8 rfl rfl (by simp [me_I_sI, me_I_sP, me_I_nx, me_P_sI, me_P_sP, me_P_nx, me_N_sI, me_N_sP, me_N_nx, me_L_sI, me_L_sP, me_L_nx, show me_P M 0 0 5 = some (19, 0) from hY.1.1 (0, 0, 5, 19, 0) (by decide)]) kz) ?_
    refine jx_of (fun _ _ kz => jw_aload_n 1 d_Y_steal_11 rfl rfl kz) ?_
    refine jx_of (fun _ _ kz => jw_getIe (0) fl_Y_195 d_Y_steal_12 rfl rfl (hY.2.1.2.2.2.2.2.1 0 (by decide)) kz) ?_
    refine jx_of (fun _ _ kz => jw_iload_n 2 d_Y_steal_15 rfl rfl kz) ?_
    refine jx_of (fun _ _ kz => jw_iadd d_Y_steal_16 kz) ?_
    rw [show (0 + 2 : Int32) = 2 from by decide]
    refine jx_of (fun _ _ kz => jw_iconst 3 d_Y_steal_17 (by decide) kz) ?_
    refine jx_of (fun _ _ kz => jw_irem d_Y_steal_18 (by decide) kz) ?_
    rw [show (2 - 2 / 3 * 3 : Int32) = 2 from by decide]
    refine jx_of (fun _ _ kz => jw_aalde (some (3, 2)) d_Y_steal_19 rfl rfl (by rw [show me_L _ 19 0 = 3 from (by simp [me_I_sI, me_I_sP, me_I_nx, me_P_sI, me_P_sP, me_P_nx, me_N_sI, me_N_sP, me_N_nx, me_L_sI, me_L_sP, me_L_nx, show me_L M 19 0 = 3 from hY.1.2.1 (19, 0, 3) (by decide)])]; unfold vp_in; decide) (by simp [me_I_sI, me_I_sP, me_I_nx, me_P_sI, me_P_sP, me_P_nx, me_N_sI, me_N_sP, me_N_nx, me_L_sI, me_L_sP, me_L_nx, show me_P M 19 0 2 = some (3, 2) from hY.1.1 (19, 0, 2, 3, 2) (by decide)]) kz) ?_
    refine jx_of (fun _ _ kz => jw_getPe (some (4, 2)) fl_Y_165 d_Y_steal_20 rfl rfl (by simp [me_I_sI, me_I_sP, me_I_nx, me_P_sI, me_P_sP, me_P_nx, me_N_sI, me_N_sP, me_N_nx, me_L_sI, me_L_sP, me_L_nx, show me_P M 3 2 1 = some (4, 2) from hY.1.1 (3, 2, 1, 4, 2) (by decide)]) kz) ?_
    refine jx_of (fun _ _ kz => jw_astore_n 3 d_Y_steal_23 rfl (Nat.le_of_ble_eq_true rfl) kz) ?_
    dsimp only [List.set]
    refine jx_of (fun _ _ kz => jw_aload_n 3 d_Y_steal_24 rfl rfl kz) ?_
    refine jx_callV (y_R_isEmpty2 (d + 1) 2 (hY.1.2.2 _ (by omega))) mt_R_isEmpty cf_R rfl rfl ml_Y_198 im_R_isEmpty se_R_isEmpty d_Y_steal_25 rfl rfl (Nat.le_of_ble_eq_true rfl) ?_
    rintro _ _ ⟨⟨rv, rfl, hrv⟩, rfl⟩
    refine jx_eq (st2 := [.inl rv]) rfl rfl rfl ?_
    refine jx_if_ne 89 d_Y_steal_28 (by decide) (fun b_28 => ?_) (fun b_28 => ?_)
    · skip
      refine jx_of (fun _ _ kz => jw_iincc 1 d_Y_steal_89 (by decide) rfl (Nat.le_of_ble_eq_true rfl) kz) ?_
      dsimp only [List.set]
      rw [show (2 + 1 : Int32) = 3 from by decide]
      refine jx_of (fun _ _ kz => jw_goto 2 d_Y_steal_92 (by decide) kz) ?_
      refine jx_of (fun _ _ kz => jw_iload_n 2 d_Y_steal_2 rfl rfl kz) ?_
      refine jx_of (fun _ _ kz => jw_iconst 3 d_Y_steal_3 (by decide) kz) ?_
      refine jx_icmp_ge 95 d_Y_steal_4 (by decide) (fun _ => ?_) (fun h => absurd h (by decide))
      refine jx_of (fun _ _ kz => jw_iconst (-1) d_Y_steal_95 (by decide) kz) ?_
      refine jx_iret d_Y_steal_96 rfl ?_
      exact ⟨⟨_, rfl⟩, hY, yk_rf⟩
    · skip
      first | exact y_Y_st31 d 0 1 np nt (by decide) (by decide) hY (hrv b_28) _ _ _ _ _ _ | exact y_Y_st31 d 0 2 np nt (by decide) (by decide) hY (hrv b_28) _ _ _ _ _ _
  · skip
    first | exact y_Y_st31 d 0 1 np nt (by decide) (by decide) hY (hrv b_28) _ _ _ _ _ _ | exact y_Y_st31 d 0 2 np nt (by decide) (by decide) hY (hrv b_28) _ _ _ _ _ _
set_option maxRecDepth 20000 in
set_option maxHeartbeats 4000000 in
theorem y_Y_steal_1 {G : Gt} {M : Me} (d : Nat) (np : Nat) (nt : Nat) (hY : yI M np nt) : sx G yt_Y_steal yn_Y_steal (d + 3) [.inr (some (0, 0)), .inr (some (3, 1))] M (fun r M' => (∃ v : Int32, r = some (.inl v)) ∧ yI M' np nt ∧ yk M M') := by
  refine sx_of (k := 5) (lc := [some (.inr (some (0, 0))), some (.inr (some (3, 1))), none, none, none, none, none]) mt_Y_steal (Nat.le_of_ble_eq_true rfl) rfl ?_
  refine jx_of (fun _ _ kz => jw_iconst 1 d_Y_steal_0 (by decide) kz) ?_
  refine jx_of (fun _ _ kz => jw_istore_n 2 d_Y_steal_1 rfl (Nat.le_of_ble_eq_true rfl) kz) ?_
  dsimp only [List.set]
  refine jx_of (fun _ _ kz => jw_iload_n 2 d_Y_steal_2 rfl rfl kz) ?_
  refine jx_of (fun _ _ kz => jw_iconst 3 d_Y_steal_3 (by decide) kz) ?_
  refine jx_icmp_ge 95 d_Y_steal_4 (by decide) (fun h => absurd h (by decide)) (fun _ => ?_)
  refine jx_of (fun _ _ kz => jw_aload_n 0 d_Y_steal_7 rfl rfl kz) ?_
  refine jx_of (fun _ _ kz => jw_getPe (some (19, 0)) fl_Y_38 d_Y_steal_8 rfl rfl (by simp [me_I_sI, me_I_sP, me_I_nx, me_P_sI, me_P_sP, me_P_nx, me_N_sI, me_N_sP, me_N_nx, me_L_sI, me_L_sP, me_L_nx, show me_P M 0 0 5 = some (19, 0) from hY.1.1 (0, 0, 5, 19, 0) (by decide)]) kz) ?_
  refine jx_of (fun _ _ kz => jw_aload_n 1 d_Y_steal_11 rfl rfl kz) ?_
  refine jx_of (fun _ _ kz => jw_getIe (1) fl_Y_195 d_Y_steal_12 rfl rfl (hY.2.1.2.2.2.2.2.1 1 (by decide)) kz) ?_
  refine jx_of (fun _ _ kz => jw_iload_n 2 d_Y_steal_15 rfl rfl kz) ?_
  refine jx_of (fun _ _ kz => jw_iadd d_Y_steal_16 kz) ?_
  rw [show (1 + 1 : Int32) = 2 from by decide]
  refine jx_of (fun _ _ kz => jw_iconst 3 d_Y_steal_17 (by decide) kz) ?_
  refine jx_of (fun _ _ kz => jw_irem d_Y_steal_18 (by decide) kz) ?_
  rw [show (2 - 2 / 3 * 3 : Int32) = 2 from by decide]
  refine jx_of (fun _ _ kz => jw_aalde (some (3, 2)) d_Y_steal_19 rfl rfl (by rw [show me_L _ 19 0 = 3 from (by simp [me_I_sI, me_I_sP, me_I_nx, me_P_sI, me_P_sP, me_P_nx, me_N_sI, me_N_sP, me_N_nx, me_L_sI, me_L_sP, me_L_nx, show me_L M 19 0 = 3 from hY.1.2.1 (19, 0, 3) (by decide)])]; unfold vp_in; decide) (by simp [me_I_sI, me_I_sP, me_I_nx, me_P_sI, me_P_sP, me_P_nx, me_N_sI, me_N_sP, me_N_nx, me_L_sI, me_L_sP, me_L_nx, show me_P M 19 0 2 = some (3, 2) from hY.1.1 (19, 0, 2, 3, 2) (by decide)]) kz) ?_
  refine jx_of (fun _ _ kz => jw_getPe (some (4, 2)) fl_Y_165 d_Y_steal_20 rfl rfl (by simp [me_I_sI, me_I_sP, me_I_nx, me_P_sI, me_P_sP, me_P_nx, me_N_sI, me_N_sP, me_N_nx, me_L_sI, me_L_sP, me_L_nx, show me_P M 3 2 1 = some (4, 2) from hY.1.1 (3, 2, 1, 4, 2) (by decide)]) kz) ?_
  refine jx_of (fun _ _ kz => jw_astore_n 3 d_Y_steal_23 rfl (Nat.le_of_ble_eq_true rfl) kz) ?_
  dsimp only [List.set]
  refine jx_of (fun _ _ kz => jw_aload_n 3 d_Y_steal_24 rfl rfl kz) ?_
  refine jx_callV (y_R_isEmpty2 (d + 1) 2 (hY.1.2.2 _ (by omega))) mt_R_isEmpty cf_R rfl rfl ml_Y_198 im_R_isEmpty se_R_isEmpty d_Y_steal_25 rfl rfl (Nat.le_of_ble_eq_true rfl) ?_
  rintro _ _ ⟨⟨rv, rfl, hrv⟩, rfl⟩
  refine jx_eq (st2 := [.inl rv]) rfl rfl rfl ?_
  refine jx_if_ne 89 d_Y_steal_28 (by decide) (fun b_28 => ?_) (fun b_28 => ?_)
  · skip
    refine jx_of (fun _ _ kz => jw_iincc 1 d_Y_steal_89 (by decide) rfl (Nat.le_of_ble_eq_true rfl) kz) ?_
    dsimp only [List.set]
    rw [show (1 + 1 : Int32) = 2 from by decide]
    refine jx_of (fun _ _ kz => jw_goto 2 d_Y_steal_92 (by decide) kz) ?_
    refine jx_of (fun _ _ kz => jw_iload_n 2 d_Y_steal_2 rfl rfl kz) ?_
    refine jx_of (fun _ _ kz => jw_iconst 3 d_Y_steal_3 (by decide) kz) ?_
    refine jx_icmp_ge 95 d_Y_steal_4 (by decide) (fun h => absurd h (by decide)) (fun _ => ?_)
    refine jx_of (fun _ _ kz => jw_aload_n 0 d_Y_steal_7 rfl rfl kz) ?_
    refine jx_of (fun _ _ kz => jw_getPe (some (19, 0)) fl_Y_38 d_Y_steal_8 rfl rfl (by simp [me_I_sI, me_I_sP, me_I_nx, me_P_sI, me_P_sP, me_P_nx, me_N_sI, me_N_sP, me_N_nx, me_L_sI, me_L_sP, me_L_nx, show me_P M 0 0 5 = some (19, 0) from hY.1.1 (0, 0, 5, 19, 0) (by decide)]) kz) ?_
    refine jx_of (fun _ _ kz => jw_aload_n 1 d_Y_steal_11 rfl rfl kz) ?_
    refine jx_of (fun _ _ kz => jw_getIe (1) fl_Y_195 d_Y_steal_12 rfl rfl (hY.2.1.2.2.2.2.2.1 1 (by decide)) kz) ?_
    refine jx_of (fun _ _ kz => jw_iload_n 2 d_Y_steal_15 rfl rfl kz) ?_
    refine jx_of (fun _ _ kz => jw_iadd d_Y_steal_16 kz) ?_
    rw [show (1 + 2 : Int32) = 3 from by decide]
    refine jx_of (fun _ _ kz => jw_iconst 3 d_Y_steal_17 (by decide) kz) ?_
    refine jx_of (fun _ _ kz => jw_irem d_Y_steal_18 (by decide) kz) ?_
    rw [show (3 - 3 / 3 * 3 : Int32) = 0 from by decide]
    refine jx_of (fun _ _ kz => jw_aalde (some (3, 0)) d_Y_steal_19 rfl rfl (by rw [show me_L _ 19 0 = 3 from (by simp [me_I_sI, me_I_sP, me_I_nx, me_P_sI, me_P_sP, me_P_nx, me_N_sI, me_N_sP, me_N_nx, me_L_sI, me_L_sP, me_L_nx, show me_L M 19 0 = 3 from hY.1.2.1 (19, 0, 3) (by decide)])]; unfold vp_in; decide) (by simp [me_I_sI, me_I_sP, me_I_nx, me_P_sI, me_P_sP, me_P_nx, me_N_sI, me_N_sP, me_N_nx, me_L_sI, me_L_sP, me_L_nx, show me_P M 19 0 0 = some (3, 0) from hY.1.1 (19, 0, 0, 3, 0) (by decide)]) kz) ?_
    refine jx_of (fun _ _ kz => jw_getPe (some (4, 0)) fl_Y_165 d_Y_steal_20 rfl rfl (by simp [me_I_sI, me_I_sP, me_I_nx, me_P_sI, me_P_sP, me_P_nx, me_N_sI, me_N_sP, me_N_nx, me_L_sI, me_L_sP, me_L_nx, show me_P M 3 0 1 = some (4, 0) from hY.1.1 (3, 0, 1, 4, 0) (by decide)]) kz) ?_
    refine jx_of (fun _ _ kz => jw_astore_n 3 d_Y_steal_23 rfl (Nat.le_of_ble_eq_true rfl) kz) ?_
    dsimp only [List.set]
    refine jx_of (fun _ _ kz => jw_aload_n 3 d_Y_steal_24 rfl rfl kz) ?_
    refine jx_callV (y_R_isEmpty2 (d + 1) 0 (hY.1.2.2 _ (by omega))) mt_R_isEmpty cf_R rfl rfl ml_Y_198 im_R_isEmpty se_R_isEmpty d_Y_steal_25 rfl rfl (Nat.le_of_ble_eq_true rfl) ?_
    rintro _ _ ⟨⟨rv, rfl, hrv⟩, rfl⟩
    refine jx_eq (st2 := [.inl rv]) rfl rfl rfl ?_
    refine jx_if_ne 89 d_Y_steal_28 (by decide) (fun b_28 => ?_) (fun b_28 => ?_)
    · skip
      refine jx_of (fun _ _ kz => jw_iincc 1 d_Y_steal_89 (by decide) rfl (Nat.le_of_ble_eq_true rfl) kz) ?_
      dsimp only [List.set]
      rw [show (2 + 1 : Int32) = 3 from by decide]
      refine jx_of (fun _ _ kz => jw_goto 2 d_Y_steal_92 (by decide) kz) ?_
      refine jx_of (fun _ _ kz => jw_iload_n 2 d_Y_steal_2 rfl rfl kz) ?_
      refine jx_of (fun _ _ kz => jw_iconst 3 d_Y_steal_3 (by decide) kz) ?_
      refine jx_icmp_ge 95 d_Y_steal_4 (by decide) (fun _ => ?_) (fun h => absurd h (by decide))
      refine jx_of (fun _ _ kz => jw_iconst (-1) d_Y_steal_95 (by decide) kz) ?_
      refine jx_iret d_Y_steal_96 rfl ?_
      exact ⟨⟨_, rfl⟩, hY, yk_rf⟩
    · skip
      first | exact y_Y_st31 d 1 0 np nt (by decide) (by decide) hY (hrv b_28) _ _ _ _ _ _ | exact y_Y_st31 d 1 2 np nt (by decide) (by decide) hY (hrv b_28) _ _ _ _ _ _
  · skip
    first | exact y_Y_st31 d 1 0 np nt (by decide) (by decide) hY (hrv b_28) _ _ _ _ _ _ | exact y_Y_st31 d 1 2 np nt (by decide) (by decide) hY (hrv b_28) _ _ _ _ _ _
set_option maxRecDepth 20000 in
set_option maxHeartbeats 4000000 in
theorem y_Y_steal_2 {G : Gt} {M : Me} (d : Nat) (np : Nat) (nt : Nat) (hY : yI M np nt) : sx G yt_Y_steal yn_Y_steal (d + 3) [.inr (some (0, 0)), .inr (some (3, 2))] M (fun r M' => (∃ v : Int32, r = some (.inl v)) ∧ yI M' np nt ∧ yk M M') := by
  refine sx_of (k := 5) (lc := [some (.inr (some (0, 0))), some (.inr (some (3, 2))), none, none, none, none, none]) mt_Y_steal (Nat.le_of_ble_eq_true rfl) rfl ?_
  refine jx_of (fun _ _ kz => jw_iconst 1 d_Y_steal_0 (by decide) kz) ?_
  refine jx_of (fun _ _ kz => jw_istore_n 2 d_Y_steal_1 rfl (Nat.le_of_ble_eq_true rfl) kz) ?_
  dsimp only [List.set]
  refine jx_of (fun _ _ kz => jw_iload_n 2 d_Y_steal_2 rfl rfl kz) ?_
  refine jx_of (fun _ _ kz => jw_iconst 3 d_Y_steal_3 (by decide) kz) ?_
  refine jx_icmp_ge 95 d_Y_steal_4 (by decide) (fun h => absurd h (by decide)) (fun _ => ?_)
  refine jx_of (fun _ _ kz => jw_aload_n 0 d_Y_steal_7 rfl rfl kz) ?_
  refine jx_of (fun _ _ kz => jw_getPe (some (19, 0)) fl_Y_38 d_Y_steal_8 rfl rfl (by simp [me_I_sI, me_I_sP, me_I_nx, me_P_sI, me_P_sP, me_P_nx, me_N_sI, me_N_sP, me_N_nx, me_L_sI, me_L_sP, me_L_nx, show me_P M 0 0 5 = some (19, 0) from hY.1.1 (0, 0, 5, 19, 0) (by decide)]) kz) ?_
  refine jx_of (fun _ _ kz => jw_aload_n 1 d_Y_steal_11 rfl rfl kz) ?_
  refine jx_of (fun _ _ kz => jw_getIe (2) fl_Y_195 d_Y_steal_12 rfl rfl (hY.2.1.2.2.2.2.2.1 2 (by decide)) kz) ?_
  refine jx_of (fun _ _ kz => jw_iload_n 2 d_Y_steal_15 rfl rfl kz) ?_
  refine jx_of (fun _ _ kz => jw_iadd d_Y_steal_16 kz) ?_
  rw [show (2 + 1 : Int32) = 3 from by decide]
  refine jx_of (fun _ _ kz => jw_iconst 3 d_Y_steal_17 (by decide) kz) ?_
  refine jx_of (fun _ _ kz => jw_irem d_Y_steal_18 (by decide) kz) ?_
  rw [show (3 - 3 / 3 * 3 : Int32) = 0 from by decide]
  refine jx_of (fun _ _ kz => jw_aalde (some (3, 0)) d_Y_steal_19 rfl rfl (by rw [show me_L _ 19 0 = 3 from (by simp [me_I_sI, me_I_sP, me_I_nx, me_P_sI, me_P_sP, me_P_nx, me_N_sI, me_N_sP, me_N_nx, me_L_sI, me_L_sP, me_L_nx, show me_L M 19 0 = 3 from hY.1.2.1 (19, 0, 3) (by decide)])]; unfold vp_in; decide) (by simp [me_I_sI, me_I_sP, me_I_nx, me_P_sI, me_P_sP, me_P_nx, me_N_sI, me_N_sP, me_N_nx, me_L_sI, me_L_sP, me_L_nx, show me_P M 19 0 0 = some (3, 0) from hY.1.1 (19, 0, 0, 3, 0) (by decide)]) kz) ?_
  refine jx_of (fun _ _ kz => jw_getPe (some (4, 0)) fl_Y_165 d_Y_steal_20 rfl rfl (by simp [me_I_sI, me_I_sP, me_I_nx, me_P_sI, me_P_sP, me_P_nx, me_N_sI, me_N_sP, me_N_nx, me_L_sI, me_L_sP, me_L_nx, show me_P M 3 0 1 = some (4, 0) from hY.1.1 (3, 0, 1, 4, 0) (by decide)]) kz) ?_
  refine jx_of (fun _ _ kz => jw_astore_n 3 d_Y_steal_23 rfl (Nat.le_of_ble_eq_true rfl) kz) ?_
  dsimp only [List.set]
  refine jx_of (fun _ _ kz => jw_aload_n 3 d_Y_steal_24 rfl rfl kz) ?_
  refine jx_callV (y_R_isEmpty2 (d + 1) 0 (hY.1.2.2 _ (by omega))) mt_R_isEmpty cf_R rfl rfl ml_Y_198 im_R_isEmpty se_R_isEmpty d_Y_steal_25 rfl rfl (Nat.le_of_ble_eq_true rfl) ?_
  rintro _ _ ⟨⟨rv, rfl, hrv⟩, rfl⟩
  refine jx_eq (st2 := [.inl rv]) rfl rfl rfl ?_
  refine jx_if_ne 89 d_Y_steal_28 (by decide) (fun b_28 => ?_) (fun b_28 => ?_)
  · skip
    refine jx_of (fun _ _ kz => jw_iincc 1 d_Y_steal_89 (by decide) rfl (Nat.le_of_ble_eq_true rfl) kz) ?_
    dsimp only [List.set]
    rw [show (1 + 1 : Int32) = 2 from by decide]
    refine jx_of (fun _ _ kz => jw_goto 2 d_Y_steal_92 (by decide) kz) ?_
    refine jx_of (fun _ _ kz => jw_iload_n 2 d_Y_steal_2 rfl rfl kz) ?_
    refine jx_of (fun _ _ kz => jw_iconst 3 d_Y_steal_3 (by decide) kz) ?_
    refine jx_icmp_ge 95 d_Y_steal_4 (by decide) (fun h => absurd h (by decide)) (fun _ => ?_)
    refine jx_of (fun _ _ kz => jw_aload_n 0 d_Y_steal_7 rfl rfl kz) ?_
    refine jx_of (fun _ _ kz => jw_getPe (some (19, 0)) fl_Y_38 d_Y_steal_8 rfl rfl (by simp [me_I_sI, me_I_sP, me_I_nx, me_P_sI, me_P_sP, me_P_nx, me_N_sI, me_N_sP, me_N_nx, me_L_sI, me_L_sP, me_L_nx, show me_P M 0 0 5 = some (19, 0) from hY.1.1 (0, 0, 5, 19, 0) (by decide)]) kz) ?_
    refine jx_of (fun _ _ kz => jw_aload_n 1 d_Y_steal_11 rfl rfl kz) ?_
    refine jx_of (fun _ _ kz => jw_getIe (2) fl_Y_195 d_Y_steal_12 rfl rfl (hY.2.1.2.2.2.2.2.1 2 (by decide)) kz) ?_
    refine jx_of (fun _ _ kz => jw_iload_n 2 d_Y_steal_15 rfl rfl kz) ?_
    refine jx_of (fun _ _ kz => jw_iadd d_Y_steal_16 kz) ?_
    rw [show (2 + 2 : Int32) = 4 from by decide]
    refine jx_of (fun _ _ kz => jw_iconst 3 d_Y_steal_17 (by decide) kz) ?_
    refine jx_of (fun _ _ kz => jw_irem d_Y_steal_18 (by decide) kz) ?_
    rw [show (4 - 4 / 3 * 3 : Int32) = 1 from by decide]
    refine jx_of (fun _ _ kz => jw_aalde (some (3, 1)) d_Y_steal_19 rfl rfl (by rw [show me_L _ 19 0 = 3 from (by simp [me_I_sI, me_I_sP, me_I_nx, me_P_sI, me_P_sP, me_P_nx, me_N_sI, me_N_sP, me_N_nx, me_L_sI, me_L_sP, me_L_nx, show me_L M 19 0 = 3 from hY.1.2.1 (19, 0, 3) (by decide)])]; unfold vp_in; decide) (by simp [me_I_sI, me_I_sP, me_I_nx, me_P_sI, me_P_sP, me_P_nx, me_N_sI, me_N_sP, me_N_nx, me_L_sI, me_L_sP, me_L_nx, show me_P M 19 0 1 = some (3, 1) from hY.1.1 (19, 0, 1, 3, 1) (by decide)]) kz) ?_
    refine jx_of (fun _ _ kz => jw_getPe (some (4, 1)) fl_Y_165 d_Y_steal_20 rfl rfl (by simp [me_I_sI, me_I_sP, me_I_nx, me_P_sI, me_P_sP, me_P_nx, me_N_sI, me_N_sP, me_N_nx, me_L_sI, me_L_sP, me_L_nx, show me_P M 3 1 1 = some (4, 1) from hY.1.1 (3, 1, 1, 4, 1) (by decide)]) kz) ?_
    refine jx_of (fun _ _ kz => jw_astore_n 3 d_Y_steal_23 rfl (Nat.le_of_ble_eq_true rfl) kz) ?_
    dsimp only [List.set]
    refine jx_of (fun _ _ kz => jw_aload_n 3 d_Y_steal_24 rfl rfl kz) ?_
    refine jx_callV (y_R_isEmpty2 (d + 1) 1 (hY.1.2.2 _ (by omega))) mt_R_isEmpty cf_R rfl rfl ml_Y_198 im_R_isEmpty se_R_isEmpty d_Y_steal_25 rfl rfl (Nat.le_of_ble_eq_true rfl) ?_
    rintro _ _ ⟨⟨rv, rfl, hrv⟩, rfl⟩
    refine jx_eq (st2 := [.inl rv]) rfl rfl rfl ?_
    refine jx_if_ne 89 d_Y_steal_28 (by decide) (fun b_28 => ?_) (fun b_28 => ?_)
    · skip
      refine jx_of (fun _ _ kz => jw_iincc 1 d_Y_steal_89 (by decide) rfl (Nat.le_of_ble_eq_true rfl) kz) ?_
      dsimp only [List.set]
      rw [show (2 + 1 : Int32) = 3 from by decide]
      refine jx_of (fun _ _ kz => jw_goto 2 d_Y_steal_92 (by decide) kz) ?_
      refine jx_of (fun _ _ kz => jw_iload_n 2 d_Y_steal_2 rfl rfl kz) ?_
      refine jx_of (fun _ _ kz => jw_iconst 3 d_Y_steal_3 (by decide) kz) ?_
      refine jx_icmp_ge 95 d_Y_steal_4 (by decide) (fun _ => ?_) (fun h => absurd h (by decide))
      refine jx_of (fun _ _ kz => jw_iconst (-1) d_Y_steal_95 (by decide) kz) ?_
      refine jx_iret d_Y_steal_96 rfl ?_
      exact ⟨⟨_, rfl⟩, hY, yk_rf⟩
    · skip
      first | exact y_Y_st31 d 2 0 np nt (by decide) (by decide) hY (hrv b_28) _ _ _ _ _ _ | exact y_Y_st31 d 2 1 np nt (by decide) (by decide) hY (hrv b_28) _ _ _ _ _ _
  · skip
    first | exact y_Y_st31 d 2 0 np nt (by decide) (by decide) hY (hrv b_28) _ _ _ _ _ _ | exact y_Y_st31 d 2 1 np nt (by decide) (by decide) hY (hrv b_28) _ _ _ _ _ _
theorem y_Y_steal {G : Gt} {M : Me} (d w np nt : Nat) (hY : yI M np nt) (hw : w < 3) : sx G yt_Y_steal yn_Y_steal (d + 3) [.inr (some (0, 0)), .inr (some (3, w))] M (fun r M' => (∃ v : Int32, r = some (.inl v)) ∧ yI M' np nt ∧ yk M M') := by
  rcases w3 hw with rfl | rfl | rfl
  · exact y_Y_steal_0 d np nt hY
  · exact y_Y_steal_1 d np nt hY
  · exact y_Y_steal_2 d np nt hY
set_option maxRecDepth 20000 in
set_option maxHeartbeats 4000000 in
theorem y_Y_nextTask {G : Gt} {M : Me} (d : Nat) (w : Nat) (np : Nat) (nt : Nat) (hY : yI M np nt) (hw : w < 3) : sx G yt_Y_nextTask yn_Y_nextTask (d + 4) [.inr (some (0, 0)), .inr (some (3, w))] M (fun r M' => (∃ v : Int32, r = some (.inl v)) ∧ yI M' np nt ∧ yk M M') := by
  refine sx_of (k := 2) (lc := [some (.inr (some (0, 0))), some (.inr (some (3, w))), none, none]) mt_Y_nextTask (Nat.le_of_ble_eq_true rfl) rfl ?_
  refine jx_of (fun _ _ kz => jw_aload_n 1 d_Y_nextTask_0 rfl rfl kz) ?_
  refine jx_of (fun _ _ kz => jw_getIe (me_I M 3 w 3) fl_Y_162 d_Y_nextTask_1 rfl rfl rfl kz) ?_
  refine jx_of (fun _ _ kz => jw_iconst 5 d_Y_nextTask_4 (by decide) kz) ?_
  refine jx_of (fun _ _ kz => jw_irem d_Y_nextTask_5 (by decide) kz) ?_
  refine jx_if_ne 23 d_Y_nextTask_6 (by decide) (fun b_6 => ?_) (fun b_6 => ?_)
  · skip
    refine jx_of (fun _ _ kz => jw_iconst 0 d_Y_nextTask_23 (by decide) kz) ?_
    refine jx_of (fun _ _ kz => jw_istore_n 2 d_Y_nextTask_24 rfl (Nat.le_of_ble_eq_true rfl) kz) ?_
    dsimp only [List.set]
    refine jx_of (fun _ _ kz => jw_aload_n 1 d_Y_nextTask_25 rfl rfl kz) ?_
    refine jx_of (fun _ _ kz => jw_getIe (me_I M 3 w 4) fl_Y_172 d_Y_nextTask_26 rfl rfl rfl kz) ?_
    refine jx_of (fun _ _ kz => jw_iconst 2 d_Y_nextTask_29 (by decide) kz) ?_
    refine jx_icmp_lt 53 d_Y_nextTask_30 (by decide) (fun b_30 => ?_) (fun b_30 => ?_)
    · skip
      refine jx_of (fun _ _ kz => jw_iconst 1 d_Y_nextTask_53 (by decide) kz) ?_
      refine jx_of (fun _ _ kz => jw_goto 58 d_Y_nextTask_54 (by decide) kz) ?_
      refine jx_of (fun _ _ kz => jw_istore_n 3 d_Y_nextTask_58 rfl (Nat.le_of_ble_eq_true rfl) kz) ?_
      dsimp only [List.set]
      refine jx_of (fun _ _ kz => jw_aload_n 1 d_Y_nextTask_59 rfl rfl kz) ?_
      refine jx_of (fun _ _ kz => jw_getIe (me_I M 3 w 2) fl_Y_159 d_Y_nextTask_60 rfl rfl rfl kz) ?_
      refine jx_of (fun _ _ kz => jw_iconst (-1) d_Y_nextTask_63 (by decide) kz) ?_
      refine jx_icmp_eq 90 d_Y_nextTask_64 (by decide) (fun b_64 => ?_) (fun b_64 => ?_)
      · skip
        refine jx_of (fun _ _ kz => jw_aload_n 1 d_Y_nextTask_90 rfl rfl kz) ?_
        refine jx_of (fun _ _ kz => jw_iconst 0 d_Y_nextTask_91 (by decide) kz) ?_
        refine jx_of (fun _ _ kz => jw_putI fl_Y_172 (Or.inl rfl) rfl rfl d_Y_nextTask_92 rfl rfl kz) ?_
        refine jx_of (fun _ _ kz => jw_iload_n 2 d_Y_nextTask_95 rfl rfl kz) ?_
        refine jx_if_ne 117 d_Y_nextTask_96 (by decide) (fun h => absurd h (by decide)) (fun _ => ?_)
        refine jx_of (fun _ _ kz => jw_aload_n 1 d_Y_nextTask_99 rfl rfl kz) ?_
        refine jx_of (fun _ _ kz => jw_getPe (some (4, w)) fl_Y_165 d_Y_nextTask_100 rfl rfl (by simp [me_I_sI, me_I_sP, me_I_nx, me_P_sI, me_P_sP, me_P_nx, me_N_sI, me_N_sP, me_N_nx, me_L_sI, me_L_sP, me_L_nx, show me_P M 3 w 1 = some (4, w) from yw hY hw]) kz) ?_
        refine jx_callV (y_R_isEmpty (d + 2) w ((yI_k hY (by omega)).1.2.2 w (by omega))) mt_R_isEmpty cf_R rfl rfl ml_Y_198 im_R_isEmpty se_R_isEmpty d_Y_nextTask_103 rfl rfl (Nat.le_of_ble_eq_true rfl) ?_
        rintro r _ ⟨hr, rfl⟩
        obtain ⟨re, rfl⟩ : ∃ v : Int32, r = some (.inl v) := by rcases hr with hr | hr; exact ⟨_, hr⟩; exact ⟨_, hr⟩
        refine jx_eq (st2 := [.inl re]) rfl rfl rfl ?_
        refine jx_if_ne 117 d_Y_nextTask_106 (by decide) (fun b_106 => ?_) (fun b_106 => ?_)
        · skip
          refine jx_of (fun _ _ kz => jw_aload_n 0 d_Y_nextTask_117 rfl rfl kz) ?_
          refine jx_of (fun _ _ kz => jw_getPe (some (4, 3)) fl_Y_45 d_Y_nextTask_118 rfl rfl (by simp [me_I_sI, me_I_sP, me_I_nx, me_P_sI, me_P_sP, me_P_nx, me_N_sI, me_N_sP, me_N_nx, me_L_sI, me_L_sP, me_L_nx, show me_P M 0 0 6 = some (4, 3) from hY.1.1 (0, 0, 6, 4, 3) (by decide)]) kz) ?_
          refine jx_callV (y_R_isEmpty (d + 2) 3 ((yI_k hY (by omega)).1.2.2 3 (by omega))) mt_R_isEmpty cf_R rfl rfl ml_Y_198 im_R_isEmpty se_R_isEmpty d_Y_nextTask_121 rfl rfl (Nat.le_of_ble_eq_true rfl) ?_
          rintro r _ ⟨hr, rfl⟩
          obtain ⟨rf, rfl⟩ : ∃ v : Int32, r = some (.inl v) := by rcases hr with hr | hr; exact ⟨_, hr⟩; exact ⟨_, hr⟩
          refine jx_eq (st2 := [.inl rf]) rfl rfl rfl ?_
          refine jx_if_eq 135 d_Y_nextTask_124 (by decide) (fun b_124 => ?_) (fun b_124 => ?_)
          · skip
            refine jx_of (fun _ _ kz => jw_aload_n 0 d_Y_nextTask_135 rfl rfl kz) ?_
            refine jx_of (fun _ _ kz => jw_getPe (some (4, 3)) fl_Y_45 d_Y_nextTask_136 rfl rfl (by simp [me_I_sI, me_I_sP, me_I_nx, me_P_sI, me_P_sP, me_P_nx, me_N_sI, me_N_sP, me_N_nx, me_L_sI, me_L_sP, me_L_nx, show me_P M 0 0 6 = some (4, 3) from hY.1.1 (0, 0, 6, 4, 3) (by decide)]) kz) ?_
            refine jx_callV (y_R_takeFirst (d + 1) 3 ((yI_k hY (by omega)).1.2.2 3 (by omega))) mt_R_takeFirst cf_R rfl rfl ml_Y_231 im_R_takeFirst se_R_takeFirst d_Y_nextTask_139 rfl rfl (Nat.le_of_ble_eq_true rfl) ?_
            rintro _ M1 ⟨⟨v1, rfl⟩, rM1, cM1⟩
            have h1 := yI_rc (yI_k hY (by omega)) cM1 rM1
            refine jx_eq (st2 := [.inl v1]) rfl rfl rfl ?_
            refine jx_iret d_Y_nextTask_142 rfl ?_
            first | exact ⟨⟨_, rfl⟩, h1, yk_tr (yk_sI yk_rf (by omega)) k1⟩ | exact ⟨⟨_, rfl⟩, h1, yk_tr (yk_sI yk_rf (by omega)) (yk_rc cM1)⟩
          · skip
            refine jx_of (fun _ _ kz => jw_aload_n 0 d_Y_nextTask_127 rfl rfl kz) ?_
            refine jx_of (fun _ _ kz => jw_aload_n 1 d_Y_nextTask_128 rfl rfl kz) ?_
            refine jx_callV (y_Y_steal d w np nt (yI_k hY (by omega))  hw) mt_Y_steal cf_Y rfl rfl ml_Y_254 im_Y_steal se_Y_steal d_Y_nextTask_129 rfl rfl (Nat.le_of_ble_eq_true rfl) ?_
            rintro _ M1 ⟨⟨v1, rfl⟩, h1, k1⟩
            refine jx_eq (st2 := [.inl v1]) rfl rfl rfl ?_
            refine jx_of (fun _ _ kz => jw_goto 142 d_Y_nextTask_132 (by decide) kz) ?_
            refine jx_iret d_Y_nextTask_142 rfl ?_
            first | exact ⟨⟨_, rfl⟩, h1, yk_tr (yk_sI yk_rf (by omega)) k1⟩ | exact ⟨⟨_, rfl⟩, h1, yk_tr (yk_sI yk_rf (by omega)) (yk_rc cM1)⟩
        · skip
          refine jx_of (fun _ _ kz => jw_aload_n 1 d_Y_nextTask_109 rfl rfl kz) ?_
          refine jx_of (fun _ _ kz => jw_getPe (some (4, w)) fl_Y_165 d_Y_nextTask_110 rfl rfl (by simp [me_I_sI, me_I_sP, me_I_nx, me_P_sI, me_P_sP, me_P_nx, me_N_sI, me_N_sP, me_N_nx, me_L_sI, me_L_sP, me_L_nx, show me_P M 3 w 1 = some (4, w) from yw hY hw]) kz) ?_
          refine jx_callV (y_R_takeFirst (d + 1) w ((yI_k hY (by omega)).1.2.2 w (by omega))) mt_R_takeFirst cf_R rfl rfl ml_Y_231 im_R_takeFirst se_R_takeFirst d_Y_nextTask_113 rfl rfl (Nat.le_of_ble_eq_true rfl) ?_
          rintro _ M1 ⟨⟨v1, rfl⟩, rM1, cM1⟩
          have h1 := yI_rc (yI_k hY (by omega)) cM1 rM1
          refine jx_eq (st2 := [.inl v1]) rfl rfl rfl ?_
          refine jx_iret d_Y_nextTask_116 rfl ?_
          exact ⟨⟨_, rfl⟩, h1, yk_tr (yk_sI yk_rf (by omega)) (yk_rc cM1)⟩
      · skip
        refine jx_of (fun _ _ kz => jw_iload_n 3 d_Y_nextTask_67 rfl rfl kz) ?_
        refine jx_if_eq 90 d_Y_nextTask_68 (by decide) (fun h => absurd h (by decide)) (fun _ => ?_)
        refine jx_of (fun _ _ kz => jw_iload_n 2 d_Y_nextTask_71 rfl rfl kz) ?_
        refine jx_if_ne 90 d_Y_nextTask_72 (by decide) (fun h => absurd h (by decide)) (fun _ => ?_)
        refine jx_of (fun _ _ kz => jw_aload_n 1 d_Y_nextTask_75 rfl rfl kz) ?_
        refine jx_of (fun _ _ kz => jw_dup d_Y_nextTask_76 kz) ?_
        refine jx_of (fun _ _ kz => jw_getIe (me_I M 3 w 4) fl_Y_172 d_Y_nextTask_77 rfl rfl rfl kz) ?_
        refine jx_of (fun _ _ kz => jw_iconst 1 d_Y_nextTask_80 (by decide) kz) ?_
        refine jx_of (fun _ _ kz => jw_iadd d_Y_nextTask_81 kz) ?_
        refine jx_of (fun _ _ kz => jw_putI fl_Y_172 (Or.inl rfl) rfl rfl d_Y_nextTask_82 rfl rfl kz) ?_
        refine jx_of (fun _ _ kz => jw_aload_n 1 d_Y_nextTask_85 rfl rfl kz) ?_
        refine jx_callV (y_K_emptySlot (d + 2) w) mt_K_emptySlot cf_K rfl rfl ml_Y_251 im_K_emptySlot se_K_emptySlot d_Y_nextTask_86 rfl rfl (Nat.le_of_ble_eq_true rfl) ?_
        rintro _ _ ⟨⟨ve, rfl⟩, rfl⟩
        refine jx_eq (st2 := [.inl ve]) rfl rfl rfl ?_
        refine jx_iret d_Y_nextTask_89 rfl ?_
        exact ⟨⟨_, rfl⟩, yI_k (yI_k hY (by omega)) (by omega), yk_sI (yk_sI yk_rf (by omega)) (by omega)⟩
    · skip
      refine jx_of (fun _ _ kz => jw_aload_n 1 d_Y_nextTask_33 rfl rfl kz) ?_
      refine jx_of (fun _ _ kz => jw_getPe (some (4, w)) fl_Y_165 d_Y_nextTask_34 rfl rfl (by simp [me_I_sI, me_I_sP, me_I_nx, me_P_sI, me_P_sP, me_P_nx, me_N_sI, me_N_sP, me_N_nx, me_L_sI, me_L_sP, me_L_nx, show me_P M 3 w 1 = some (4, w) from yw hY hw]) kz) ?_
      refine jx_callV (y_R_isEmpty (d + 2) w (hY.1.2.2 w (by omega))) mt_R_isEmpty cf_R rfl rfl ml_Y_198 im_R_isEmpty se_R_isEmpty d_Y_nextTask_37 rfl rfl (Nat.le_of_ble_eq_true rfl) ?_
      rintro r _ ⟨hr, rfl⟩
      obtain ⟨rb, rfl⟩ : ∃ v : Int32, r = some (.inl v) := by rcases hr with hr | hr; exact ⟨_, hr⟩; exact ⟨_, hr⟩
      refine jx_eq (st2 := [.inl rb]) rfl rfl rfl ?_
      refine jx_if_eq 57 d_Y_nextTask_40 (by decide) (fun b_40 => ?_) (fun b_40 => ?_)
      · skip
        refine jx_of (fun _ _ kz => jw_iconst 0 d_Y_nextTask_57 (by decide) kz) ?_
        refine jx_of (fun _ _ kz => jw_istore_n 3 d_Y_nextTask_58 rfl (Nat.le_of_ble_eq_true rfl) kz) ?_
        dsimp only [List.set]
        refine jx_of (fun _ _ kz => jw_aload_n 1 d_Y_nextTask_59 rfl rfl kz) ?_
        refine jx_of (fun _ _ kz => jw_getIe (me_I M 3 w 2) fl_Y_159 d_Y_nextTask_60 rfl rfl rfl kz) ?_
        refine jx_of (fun _ _ kz => jw_iconst (-1) d_Y_nextTask_63 (by decide) kz) ?_
        refine jx_icmp_eq 90 d_Y_nextTask_64 (by decide) (fun b_64 => ?_) (fun b_64 => ?_)
        · skip
          refine jx_of (fun _ _ kz => jw_aload_n 1 d_Y_nextTask_90 rfl rfl kz) ?_
          refine jx_of (fun _ _ kz => jw_iconst 0 d_Y_nextTask_91 (by decide) kz) ?_
          refine jx_of (fun _ _ kz => jw_putI fl_Y_172 (Or.inl rfl) rfl rfl d_Y_nextTask_92 rfl rfl kz) ?_
          refine jx_of (fun _ _ kz => jw_iload_n 2 d_Y_nextTask_95 rfl rfl kz) ?_
          refine jx_if_ne 117 d_Y_nextTask_96 (by decide) (fun h => absurd h (by decide)) (fun _ => ?_)
          refine jx_of (fun _ _ kz => jw_aload_n 1 d_Y_nextTask_99 rfl rfl kz) ?_
          refine jx_of (fun _ _ kz => jw_getPe (some (4, w)) fl_Y_165 d_Y_nextTask_100 rfl rfl (by simp [me_I_sI, me_I_sP, me_I_nx, me_P_sI, me_P_sP, me_P_nx, me_N_sI, me_N_sP, me_N_nx, me_L_sI, me_L_sP, me_L_nx, show me_P M 3 w 1 = some (4, w) from yw hY hw]) kz) ?_
          refine jx_callV (y_R_isEmpty (d + 2) w ((yI_k hY (by omega)).1.2.2 w (by omega))) mt_R_isEmpty cf_R rfl rfl ml_Y_198 im_R_isEmpty se_R_isEmpty d_Y_nextTask_103 rfl rfl (Nat.le_of_ble_eq_true rfl) ?_
          rintro r _ ⟨hr, rfl⟩
          obtain ⟨re, rfl⟩ : ∃ v : Int32, r = some (.inl v) := by rcases hr with hr | hr; exact ⟨_, hr⟩; exact ⟨_, hr⟩
          refine jx_eq (st2 := [.inl re]) rfl rfl rfl ?_
          refine jx_if_ne 117 d_Y_nextTask_106 (by decide) (fun b_106 => ?_) (fun b_106 => ?_)
          · skip
            refine jx_of (fun _ _ kz => jw_aload_n 0 d_Y_nextTask_117 rfl rfl kz) ?_
            refine jx_of (fun _ _ kz => jw_getPe (some (4, 3)) fl_Y_45 d_Y_nextTask_118 rfl rfl (by simp [me_I_sI, me_I_sP, me_I_nx, me_P_sI, me_P_sP, me_P_nx, me_N_sI, me_N_sP, me_N_nx, me_L_sI, me_L_sP, me_L_nx, show me_P M 0 0 6 = some (4, 3) from hY.1.1 (0, 0, 6, 4, 3) (by decide)]) kz) ?_
            refine jx_callV (y_R_isEmpty (d + 2) 3 ((yI_k hY (by omega)).1.2.2 3 (by omega))) mt_R_isEmpty cf_R rfl rfl ml_Y_198 im_R_isEmpty se_R_isEmpty d_Y_nextTask_121 rfl rfl (Nat.le_of_ble_eq_true rfl) ?_
            rintro r _ ⟨hr, rfl⟩
            obtain ⟨rf, rfl⟩ : ∃ v : Int32, r = some (.inl v) := by rcases hr with hr | hr; exact ⟨_, hr⟩; exact ⟨_, hr⟩
            refine jx_eq (st2 := [.inl rf]) rfl rfl rfl ?_
            refine jx_if_eq 135 d_Y_nextTask_124 (by decide) (fun b_124 => ?_) (fun b_124 => ?_)
            · skip
              refine jx_of (fun _ _ kz => jw_aload_n 0 d_Y_nextTask_135 rfl rfl kz) ?_
              refine jx_of (fun _ _ kz => jw_getPe (some (4, 3)) fl_Y_45 d_Y_nextTask_136 rfl rfl (by simp [me_I_sI, me_I_sP, me_I_nx, me_P_sI, me_P_sP, me_P_nx, me_N_sI, me_N_sP, me_N_nx, me_L_sI, me_L_sP, me_L_nx, show me_P M 0 0 6 = some (4, 3) from hY.1.1 (0, 0, 6, 4, 3) (by decide)]) kz) ?_
              refine jx_callV (y_R_takeFirst (d + 1) 3 ((yI_k hY (by omega)).1.2.2 3 (by omega))) mt_R_takeFirst cf_R rfl rfl ml_Y_231 im_R_takeFirst se_R_takeFirst d_Y_nextTask_139 rfl rfl (Nat.le_of_ble_eq_true rfl) ?_
              rintro _ M1 ⟨⟨v1, rfl⟩, rM1, cM1⟩
              have h1 := yI_rc (yI_k hY (by omega)) cM1 rM1
              refine jx_eq (st2 := [.inl v1]) rfl rfl rfl ?_
              refine jx_iret d_Y_nextTask_142 rfl ?_
              first | exact ⟨⟨_, rfl⟩, h1, yk_tr (yk_sI yk_rf (by omega)) k1⟩ | exact ⟨⟨_, rfl⟩, h1, yk_tr (yk_sI yk_rf (by omega)) (yk_rc cM1)⟩
            · skip
              refine jx_of (fun _ _ kz => jw_aload_n 0 d_Y_nextTask_127 rfl rfl kz) ?_
              refine jx_of (fun _ _ kz => jw_aload_n 1 d_Y_nextTask_128 rfl rfl kz) ?_
              refine jx_callV (y_Y_steal d w np nt (yI_k hY (by omega))  hw) mt_Y_steal cf_Y rfl rfl ml_Y_254 im_Y_steal se_Y_steal d_Y_nextTask_129 rfl rfl (Nat.le_of_ble_eq_true rfl) ?_
              rintro _ M1 ⟨⟨v1, rfl⟩, h1, k1⟩
              refine jx_eq (st2 := [.inl v1]) rfl rfl rfl ?_
              refine jx_of (fun _ _ kz => jw_goto 142 d_Y_nextTask_132 (by decide) kz) ?_
              refine jx_iret d_Y_nextTask_142 rfl ?_
              first | exact ⟨⟨_, rfl⟩, h1, yk_tr (yk_sI yk_rf (by omega)) k1⟩ | exact ⟨⟨_, rfl⟩, h1, yk_tr (yk_sI yk_rf (by omega)) (yk_rc cM1)⟩
          · skip
            refine jx_of (fun _ _ kz => jw_aload_n 1 d_Y_nextTask_109 rfl rfl kz) ?_
            refine jx_of (fun _ _ kz => jw_getPe (some (4, w)) fl_Y_165 d_Y_nextTask_110 rfl rfl (by simp [me_I_sI, me_I_sP, me_I_nx, me_P_sI, me_P_sP, me_P_nx, me_N_sI, me_N_sP, me_N_nx, me_L_sI, me_L_sP, me_L_nx, show me_P M 3 w 1 = some (4, w) from yw hY hw]) kz) ?_
            refine jx_callV (y_R_takeFirst (d + 1) w ((yI_k hY (by omega)).1.2.2 w (by omega))) mt_R_takeFirst cf_R rfl rfl ml_Y_231 im_R_takeFirst se_R_takeFirst d_Y_nextTask_113 rfl rfl (Nat.le_of_ble_eq_true rfl) ?_
            rintro _ M1 ⟨⟨v1, rfl⟩, rM1, cM1⟩
            have h1 := yI_rc (yI_k hY (by omega)) cM1 rM1
            refine jx_eq (st2 := [.inl v1]) rfl rfl rfl ?_
            refine jx_iret d_Y_nextTask_116 rfl ?_
            exact ⟨⟨_, rfl⟩, h1, yk_tr (yk_sI yk_rf (by omega)) (yk_rc cM1)⟩
        · skip
          refine jx_of (fun _ _ kz => jw_iload_n 3 d_Y_nextTask_67 rfl rfl kz) ?_
          refine jx_if_eq 90 d_Y_nextTask_68 (by decide) (fun _ => ?_) (fun h => absurd h (by decide))
          refine jx_of (fun _ _ kz => jw_aload_n 1 d_Y_nextTask_90 rfl rfl kz) ?_
          refine jx_of (fun _ _ kz => jw_iconst 0 d_Y_nextTask_91 (by decide) kz) ?_
          refine jx_of (fun _ _ kz => jw_putI fl_Y_172 (Or.inl rfl) rfl rfl d_Y_nextTask_92 rfl rfl kz) ?_
          refine jx_of (fun _ _ kz => jw_iload_n 2 d_Y_nextTask_95 rfl rfl kz) ?_
          refine jx_if_ne 117 d_Y_nextTask_96 (by decide) (fun h => absurd h (by decide)) (fun _ => ?_)
          refine jx_of (fun _ _ kz => jw_aload_n 1 d_Y_nextTask_99 rfl rfl kz) ?_
          refine jx_of (fun _ _ kz => jw_getPe (some (4, w)) fl_Y_165 d_Y_nextTask_100 rfl rfl (by simp [me_I_sI, me_I_sP, me_I_nx, me_P_sI, me_P_sP, me_P_nx, me_N_sI, me_N_sP, me_N_nx, me_L_sI, me_L_sP, me_L_nx, show me_P M 3 w 1 = some (4, w) from yw hY hw]) kz) ?_
          refine jx_callV (y_R_isEmpty (d + 2) w ((yI_k hY (by omega)).1.2.2 w (by omega))) mt_R_isEmpty cf_R rfl rfl ml_Y_198 im_R_isEmpty se_R_isEmpty d_Y_nextTask_103 rfl rfl (Nat.le_of_ble_eq_true rfl) ?_
          rintro r _ ⟨hr, rfl⟩
          obtain ⟨re, rfl⟩ : ∃ v : Int32, r = some (.inl v) := by rcases hr with hr | hr; exact ⟨_, hr⟩; exact ⟨_, hr⟩
          refine jx_eq (st2 := [.inl re]) rfl rfl rfl ?_
          refine jx_if_ne 117 d_Y_nextTask_106 (by decide) (fun b_106 => ?_) (fun b_106 => ?_)
          · skip
            refine jx_of (fun _ _ kz => jw_aload_n 0 d_Y_nextTask_117 rfl rfl kz) ?_
            refine jx_of (fun _ _ kz => jw_getPe (some (4, 3)) fl_Y_45 d_Y_nextTask_118 rfl rfl (by simp [me_I_sI, me_I_sP, me_I_nx, me_P_sI, me_P_sP, me_P_nx, me_N_sI, me_N_sP, me_N_nx, me_L_sI, me_L_sP, me_L_nx, show me_P M 0 0 6 = some (4, 3) from hY.1.1 (0, 0, 6, 4, 3) (by decide)]) kz) ?_
            refine jx_callV (y_R_isEmpty (d + 2) 3 ((yI_k hY (by omega)).1.2.2 3 (by omega))) mt_R_isEmpty cf_R rfl rfl ml_Y_198 im_R_isEmpty se_R_isEmpty d_Y_nextTask_121 rfl rfl (Nat.le_of_ble_eq_true rfl) ?_
            rintro r _ ⟨hr, rfl⟩
            obtain ⟨rf, rfl⟩ : ∃ v : Int32, r = some (.inl v) := by rcases hr with hr | hr; exact ⟨_, hr⟩; exact ⟨_, hr⟩
            refine jx_eq (st2 := [.inl rf]) rfl rfl rfl ?_
            refine jx_if_eq 135 d_Y_nextTask_124 (by decide) (fun b_124 => ?_) (fun b_124 => ?_)
            · skip
              refine jx_of (fun _ _ kz => jw_aload_n 0 d_Y_nextTask_135 rfl rfl kz) ?_
              refine jx_of (fun _ _ kz => jw_getPe (some (4, 3)) fl_Y_45 d_Y_nextTask_136 rfl rfl (by simp [me_I_sI, me_I_sP, me_I_nx, me_P_sI, me_P_sP, me_P_nx, me_N_sI, me_N_sP, me_N_nx, me_L_sI, me_L_sP, me_L_nx, show me_P M 0 0 6 = some (4, 3) from hY.1.1 (0, 0, 6, 4, 3) (by decide)]) kz) ?_
              refine jx_callV (y_R_takeFirst (d + 1) 3 ((yI_k hY (by omega)).1.2.2 3 (by omega))) mt_R_takeFirst cf_R rfl rfl ml_Y_231 im_R_takeFirst se_R_takeFirst d_Y_nextTask_139 rfl rfl (Nat.le_of_ble_eq_true rfl) ?_
              rintro _ M1 ⟨⟨v1, rfl⟩, rM1, cM1⟩
              have h1 := yI_rc (yI_k hY (by omega)) cM1 rM1
              refine jx_eq (st2 := [.inl v1]) rfl rfl rfl ?_
              refine jx_iret d_Y_nextTask_142 rfl ?_
              first | exact ⟨⟨_, rfl⟩, h1, yk_tr (yk_sI yk_rf (by omega)) k1⟩ | exact ⟨⟨_, rfl⟩, h1, yk_tr (yk_sI yk_rf (by omega)) (yk_rc cM1)⟩
            · skip
              refine jx_of (fun _ _ kz => jw_aload_n 0 d_Y_nextTask_127 rfl rfl kz) ?_
              refine jx_of (fun _ _ kz => jw_aload_n 1 d_Y_nextTask_128 rfl rfl kz) ?_
              refine jx_callV (y_Y_steal d w np nt (yI_k hY (by omega))  hw) mt_Y_steal cf_Y rfl rfl ml_Y_254 im_Y_steal se_Y_steal d_Y_nextTask_129 rfl rfl (Nat.le_of_ble_eq_true rfl) ?_
              rintro _ M1 ⟨⟨v1, rfl⟩, h1, k1⟩
              refine jx_eq (st2 := [.inl v1]) rfl rfl rfl ?_
              refine jx_of (fun _ _ kz => jw_goto 142 d_Y_nextTask_132 (by decide) kz) ?_
              refine jx_iret d_Y_nextTask_142 rfl ?_
              first | exact ⟨⟨_, rfl⟩, h1, yk_tr (yk_sI yk_rf (by omega)) k1⟩ | exact ⟨⟨_, rfl⟩, h1, yk_tr (yk_sI yk_rf (by omega)) (yk_rc cM1)⟩
          · skip
            refine jx_of (fun _ _ kz => jw_aload_n 1 d_Y_nextTask_109 rfl rfl kz) ?_
            refine jx_of (fun _ _ kz => jw_getPe (some (4, w)) fl_Y_165 d_Y_nextTask_110 rfl rfl (by simp [me_I_sI, me_I_sP, me_I_nx, me_P_sI, me_P_sP, me_P_nx, me_N_sI, me_N_sP, me_N_nx, me_L_sI, me_L_sP, me_L_nx, show me_P M 3 w 1 = some (4, w) from yw hY hw]) kz) ?_
            refine jx_callV (y_R_takeFirst (d + 1) w ((yI_k hY (by omega)).1.2.2 w (by omega))) mt_R_takeFirst cf_R rfl rfl ml_Y_231 im_R_takeFirst se_R_takeFirst d_Y_nextTask_113 rfl rfl (Nat.le_of_ble_eq_true rfl) ?_
            rintro _ M1 ⟨⟨v1, rfl⟩, rM1, cM1⟩
            have h1 := yI_rc (yI_k hY (by omega)) cM1 rM1
            refine jx_eq (st2 := [.inl v1]) rfl rfl rfl ?_
            refine jx_iret d_Y_nextTask_116 rfl ?_
            exact ⟨⟨_, rfl⟩, h1, yk_tr (yk_sI yk_rf (by omega)) (yk_rc cM1)⟩
      · skip
        refine jx_of (fun _ _ kz => jw_aload_n 0 d_Y_nextTask_43 rfl rfl kz) ?_
        refine jx_of (fun _ _ kz => jw_getPe (some (4, 3)) fl_Y_45 d_Y_nextTask_44 rfl rfl (by simp [me_I_sI, me_I_sP, me_I_nx, me_P_sI, me_P_sP, me_P_nx, me_N_sI, me_N_sP, me_N_nx, me_L_sI, me_L_sP, me_L_nx, show me_P M 0 0 6 = some (4, 3) from hY.1.1 (0, 0, 6, 4, 3) (by decide)]) kz) ?_
        refine jx_callV (y_R_isEmpty (d + 2) 3 (hY.1.2.2 3 (by omega))) mt_R_isEmpty cf_R rfl rfl ml_Y_198 im_R_isEmpty se_R_isEmpty d_Y_nextTask_47 rfl rfl (Nat.le_of_ble_eq_true rfl) ?_
        rintro r _ ⟨hr, rfl⟩
        obtain ⟨rd, rfl⟩ : ∃ v : Int32, r = some (.inl v) := by rcases hr with hr | hr; exact ⟨_, hr⟩; exact ⟨_, hr⟩
        refine jx_eq (st2 := [.inl rd]) rfl rfl rfl ?_
        refine jx_if_eq 57 d_Y_nextTask_50 (by decide) (fun b_50 => ?_) (fun b_50 => ?_)
        · skip
          refine jx_of (fun _ _ kz => jw_iconst 0 d_Y_nextTask_57 (by decide) kz) ?_
          refine jx_of (fun _ _ kz => jw_istore_n 3 d_Y_nextTask_58 rfl (Nat.le_of_ble_eq_true rfl) kz) ?_
          dsimp only [List.set]
          refine jx_of (fun _ _ kz => jw_aload_n 1 d_Y_nextTask_59 rfl rfl kz) ?_
          refine jx_of (fun _ _ kz => jw_getIe (me_I M 3 w 2) fl_Y_159 d_Y_nextTask_60 rfl rfl rfl kz) ?_
          refine jx_of (fun _ _ kz => jw_iconst (-1) d_Y_nextTask_63 (by decide) kz) ?_
          refine jx_icmp_eq 90 d_Y_nextTask_64 (by decide) (fun b_64 => ?_) (fun b_64 => ?_)
          · skip
            refine jx_of (fun _ _ kz => jw_aload_n 1 d_Y_nextTask_90 rfl rfl kz) ?_
            refine jx_of (fun _ _ kz => jw_iconst 0 d_Y_nextTask_91 (by decide) kz) ?_
            refine jx_of (fun _ _ kz => jw_putI fl_Y_172 (Or.inl rfl) rfl rfl d_Y_nextTask_92 rfl rfl kz) ?_
            refine jx_of (fun _ _ kz => jw_iload_n 2 d_Y_nextTask_95 rfl rfl kz) ?_
            refine jx_if_ne 117 d_Y_nextTask_96 (by decide) (fun h => absurd h (by decide)) (fun _ => ?_)
            refine jx_of (fun _ _ kz => jw_aload_n 1 d_Y_nextTask_99 rfl rfl kz) ?_
            refine jx_of (fun _ _ kz => jw_getPe (some (4, w)) fl_Y_165 d_Y_nextTask_100 rfl rfl (by simp [me_I_sI, me_I_sP, me_I_nx, me_P_sI, me_P_sP, me_P_nx, me_N_sI, me_N_sP, me_N_nx, me_L_sI, me_L_sP, me_L_nx, show me_P M 3 w 1 = some (4, w) from yw hY hw]) kz) ?_
            refine jx_callV (y_R_isEmpty (d + 2) w ((yI_k hY (by omega)).1.2.2 w (by omega))) mt_R_isEmpty cf_R rfl rfl ml_Y_198 im_R_isEmpty se_R_isEmpty d_Y_nextTask_103 rfl rfl (Nat.le_of_ble_eq_true rfl) ?_
            rintro r _ ⟨hr, rfl⟩
            obtain ⟨re, rfl⟩ : ∃ v : Int32, r = some (.inl v) := by rcases hr with hr | hr; exact ⟨_, hr⟩; exact ⟨_, hr⟩
            refine jx_eq (st2 := [.inl re]) rfl rfl rfl ?_
            refine jx_if_ne 117 d_Y_nextTask_106 (by decide) (fun b_106 => ?_) (fun b_106 => ?_)
            · skip
              refine jx_of (fun _ _ kz => jw_aload_n 0 d_Y_nextTask_117 rfl rfl kz) ?_
              refine jx_of (fun _ _ kz => jw_getPe (some (4, 3)) fl_Y_45 d_Y_nextTask_118 rfl rfl (by simp [me_I_sI, me_I_sP, me_I_nx, me_P_sI, me_P_sP, me_P_nx, me_N_sI, me_N_sP, me_N_nx, me_L_sI, me_L_sP, me_L_nx, show me_P M 0 0 6 = some (4, 3) from hY.1.1 (0, 0, 6, 4, 3) (by decide)]) kz) ?_
              refine jx_callV (y_R_isEmpty (d + 2) 3 ((yI_k hY (by omega)).1.2.2 3 (by omega))) mt_R_isEmpty cf_R rfl rfl ml_Y_198 im_R_isEmpty se_R_isEmpty d_Y_nextTask_121 rfl rfl (Nat.le_of_ble_eq_true rfl) ?_
              rintro r _ ⟨hr, rfl⟩
              obtain ⟨rf, rfl⟩ : ∃ v : Int32, r = some (.inl v) := by rcases hr with hr | hr; exact ⟨_, hr⟩; exact ⟨_, hr⟩
              refine jx_eq (st2 := [.inl rf]) rfl rfl rfl ?_
              refine jx_if_eq 135 d_Y_nextTask_124 (by decide) (fun b_124 => ?_) (fun b_124 => ?_)
              · skip
                refine jx_of (fun _ _ kz => jw_aload_n 0 d_Y_nextTask_135 rfl rfl kz) ?_
                refine jx_of (fun _ _ kz => jw_getPe (some (4, 3)) fl_Y_45 d_Y_nextTask_136 rfl rfl (by simp [me_I_sI, me_I_sP, me_I_nx, me_P_sI, me_P_sP, me_P_nx, me_N_sI, me_N_sP, me_N_nx, me_L_sI, me_L_sP, me_L_nx, show me_P M 0 0 6 = some (4, 3) from hY.1.1 (0, 0, 6, 4, 3) (by decide)]) kz) ?_
                refine jx_callV (y_R_takeFirst (d + 1) 3 ((yI_k hY (by omega)).1.2.2 3 (by omega))) mt_R_takeFirst cf_R rfl rfl ml_Y_231 im_R_takeFirst se_R_takeFirst d_Y_nextTask_139 rfl rfl (Nat.le_of_ble_eq_true rfl) ?_
                rintro _ M1 ⟨⟨v1, rfl⟩, rM1, cM1⟩
                have h1 := yI_rc (yI_k hY (by omega)) cM1 rM1
                refine jx_eq (st2 := [.inl v1]) rfl rfl rfl ?_
                refine jx_iret d_Y_nextTask_142 rfl ?_
                first | exact ⟨⟨_, rfl⟩, h1, yk_tr (yk_sI yk_rf (by omega)) k1⟩ | exact ⟨⟨_, rfl⟩, h1, yk_tr (yk_sI yk_rf (by omega)) (yk_rc cM1)⟩
              · skip
                refine jx_of (fun _ _ kz => jw_aload_n 0 d_Y_nextTask_127 rfl rfl kz) ?_
                refine jx_of (fun _ _ kz => jw_aload_n 1 d_Y_nextTask_128 rfl rfl kz) ?_
                refine jx_callV (y_Y_steal d w np nt (yI_k hY (by omega))  hw) mt_Y_steal cf_Y rfl rfl ml_Y_254 im_Y_steal se_Y_steal d_Y_nextTask_129 rfl rfl (Nat.le_of_ble_eq_true rfl) ?_
                rintro _ M1 ⟨⟨v1, rfl⟩, h1, k1⟩
                refine jx_eq (st2 := [.inl v1]) rfl rfl rfl ?_
                refine jx_of (fun _ _ kz => jw_goto 142 d_Y_nextTask_132 (by decide) kz) ?_
                refine jx_iret d_Y_nextTask_142 rfl ?_
                first | exact ⟨⟨_, rfl⟩, h1, yk_tr (yk_sI yk_rf (by omega)) k1⟩ | exact ⟨⟨_, rfl⟩, h1, yk_tr (yk_sI yk_rf (by omega)) (yk_rc cM1)⟩
            · skip
              refine jx_of (fun _ _ kz => jw_aload_n 1 d_Y_nextTask_109 rfl rfl kz) ?_
              refine jx_of (fun _ _ kz => jw_getPe (some (4, w)) fl_Y_165 d_Y_nextTask_110 rfl rfl (by simp [me_I_sI, me_I_sP, me_I_nx, me_P_sI, me_P_sP, me_P_nx, me_N_sI, me_N_sP, me_N_nx, me_L_sI, me_L_sP, me_L_nx, show me_P M 3 w 1 = some (4, w) from yw hY hw]) kz) ?_
              refine jx_callV (y_R_takeFirst (d + 1) w ((yI_k hY (by omega)).1.2.2 w (by omega))) mt_R_takeFirst cf_R rfl rfl ml_Y_231 im_R_takeFirst se_R_takeFirst d_Y_nextTask_113 rfl rfl (Nat.le_of_ble_eq_true rfl) ?_
              rintro _ M1 ⟨⟨v1, rfl⟩, rM1, cM1⟩
              have h1 := yI_rc (yI_k hY (by omega)) cM1 rM1
              refine jx_eq (st2 := [.inl v1]) rfl rfl rfl ?_
              refine jx_iret d_Y_nextTask_116 rfl ?_
              exact ⟨⟨_, rfl⟩, h1, yk_tr (yk_sI yk_rf (by omega)) (yk_rc cM1)⟩
          · skip
            refine jx_of (fun _ _ kz => jw_iload_n 3 d_Y_nextTask_67 rfl rfl kz) ?_
            refine jx_if_eq 90 d_Y_nextTask_68 (by decide) (fun _ => ?_) (fun h => absurd h (by decide))
            refine jx_of (fun _ _ kz => jw_aload_n 1 d_Y_nextTask_90 rfl rfl kz) ?_
            refine jx_of (fun _ _ kz => jw_iconst 0 d_Y_nextTask_91 (by decide) kz) ?_
            refine jx_of (fun _ _ kz => jw_putI fl_Y_172 (Or.inl rfl) rfl rfl d_Y_nextTask_92 rfl rfl kz) ?_
            refine jx_of (fun _ _ kz => jw_iload_n 2 d_Y_nextTask_95 rfl rfl kz) ?_
            refine jx_if_ne 117 d_Y_nextTask_96 (by decide) (fun h => absurd h (by decide)) (fun _ => ?_)
            refine jx_of (fun _ _ kz => jw_aload_n 1 d_Y_nextTask_99 rfl rfl kz) ?_
            refine jx_of (fun _ _ kz => jw_getPe (some (4, w)) fl_Y_165 d_Y_nextTask_100 rfl rfl (by simp [me_I_sI, me_I_sP, me_I_nx, me_P_sI, me_P_sP, me_P_nx, me_N_sI, me_N_sP, me_N_nx, me_L_sI, me_L_sP, me_L_nx, show me_P M 3 w 1 = some (4, w) from yw hY hw]) kz) ?_
            refine jx_callV (y_R_isEmpty (d + 2) w ((yI_k hY (by omega)).1.2.2 w (by omega))) mt_R_isEmpty cf_R rfl rfl ml_Y_198 im_R_isEmpty se_R_isEmpty d_Y_nextTask_103 rfl rfl (Nat.le_of_ble_eq_true rfl) ?_
            rintro r _ ⟨hr, rfl⟩
            obtain ⟨re, rfl⟩ : ∃ v : Int32, r = some (.inl v) := by rcases hr with hr | hr; exact ⟨_, hr⟩; exact ⟨_, hr⟩
            refine jx_eq (st2 := [.inl re]) rfl rfl rfl ?_
            refine jx_if_ne 117 d_Y_nextTask_106 (by decide) (fun b_106 => ?_) (fun b_106 => ?_)
            · skip
              refine jx_of (fun _ _ kz => jw_aload_n 0 d_Y_nextTask_117 rfl rfl kz) ?_
              refine jx_of (fun _ _ kz => jw_getPe (some (4, 3)) fl_Y_45 d_Y_nextTask_118 rfl rfl (by simp [me_I_sI, me_I_sP, me_I_nx, me_P_sI, me_P_sP, me_P_nx, me_N_sI, me_N_sP, me_N_nx, me_L_sI, me_L_sP, me_L_nx, show me_P M 0 0 6 = some (4, 3) from hY.1.1 (0, 0, 6, 4, 3) (by decide)]) kz) ?_
              refine jx_callV (y_R_isEmpty (d + 2) 3 ((yI_k hY (by omega)).1.2.2 3 (by omega))) mt_R_isEmpty cf_R rfl rfl ml_Y_198 im_R_isEmpty se_R_isEmpty d_Y_nextTask_121 rfl rfl (Nat.le_of_ble_eq_true rfl) ?_
              rintro r _ ⟨hr, rfl⟩
              obtain ⟨rf, rfl⟩ : ∃ v : Int32, r = some (.inl v) := by rcases hr with hr | hr; exact ⟨_, hr⟩; exact ⟨_, hr⟩
              refine jx_eq (st2 := [.inl rf]) rfl rfl rfl ?_
              refine jx_if_eq 135 d_Y_nextTask_124 (by decide) (fun b_124 => ?_) (fun b_124 => ?_)
              · skip
                refine jx_of (fun _ _ kz => jw_aload_n 0 d_Y_nextTask_135 rfl rfl kz) ?_
                refine jx_of (fun _ _ kz => jw_getPe (some (4, 3)) fl_Y_45 d_Y_nextTask_136 rfl rfl (by simp [me_I_sI, me_I_sP, me_I_nx, me_P_sI, me_P_sP, me_P_nx, me_N_sI, me_N_sP, me_N_nx, me_L_sI, me_L_sP, me_L_nx, show me_P M 0 0 6 = some (4, 3) from hY.1.1 (0, 0, 6, 4, 3) (by decide)]) kz) ?_
                refine jx_callV (y_R_takeFirst (d + 1) 3 ((yI_k hY (by omega)).1.2.2 3 (by omega))) mt_R_takeFirst cf_R rfl rfl ml_Y_231 im_R_takeFirst se_R_takeFirst d_Y_nextTask_139 rfl rfl (Nat.le_of_ble_eq_true rfl) ?_
                rintro _ M1 ⟨⟨v1, rfl⟩, rM1, cM1⟩
                have h1 := yI_rc (yI_k hY (by omega)) cM1 rM1
                refine jx_eq (st2 := [.inl v1]) rfl rfl rfl ?_
                refine jx_iret d_Y_nextTask_142 rfl ?_
                first | exact ⟨⟨_, rfl⟩, h1, yk_tr (yk_sI yk_rf (by omega)) k1⟩ | exact ⟨⟨_, rfl⟩, h1, yk_tr (yk_sI yk_rf (by omega)) (yk_rc cM1)⟩
              · skip
                refine jx_of (fun _ _ kz => jw_aload_n 0 d_Y_nextTask_127 rfl rfl kz) ?_
                refine jx_of (fun _ _ kz => jw_aload_n 1 d_Y_nextTask_128 rfl rfl kz) ?_
                refine jx_callV (y_Y_steal d w np nt (yI_k hY (by omega))  hw) mt_Y_steal cf_Y rfl rfl ml_Y_254 im_Y_steal se_Y_steal d_Y_nextTask_129 rfl rfl (Nat.le_of_ble_eq_true rfl) ?_
                rintro _ M1 ⟨⟨v1, rfl⟩, h1, k1⟩
                refine jx_eq (st2 := [.inl v1]) rfl rfl rfl ?_
                refine jx_of (fun _ _ kz => jw_goto 142 d_Y_nextTask_132 (by decide) kz) ?_
                refine jx_iret d_Y_nextTask_142 rfl ?_
                first | exact ⟨⟨_, rfl⟩, h1, yk_tr (yk_sI yk_rf (by omega)) k1⟩ | exact ⟨⟨_, rfl⟩, h1, yk_tr (yk_sI yk_rf (by omega)) (yk_rc cM1)⟩
            · skip
              refine jx_of (fun _ _ kz => jw_aload_n 1 d_Y_nextTask_109 rfl rfl kz) ?_
              refine jx_of (fun _ _ kz => jw_getPe (some (4, w)) fl_Y_165 d_Y_nextTask_110 rfl rfl (by simp [me_I_sI, me_I_sP, me_I_nx, me_P_sI, me_P_sP, me_P_nx, me_N_sI, me_N_sP, me_N_nx, me_L_sI, me_L_sP, me_L_nx, show me_P M 3 w 1 = some (4, w) from yw hY hw]) kz) ?_
              refine jx_callV (y_R_takeFirst (d + 1) w ((yI_k hY (by omega)).1.2.2 w (by omega))) mt_R_takeFirst cf_R rfl rfl ml_Y_231 im_R_takeFirst se_R_takeFirst d_Y_nextTask_113 rfl rfl (Nat.le_of_ble_eq_true rfl) ?_
              rintro _ M1 ⟨⟨v1, rfl⟩, rM1, cM1⟩
              have h1 := yI_rc (yI_k hY (by omega)) cM1 rM1
              refine jx_eq (st2 := [.inl v1]) rfl rfl rfl ?_
              refine jx_iret d_Y_nextTask_116 rfl ?_
              exact ⟨⟨_, rfl⟩, h1, yk_tr (yk_sI yk_rf (by omega)) (yk_rc cM1)⟩
        · skip
          refine jx_of (fun _ _ kz => jw_iconst 1 d_Y_nextTask_53 (by decide) kz) ?_
          refine jx_of (fun _ _ kz => jw_goto 58 d_Y_nextTask_54 (by decide) kz) ?_
          refine jx_of (fun _ _ kz => jw_istore_n 3 d_Y_nextTask_58 rfl (Nat.le_of_ble_eq_true rfl) kz) ?_
          dsimp only [List.set]
          refine jx_of (fun _ _ kz => jw_aload_n 1 d_Y_nextTask_59 rfl rfl kz) ?_
          refine jx_of (fun _ _ kz => jw_getIe (me_I M 3 w 2) fl_Y_159 d_Y_nextTask_60 rfl rfl rfl kz) ?_
          refine jx_of (fun _ _ kz => jw_iconst (-1) d_Y_nextTask_63 (by decide) kz) ?_
          refine jx_icmp_eq 90 d_Y_nextTask_64 (by decide) (fun b_64 => ?_) (fun b_64 => ?_)
          · skip
            refine jx_of (fun _ _ kz => jw_aload_n 1 d_Y_nextTask_90 rfl rfl kz) ?_
            refine jx_of (fun _ _ kz => jw_iconst 0 d_Y_nextTask_91 (by decide) kz) ?_
            refine jx_of (fun _ _ kz => jw_putI fl_Y_172 (Or.inl rfl) rfl rfl d_Y_nextTask_92 rfl rfl kz) ?_
            refine jx_of (fun _ _ kz => jw_iload_n 2 d_Y_nextTask_95 rfl rfl kz) ?_
            refine jx_if_ne 117 d_Y_nextTask_96 (by decide) (fun h => absurd h (by decide)) (fun _ => ?_)
            refine jx_of (fun _ _ kz => jw_aload_n 1 d_Y_nextTask_99 rfl rfl kz) ?_
            refine jx_of (fun _ _ kz => jw_getPe (some (4, w)) fl_Y_165 d_Y_nextTask_100 rfl rfl (by simp [me_I_sI, me_I_sP, me_I_nx, me_P_sI, me_P_sP, me_P_nx, me_N_sI, me_N_sP, me_N_nx, me_L_sI, me_L_sP, me_L_nx, show me_P M 3 w 1 = some (4, w) from yw hY hw]) kz) ?_
            refine jx_callV (y_R_isEmpty (d + 2) w ((yI_k hY (by omega)).1.2.2 w (by omega))) mt_R_isEmpty cf_R rfl rfl ml_Y_198 im_R_isEmpty se_R_isEmpty d_Y_nextTask_103 rfl rfl (Nat.le_of_ble_eq_true rfl) ?_
            rintro r _ ⟨hr, rfl⟩
            obtain ⟨re, rfl⟩ : ∃ v : Int32, r = some (.inl v) := by rcases hr with hr | hr; exact ⟨_, hr⟩; exact ⟨_, hr⟩
            refine jx_eq (st2 := [.inl re]) rfl rfl rfl ?_
            refine jx_if_ne 117 d_Y_nextTask_106 (by decide) (fun b_106 => ?_) (fun b_106 => ?_)
            · skip
              refine jx_of (fun _ _ kz => jw_aload_n 0 d_Y_nextTask_117 rfl rfl kz) ?_
              refine jx_of (fun _ _ kz => jw_getPe (some (4, 3)) fl_Y_45 d_Y_nextTask_118 rfl rfl (by simp [me_I_sI, me_I_sP, me_I_nx, me_P_sI, me_P_sP, me_P_nx, me_N_sI, me_N_sP, me_N_nx, me_L_sI, me_L_sP, me_L_nx, show me_P M 0 0 6 = some (4, 3) from hY.1.1 (0, 0, 6, 4, 3) (by decide)]) kz) ?_
              refine jx_callV (y_R_isEmpty (d + 2) 3 ((yI_k hY (by omega)).1.2.2 3 (by omega))) mt_R_isEmpty cf_R rfl rfl ml_Y_198 im_R_isEmpty se_R_isEmpty d_Y_nextTask_121 rfl rfl (Nat.le_of_ble_eq_true rfl) ?_
              rintro r _ ⟨hr, rfl⟩
              obtain ⟨rf, rfl⟩ : ∃ v : Int32, r = some (.inl v) := by rcases hr with hr | hr; exact ⟨_, hr⟩; exact ⟨_, hr⟩
              refine jx_eq (st2 := [.inl rf]) rfl rfl rfl ?_
              refine jx_if_eq 135 d_Y_nextTask_124 (by decide) (fun b_124 => ?_) (fun b_124 => ?_)
              · skip
                refine jx_of (fun _ _ kz => jw_aload_n 0 d_Y_nextTask_135 rfl rfl kz) ?_
                refine jx_of (fun _ _ kz => jw_getPe (some (4, 3)) fl_Y_45 d_Y_nextTask_136 rfl rfl (by simp [me_I_sI, me_I_sP, me_I_nx, me_P_sI, me_P_sP, me_P_nx, me_N_sI, me_N_sP, me_N_nx, me_L_sI, me_L_sP, me_L_nx, show me_P M 0 0 6 = some (4, 3) from hY.1.1 (0, 0, 6, 4, 3) (by decide)]) kz) ?_
                refine jx_callV (y_R_takeFirst (d + 1) 3 ((yI_k hY (by omega)).1.2.2 3 (by omega))) mt_R_takeFirst cf_R rfl rfl ml_Y_231 im_R_takeFirst se_R_takeFirst d_Y_nextTask_139 rfl rfl (Nat.le_of_ble_eq_true rfl) ?_
                rintro _ M1 ⟨⟨v1, rfl⟩, rM1, cM1⟩
                have h1 := yI_rc (yI_k hY (by omega)) cM1 rM1
                refine jx_eq (st2 := [.inl v1]) rfl rfl rfl ?_
                refine jx_iret d_Y_nextTask_142 rfl ?_
                first | exact ⟨⟨_, rfl⟩, h1, yk_tr (yk_sI yk_rf (by omega)) k1⟩ | exact ⟨⟨_, rfl⟩, h1, yk_tr (yk_sI yk_rf (by omega)) (yk_rc cM1)⟩
              · skip
                refine jx_of (fun _ _ kz => jw_aload_n 0 d_Y_nextTask_127 rfl rfl kz) ?_
                refine jx_of (fun _ _ kz => jw_aload_n 1 d_Y_nextTask_128 rfl rfl kz) ?_
                refine jx_callV (y_Y_steal d w np nt (yI_k hY (by omega))  hw) mt_Y_steal cf_Y rfl rfl ml_Y_254 im_Y_steal se_Y_steal d_Y_nextTask_129 rfl rfl (Nat.le_of_ble_eq_true rfl) ?_
                rintro _ M1 ⟨⟨v1, rfl⟩, h1, k1⟩
                refine jx_eq (st2 := [.inl v1]) rfl rfl rfl ?_
                refine jx_of (fun _ _ kz => jw_goto 142 d_Y_nextTask_132 (by decide) kz) ?_
                refine jx_iret d_Y_nextTask_142 rfl ?_
                first | exact ⟨⟨_, rfl⟩, h1, yk_tr (yk_sI yk_rf (by omega)) k1⟩ | exact ⟨⟨_, rfl⟩, h1, yk_tr (yk_sI yk_rf (by omega)) (yk_rc cM1)⟩
            · skip
              refine jx_of (fun _ _ kz => jw_aload_n 1 d_Y_nextTask_109 rfl rfl kz) ?_
              refine jx_of (fun _ _ kz => jw_getPe (some (4, w)) fl_Y_165 d_Y_nextTask_110 rfl rfl (by simp [me_I_sI, me_I_sP, me_I_nx, me_P_sI, me_P_sP, me_P_nx, me_N_sI, me_N_sP, me_N_nx, me_L_sI, me_L_sP, me_L_nx, show me_P M 3 w 1 = some (4, w) from yw hY hw]) kz) ?_
              refine jx_callV (y_R_takeFirst (d + 1) w ((yI_k hY (by omega)).1.2.2 w (by omega))) mt_R_takeFirst cf_R rfl rfl ml_Y_231 im_R_takeFirst se_R_takeFirst d_Y_nextTask_113 rfl rfl (Nat.le_of_ble_eq_true rfl) ?_
              rintro _ M1 ⟨⟨v1, rfl⟩, rM1, cM1⟩
              have h1 := yI_rc (yI_k hY (by omega)) cM1 rM1
              refine jx_eq (st2 := [.inl v1]) rfl rfl rfl ?_
              refine jx_iret d_Y_nextTask_116 rfl ?_
              exact ⟨⟨_, rfl⟩, h1, yk_tr (yk_sI yk_rf (by omega)) (yk_rc cM1)⟩
          · skip
            refine jx_of (fun _ _ kz => jw_iload_n 3 d_Y_nextTask_67 rfl rfl kz) ?_
            refine jx_if_eq 90 d_Y_nextTask_68 (by decide) (fun h => absurd h (by decide)) (fun _ => ?_)
            refine jx_of (fun _ _ kz => jw_iload_n 2 d_Y_nextTask_71 rfl rfl kz) ?_
            refine jx_if_ne 90 d_Y_nextTask_72 (by decide) (fun h => absurd h (by decide)) (fun _ => ?_)
            refine jx_of (fun _ _ kz => jw_aload_n 1 d_Y_nextTask_75 rfl rfl kz) ?_
            refine jx_of (fun _ _ kz => jw_dup d_Y_nextTask_76 kz) ?_
            refine jx_of (fun _ _ kz => jw_getIe (me_I M 3 w 4) fl_Y_172 d_Y_nextTask_77 rfl rfl rfl kz) ?_
            refine jx_of (fun _ _ kz => jw_iconst 1 d_Y_nextTask_80 (by decide) kz) ?_
            refine jx_of (fun _ _ kz => jw_iadd d_Y_nextTask_81 kz) ?_
            refine jx_of (fun _ _ kz => jw_putI fl_Y_172 (Or.inl rfl) rfl rfl d_Y_nextTask_82 rfl rfl kz) ?_
            refine jx_of (fun _ _ kz => jw_aload_n 1 d_Y_nextTask_85 rfl rfl kz) ?_
            refine jx_callV (y_K_emptySlot (d + 2) w) mt_K_emptySlot cf_K rfl rfl ml_Y_251 im_K_emptySlot se_K_emptySlot d_Y_nextTask_86 rfl rfl (Nat.le_of_ble_eq_true rfl) ?_
            rintro _ _ ⟨⟨ve, rfl⟩, rfl⟩
            refine jx_eq (st2 := [.inl ve]) rfl rfl rfl ?_
            refine jx_iret d_Y_nextTask_89 rfl ?_
            exact ⟨⟨_, rfl⟩, yI_k (yI_k hY (by omega)) (by omega), yk_sI (yk_sI yk_rf (by omega)) (by omega)⟩
  · skip
    refine jx_of (fun _ _ kz => jw_aload_n 0 d_Y_nextTask_9 rfl rfl kz) ?_
    refine jx_of (fun _ _ kz => jw_getPe (some (4, 3)) fl_Y_45 d_Y_nextTask_10 rfl rfl (by simp [me_I_sI, me_I_sP, me_I_nx, me_P_sI, me_P_sP, me_P_nx, me_N_sI, me_N_sP, me_N_nx, me_L_sI, me_L_sP, me_L_nx, show me_P M 0 0 6 = some (4, 3) from hY.1.1 (0, 0, 6, 4, 3) (by decide)]) kz) ?_
    refine jx_callV (y_R_isEmpty (d + 2) 3 (hY.1.2.2 3 (by omega))) mt_R_isEmpty cf_R rfl rfl ml_Y_198 im_R_isEmpty se_R_isEmpty d_Y_nextTask_13 rfl rfl (Nat.le_of_ble_eq_true rfl) ?_
    rintro r _ ⟨hr, rfl⟩
    obtain ⟨ra, rfl⟩ : ∃ v : Int32, r = some (.inl v) := by rcases hr with hr | hr; exact ⟨_, hr⟩; exact ⟨_, hr⟩
    refine jx_eq (st2 := [.inl ra]) rfl rfl rfl ?_
    refine jx_if_ne 23 d_Y_nextTask_16 (by decide) (fun b_16 => ?_) (fun b_16 => ?_)
    · skip
      refine jx_of (fun _ _ kz => jw_iconst 0 d_Y_nextTask_23 (by decide) kz) ?_
      refine jx_of (fun _ _ kz => jw_istore_n 2 d_Y_nextTask_24 rfl (Nat.le_of_ble_eq_true rfl) kz) ?_
      dsimp only [List.set]
      refine jx_of (fun _ _ kz => jw_aload_n 1 d_Y_nextTask_25 rfl rfl kz) ?_
      refine jx_of (fun _ _ kz => jw_getIe (me_I M 3 w 4) fl_Y_172 d_Y_nextTask_26 rfl rfl rfl kz) ?_
      refine jx_of (fun _ _ kz => jw_iconst 2 d_Y_nextTask_29 (by decide) kz) ?_
      refine jx_icmp_lt 53 d_Y_nextTask_30 (by decide) (fun b_30 => ?_) (fun b_30 => ?_)
      · skip
        refine jx_of (fun _ _ kz => jw_iconst 1 d_Y_nextTask_53 (by decide) kz) ?_
        refine jx_of (fun _ _ kz => jw_goto 58 d_Y_nextTask_54 (by decide) kz) ?_
        refine jx_of (fun _ _ kz => jw_istore_n 3 d_Y_nextTask_58 rfl (Nat.le_of_ble_eq_true rfl) kz) ?_
        dsimp only [List.set]
        refine jx_of (fun _ _ kz => jw_aload_n 1 d_Y_nextTask_59 rfl rfl kz) ?_
        refine jx_of (fun _ _ kz => jw_getIe (me_I M 3 w 2) fl_Y_159 d_Y_nextTask_60 rfl rfl rfl kz) ?_
        refine jx_of (fun _ _ kz => jw_iconst (-1) d_Y_nextTask_63 (by decide) kz) ?_
        refine jx_icmp_eq 90 d_Y_nextTask_64 (by decide) (fun b_64 => ?_) (fun b_64 => ?_)
        · skip
          refine jx_of (fun _ _ kz => jw_aload_n 1 d_Y_nextTask_90 rfl rfl kz) ?_
          refine jx_of (fun _ _ kz => jw_iconst 0 d_Y_nextTask_91 (by decide) kz) ?_
          refine jx_of (fun _ _ kz => jw_putI fl_Y_172 (Or.inl rfl) rfl rfl d_Y_nextTask_92 rfl rfl kz) ?_
          refine jx_of (fun _ _ kz => jw_iload_n 2 d_Y_nextTask_95 rfl rfl kz) ?_
          refine jx_if_ne 117 d_Y_nextTask_96 (by decide) (fun h => absurd h (by decide)) (fun _ => ?_)
          refine jx_of (fun _ _ kz => jw_aload_n 1 d_Y_nextTask_99 rfl rfl kz) ?_
          refine jx_of (fun _ _ kz => jw_getPe (some (4, w)) fl_Y_165 d_Y_nextTask_100 rfl rfl (by simp [me_I_sI, me_I_sP, me_I_nx, me_P_sI, me_P_sP, me_P_nx, me_N_sI, me_N_sP, me_N_nx, me_L_sI, me_L_sP, me_L_nx, show me_P M 3 w 1 = some (4, w) from yw hY hw]) kz) ?_
          refine jx_callV (y_R_isEmpty (d + 2) w ((yI_k hY (by omega)).1.2.2 w (by omega))) mt_R_isEmpty cf_R rfl rfl ml_Y_198 im_R_isEmpty se_R_isEmpty d_Y_nextTask_103 rfl rfl (Nat.le_of_ble_eq_true rfl) ?_
          rintro r _ ⟨hr, rfl⟩
          obtain ⟨re, rfl⟩ : ∃ v : Int32, r = some (.inl v) := by rcases hr with hr | hr; exact ⟨_, hr⟩; exact ⟨_, hr⟩
          refine jx_eq (st2 := [.inl re]) rfl rfl rfl ?_
          refine jx_if_ne 117 d_Y_nextTask_106 (by decide) (fun b_106 => ?_) (fun b_106 => ?_)
          · skip
            refine jx_of (fun _ _ kz => jw_aload_n 0 d_Y_nextTask_117 rfl rfl kz) ?_
            refine jx_of (fun _ _ kz => jw_getPe (some (4, 3)) fl_Y_45 d_Y_nextTask_118 rfl rfl (by simp [me_I_sI, me_I_sP, me_I_nx, me_P_sI, me_P_sP, me_P_nx, me_N_sI, me_N_sP, me_N_nx, me_L_sI, me_L_sP, me_L_nx, show me_P M 0 0 6 = some (4, 3) from hY.1.1 (0, 0, 6, 4, 3) (by decide)]) kz) ?_
            refine jx_callV (y_R_isEmpty (d + 2) 3 ((yI_k hY (by omega)).1.2.2 3 (by omega))) mt_R_isEmpty cf_R rfl rfl ml_Y_198 im_R_isEmpty se_R_isEmpty d_Y_nextTask_121 rfl rfl (Nat.le_of_ble_eq_true rfl) ?_
            rintro r _ ⟨hr, rfl⟩
            obtain ⟨rf, rfl⟩ : ∃ v : Int32, r = some (.inl v) := by rcases hr with hr | hr; exact ⟨_, hr⟩; exact ⟨_, hr⟩
            refine jx_eq (st2 := [.inl rf]) rfl rfl rfl ?_
            refine jx_if_eq 135 d_Y_nextTask_124 (by decide) (fun b_124 => ?_) (fun b_124 => ?_)
            · skip
              refine jx_of (fun _ _ kz => jw_aload_n 0 d_Y_nextTask_135 rfl rfl kz) ?_
              refine jx_of (fun _ _ kz => jw_getPe (some (4, 3)) fl_Y_45 d_Y_nextTask_136 rfl rfl (by simp [me_I_sI, me_I_sP, me_I_nx, me_P_sI, me_P_sP, me_P_nx, me_N_sI, me_N_sP, me_N_nx, me_L_sI, me_L_sP, me_L_nx, show me_P M 0 0 6 = some (4, 3) from hY.1.1 (0, 0, 6, 4, 3) (by decide)]) kz) ?_
              refine jx_callV (y_R_takeFirst (d + 1) 3 ((yI_k hY (by omega)).1.2.2 3 (by omega))) mt_R_takeFirst cf_R rfl rfl ml_Y_231 im_R_takeFirst se_R_takeFirst d_Y_nextTask_139 rfl rfl (Nat.le_of_ble_eq_true rfl) ?_
              rintro _ M1 ⟨⟨v1, rfl⟩, rM1, cM1⟩
              have h1 := yI_rc (yI_k hY (by omega)) cM1 rM1
              refine jx_eq (st2 := [.inl v1]) rfl rfl rfl ?_
              refine jx_iret d_Y_nextTask_142 rfl ?_
              first | exact ⟨⟨_, rfl⟩, h1, yk_tr (yk_sI yk_rf (by omega)) k1⟩ | exact ⟨⟨_, rfl⟩, h1, yk_tr (yk_sI yk_rf (by omega)) (yk_rc cM1)⟩
            · skip
              refine jx_of (fun _ _ kz => jw_aload_n 0 d_Y_nextTask_127 rfl rfl kz) ?_
              refine jx_of (fun _ _ kz => jw_aload_n 1 d_Y_nextTask_128 rfl rfl kz) ?_
              refine jx_callV (y_Y_steal d w np nt (yI_k hY (by omega))  hw) mt_Y_steal cf_Y rfl rfl ml_Y_254 im_Y_steal se_Y_steal d_Y_nextTask_129 rfl rfl (Nat.le_of_ble_eq_true rfl) ?_
              rintro _ M1 ⟨⟨v1, rfl⟩, h1, k1⟩
              refine jx_eq (st2 := [.inl v1]) rfl rfl rfl ?_
              refine jx_of (fun _ _ kz => jw_goto 142 d_Y_nextTask_132 (by decide) kz) ?_
              refine jx_iret d_Y_nextTask_142 rfl ?_
              first | exact ⟨⟨_, rfl⟩, h1, yk_tr (yk_sI yk_rf (by omega)) k1⟩ | exact ⟨⟨_, rfl⟩, h1, yk_tr (yk_sI yk_rf (by omega)) (yk_rc cM1)⟩
          · skip
            refine jx_of (fun _ _ kz => jw_aload_n 1 d_Y_nextTask_109 rfl rfl kz) ?_
            refine jx_of (fun _ _ kz => jw_getPe (some (4, w)) fl_Y_165 d_Y_nextTask_110 rfl rfl (by simp [me_I_sI, me_I_sP, me_I_nx, me_P_sI, me_P_sP, me_P_nx, me_N_sI, me_N_sP, me_N_nx, me_L_sI, me_L_sP, me_L_nx, show me_P M 3 w 1 = some (4, w) from yw hY hw]) kz) ?_
            refine jx_callV (y_R_takeFirst (d + 1) w ((yI_k hY (by omega)).1.2.2 w (by omega))) mt_R_takeFirst cf_R rfl rfl ml_Y_231 im_R_takeFirst se_R_takeFirst d_Y_nextTask_113 rfl rfl (Nat.le_of_ble_eq_true rfl) ?_
            rintro _ M1 ⟨⟨v1, rfl⟩, rM1, cM1⟩
            have h1 := yI_rc (yI_k hY (by omega)) cM1 rM1
            refine jx_eq (st2 := [.inl v1]) rfl rfl rfl ?_
            refine jx_iret d_Y_nextTask_116 rfl ?_
            exact ⟨⟨_, rfl⟩, h1, yk_tr (yk_sI yk_rf (by omega)) (yk_rc cM1)⟩
        · skip
          refine jx_of (fun _ _ kz => jw_iload_n 3 d_Y_nextTask_67 rfl rfl kz) ?_
          refine jx_if_eq 90 d_Y_nextTask_68 (by decide) (fun h => absurd h (by decide)) (fun _ => ?_)
          refine jx_of (fun _ _ kz => jw_iload_n 2 d_Y_nextTask_71 rfl rfl kz) ?_
          refine jx_if_ne 90 d_Y_nextTask_72 (by decide) (fun h => absurd h (by decide)) (fun _ => ?_)
          refine jx_of (fun _ _ kz => jw_aload_n 1 d_Y_nextTask_75 rfl rfl kz) ?_
          refine jx_of (fun _ _ kz => jw_dup d_Y_nextTask_76 kz) ?_
          refine jx_of (fun _ _ kz => jw_getIe (me_I M 3 w 4) fl_Y_172 d_Y_nextTask_77 rfl rfl rfl kz) ?_
          refine jx_of (fun _ _ kz => jw_iconst 1 d_Y_nextTask_80 (by decide) kz) ?_
          refine jx_of (fun _ _ kz => jw_iadd d_Y_nextTask_81 kz) ?_
          refine jx_of (fun _ _ kz => jw_putI fl_Y_172 (Or.inl rfl) rfl rfl d_Y_nextTask_82 rfl rfl kz) ?_
          refine jx_of (fun _ _ kz => jw_aload_n 1 d_Y_nextTask_85 rfl rfl kz) ?_
          refine jx_callV (y_K_emptySlot (d + 2) w) mt_K_emptySlot cf_K rfl rfl ml_Y_251 im_K_emptySlot se_K_emptySlot d_Y_nextTask_86 rfl rfl (Nat.le_of_ble_eq_true rfl) ?_
          rintro _ _ ⟨⟨ve, rfl⟩, rfl⟩
          refine jx_eq (st2 := [.inl ve]) rfl rfl rfl ?_
          refine jx_iret d_Y_nextTask_89 rfl ?_
          exact ⟨⟨_, rfl⟩, yI_k (yI_k hY (by omega)) (by omega), yk_sI (yk_sI yk_rf (by omega)) (by omega)⟩
      · skip
        refine jx_of (fun _ _ kz => jw_aload_n 1 d_Y_nextTask_33 rfl rfl kz) ?_
        refine jx_of (fun _ _ kz => jw_getPe (some (4, w)) fl_Y_165 d_Y_nextTask_34 rfl rfl (by simp [me_I_sI, me_I_sP, me_I_nx, me_P_sI, me_P_sP, me_P_nx, me_N_sI, me_N_sP, me_N_nx, me_L_sI, me_L_sP, me_L_nx, show me_P M 3 w 1 = some (4, w) from yw hY hw]) kz) ?_
        refine jx_callV (y_R_isEmpty (d + 2) w (hY.1.2.2 w (by omega))) mt_R_isEmpty cf_R rfl rfl ml_Y_198 im_R_isEmpty se_R_isEmpty d_Y_nextTask_37 rfl rfl (Nat.le_of_ble_eq_true rfl) ?_
        rintro r _ ⟨hr, rfl⟩
        obtain ⟨rb, rfl⟩ : ∃ v : Int32, r = some (.inl v) := by rcases hr with hr | hr; exact ⟨_, hr⟩; exact ⟨_, hr⟩
        refine jx_eq (st2 := [.inl rb]) rfl rfl rfl ?_
        refine jx_if_eq 57 d_Y_nextTask_40 (by decide) (fun b_40 => ?_) (fun b_40 => ?_)
        · skip
          refine jx_of (fun _ _ kz => jw_iconst 0 d_Y_nextTask_57 (by decide) kz) ?_
          refine jx_of (fun _ _ kz => jw_istore_n 3 d_Y_nextTask_58 rfl (Nat.le_of_ble_eq_true rfl) kz) ?_
          dsimp only [List.set]
          refine jx_of (fun _ _ kz => jw_aload_n 1 d_Y_nextTask_59 rfl rfl kz) ?_
          refine jx_of (fun _ _ kz => jw_getIe (me_I M 3 w 2) fl_Y_159 d_Y_nextTask_60 rfl rfl rfl kz) ?_
          refine jx_of (fun _ _ kz => jw_iconst (-1) d_Y_nextTask_63 (by decide) kz) ?_
          refine jx_icmp_eq 90 d_Y_nextTask_64 (by decide) (fun b_64 => ?_) (fun b_64 => ?_)
          · skip
            refine jx_of (fun _ _ kz => jw_aload_n 1 d_Y_nextTask_90 rfl rfl kz) ?_
            refine jx_of (fun _ _ kz => jw_iconst 0 d_Y_nextTask_91 (by decide) kz) ?_
            refine jx_of (fun _ _ kz => jw_putI fl_Y_172 (Or.inl rfl) rfl rfl d_Y_nextTask_92 rfl rfl kz) ?_
            refine jx_of (fun _ _ kz => jw_iload_n 2 d_Y_nextTask_95 rfl rfl kz) ?_
            refine jx_if_ne 117 d_Y_nextTask_96 (by decide) (fun h => absurd h (by decide)) (fun _ => ?_)
            refine jx_of (fun _ _ kz => jw_aload_n 1 d_Y_nextTask_99 rfl rfl kz) ?_
            refine jx_of (fun _ _ kz => jw_getPe (some (4, w)) fl_Y_165 d_Y_nextTask_100 rfl rfl (by simp [me_I_sI, me_I_sP, me_I_nx, me_P_sI, me_P_sP, me_P_nx, me_N_sI, me_N_sP, me_N_nx, me_L_sI, me_L_sP, me_L_nx, show me_P M 3 w 1 = some (4, w) from yw hY hw]) kz) ?_
            refine jx_callV (y_R_isEmpty (d + 2) w ((yI_k hY (by omega)).1.2.2 w (by omega))) mt_R_isEmpty cf_R rfl rfl ml_Y_198 im_R_isEmpty se_R_isEmpty d_Y_nextTask_103 rfl rfl (Nat.le_of_ble_eq_true rfl) ?_
            rintro r _ ⟨hr, rfl⟩
            obtain ⟨re, rfl⟩ : ∃ v : Int32, r = some (.inl v) := by rcases hr with hr | hr; exact ⟨_, hr⟩; exact ⟨_, hr⟩
            refine jx_eq (st2 := [.inl re]) rfl rfl rfl ?_
            refine jx_if_ne 117 d_Y_nextTask_106 (by decide) (fun b_106 => ?_) (fun b_106 => ?_)
            · skip
              refine jx_of (fun _ _ kz => jw_aload_n 0 d_Y_nextTask_117 rfl rfl kz) ?_
              refine jx_of (fun _ _ kz => jw_getPe (some (4, 3)) fl_Y_45 d_Y_nextTask_118 rfl rfl (by simp [me_I_sI, me_I_sP, me_I_nx, me_P_sI, me_P_sP, me_P_nx, me_N_sI, me_N_sP, me_N_nx, me_L_sI, me_L_sP, me_L_nx, show me_P M 0 0 6 = some (4, 3) from hY.1.1 (0, 0, 6, 4, 3) (by decide)]) kz) ?_
              refine jx_callV (y_R_isEmpty (d + 2) 3 ((yI_k hY (by omega)).1.2.2 3 (by omega))) mt_R_isEmpty cf_R rfl rfl ml_Y_198 im_R_isEmpty se_R_isEmpty d_Y_nextTask_121 rfl rfl (Nat.le_of_ble_eq_true rfl) ?_
              rintro r _ ⟨hr, rfl⟩
              obtain ⟨rf, rfl⟩ : ∃ v : Int32, r = some (.inl v) := by rcases hr with hr | hr; exact ⟨_, hr⟩; exact ⟨_, hr⟩
              refine jx_eq (st2 := [.inl rf]) rfl rfl rfl ?_
              refine jx_if_eq 135 d_Y_nextTask_124 (by decide) (fun b_124 => ?_) (fun b_124 => ?_)
              · skip
                refine jx_of (fun _ _ kz => jw_aload_n 0 d_Y_nextTask_135 rfl rfl kz) ?_
                refine jx_of (fun _ _ kz => jw_getPe (some (4, 3)) fl_Y_45 d_Y_nextTask_136 rfl rfl (by simp [me_I_sI, me_I_sP, me_I_nx, me_P_sI, me_P_sP, me_P_nx, me_N_sI, me_N_sP, me_N_nx, me_L_sI, me_L_sP, me_L_nx, show me_P M 0 0 6 = some (4, 3) from hY.1.1 (0, 0, 6, 4, 3) (by decide)]) kz) ?_
                refine jx_callV (y_R_takeFirst (d + 1) 3 ((yI_k hY (by omega)).1.2.2 3 (by omega))) mt_R_takeFirst cf_R rfl rfl ml_Y_231 im_R_takeFirst se_R_takeFirst d_Y_nextTask_139 rfl rfl (Nat.le_of_ble_eq_true rfl) ?_
                rintro _ M1 ⟨⟨v1, rfl⟩, rM1, cM1⟩
                have h1 := yI_rc (yI_k hY (by omega)) cM1 rM1
                refine jx_eq (st2 := [.inl v1]) rfl rfl rfl ?_
                refine jx_iret d_Y_nextTask_142 rfl ?_
                first | exact ⟨⟨_, rfl⟩, h1, yk_tr (yk_sI yk_rf (by omega)) k1⟩ | exact ⟨⟨_, rfl⟩, h1, yk_tr (yk_sI yk_rf (by omega)) (yk_rc cM1)⟩
              · skip
                refine jx_of (fun _ _ kz => jw_aload_n 0 d_Y_nextTask_127 rfl rfl kz) ?_
                refine jx_of (fun _ _ kz => jw_aload_n 1 d_Y_nextTask_128 rfl rfl kz) ?_
                refine jx_callV (y_Y_steal d w np nt (yI_k hY (by omega))  hw) mt_Y_steal cf_Y rfl rfl ml_Y_254 im_Y_steal se_Y_steal d_Y_nextTask_129 rfl rfl (Nat.le_of_ble_eq_true rfl) ?_
                rintro _ M1 ⟨⟨v1, rfl⟩, h1, k1⟩
                refine jx_eq (st2 := [.inl v1]) rfl rfl rfl ?_
                refine jx_of (fun _ _ kz => jw_goto 142 d_Y_nextTask_132 (by decide) kz) ?_
                refine jx_iret d_Y_nextTask_142 rfl ?_
                first | exact ⟨⟨_, rfl⟩, h1, yk_tr (yk_sI yk_rf (by omega)) k1⟩ | exact ⟨⟨_, rfl⟩, h1, yk_tr (yk_sI yk_rf (by omega)) (yk_rc cM1)⟩
            · skip
              refine jx_of (fun _ _ kz => jw_aload_n 1 d_Y_nextTask_109 rfl rfl kz) ?_
              refine jx_of (fun _ _ kz => jw_getPe (some (4, w)) fl_Y_165 d_Y_nextTask_110 rfl rfl (by simp [me_I_sI, me_I_sP, me_I_nx, me_P_sI, me_P_sP, me_P_nx, me_N_sI, me_N_sP, me_N_nx, me_L_sI, me_L_sP, me_L_nx, show me_P M 3 w 1 = some (4, w) from yw hY hw]) kz) ?_
              refine jx_callV (y_R_takeFirst (d + 1) w ((yI_k hY (by omega)).1.2.2 w (by omega))) mt_R_takeFirst cf_R rfl rfl ml_Y_231 im_R_takeFirst se_R_takeFirst d_Y_nextTask_113 rfl rfl (Nat.le_of_ble_eq_true rfl) ?_
              rintro _ M1 ⟨⟨v1, rfl⟩, rM1, cM1⟩
              have h1 := yI_rc (yI_k hY (by omega)) cM1 rM1
              refine jx_eq (st2 := [.inl v1]) rfl rfl rfl ?_
              refine jx_iret d_Y_nextTask_116 rfl ?_
              exact ⟨⟨_, rfl⟩, h1, yk_tr (yk_sI yk_rf (by omega)) (yk_rc cM1)⟩
          · skip
            refine jx_of (fun _ _ kz => jw_iload_n 3 d_Y_nextTask_67 rfl rfl kz) ?_
            refine jx_if_eq 90 d_Y_nextTask_68 (by decide) (fun _ => ?_) (fun h => absurd h (by decide))
            refine jx_of (fun _ _ kz => jw_aload_n 1 d_Y_nextTask_90 rfl rfl kz) ?_
            refine jx_of (fun _ _ kz => jw_iconst 0 d_Y_nextTask_91 (by decide) kz) ?_
            refine jx_of (fun _ _ kz => jw_putI fl_Y_172 (Or.inl rfl) rfl rfl d_Y_nextTask_92 rfl rfl kz) ?_
            refine jx_of (fun _ _ kz => jw_iload_n 2 d_Y_nextTask_95 rfl rfl kz) ?_
            refine jx_if_ne 117 d_Y_nextTask_96 (by decide) (fun h => absurd h (by decide)) (fun _ => ?_)
            refine jx_of (fun _ _ kz => jw_aload_n 1 d_Y_nextTask_99 rfl rfl kz) ?_
            refine jx_of (fun _ _ kz => jw_getPe (some (4, w)) fl_Y_165 d_Y_nextTask_100 rfl rfl (by simp [me_I_sI, me_I_sP, me_I_nx, me_P_sI, me_P_sP, me_P_nx, me_N_sI, me_N_sP, me_N_nx, me_L_sI, me_L_sP, me_L_nx, show me_P M 3 w 1 = some (4, w) from yw hY hw]) kz) ?_
            refine jx_callV (y_R_isEmpty (d + 2) w ((yI_k hY (by omega)).1.2.2 w (by omega))) mt_R_isEmpty cf_R rfl rfl ml_Y_198 im_R_isEmpty se_R_isEmpty d_Y_nextTask_103 rfl rfl (Nat.le_of_ble_eq_true rfl) ?_
            rintro r _ ⟨hr, rfl⟩
            obtain ⟨re, rfl⟩ : ∃ v : Int32, r = some (.inl v) := by rcases hr with hr | hr; exact ⟨_, hr⟩; exact ⟨_, hr⟩
            refine jx_eq (st2 := [.inl re]) rfl rfl rfl ?_
            refine jx_if_ne 117 d_Y_nextTask_106 (by decide) (fun b_106 => ?_) (fun b_106 => ?_)
            · skip
              refine jx_of (fun _ _ kz => jw_aload_n 0 d_Y_nextTask_117 rfl rfl kz) ?_
              refine jx_of (fun _ _ kz => jw_getPe (some (4, 3)) fl_Y_45 d_Y_nextTask_118 rfl rfl (by simp [me_I_sI, me_I_sP, me_I_nx, me_P_sI, me_P_sP, me_P_nx, me_N_sI, me_N_sP, me_N_nx, me_L_sI, me_L_sP, me_L_nx, show me_P M 0 0 6 = some (4, 3) from hY.1.1 (0, 0, 6, 4, 3) (by decide)]) kz) ?_
              refine jx_callV (y_R_isEmpty (d + 2) 3 ((yI_k hY (by omega)).1.2.2 3 (by omega))) mt_R_isEmpty cf_R rfl rfl ml_Y_198 im_R_isEmpty se_R_isEmpty d_Y_nextTask_121 rfl rfl (Nat.le_of_ble_eq_true rfl) ?_
              rintro r _ ⟨hr, rfl⟩
              obtain ⟨rf, rfl⟩ : ∃ v : Int32, r = some (.inl v) := by rcases hr with hr | hr; exact ⟨_, hr⟩; exact ⟨_, hr⟩
              refine jx_eq (st2 := [.inl rf]) rfl rfl rfl ?_
              refine jx_if_eq 135 d_Y_nextTask_124 (by decide) (fun b_124 => ?_) (fun b_124 => ?_)
              · skip
                refine jx_of (fun _ _ kz => jw_aload_n 0 d_Y_nextTask_135 rfl rfl kz) ?_
                refine jx_of (fun _ _ kz => jw_getPe (some (4, 3)) fl_Y_45 d_Y_nextTask_136 rfl rfl (by simp [me_I_sI, me_I_sP, me_I_nx, me_P_sI, me_P_sP, me_P_nx, me_N_sI, me_N_sP, me_N_nx, me_L_sI, me_L_sP, me_L_nx, show me_P M 0 0 6 = some (4, 3) from hY.1.1 (0, 0, 6, 4, 3) (by decide)]) kz) ?_
                refine jx_callV (y_R_takeFirst (d + 1) 3 ((yI_k hY (by omega)).1.2.2 3 (by omega))) mt_R_takeFirst cf_R rfl rfl ml_Y_231 im_R_takeFirst se_R_takeFirst d_Y_nextTask_139 rfl rfl (Nat.le_of_ble_eq_true rfl) ?_
                rintro _ M1 ⟨⟨v1, rfl⟩, rM1, cM1⟩
                have h1 := yI_rc (yI_k hY (by omega)) cM1 rM1
                refine jx_eq (st2 := [.inl v1]) rfl rfl rfl ?_
                refine jx_iret d_Y_nextTask_142 rfl ?_
                first | exact ⟨⟨_, rfl⟩, h1, yk_tr (yk_sI yk_rf (by omega)) k1⟩ | exact ⟨⟨_, rfl⟩, h1, yk_tr (yk_sI yk_rf (by omega)) (yk_rc cM1)⟩
              · skip
                refine jx_of (fun _ _ kz => jw_aload_n 0 d_Y_nextTask_127 rfl rfl kz) ?_
                refine jx_of (fun _ _ kz => jw_aload_n 1 d_Y_nextTask_128 rfl rfl kz) ?_
                refine jx_callV (y_Y_steal d w np nt (yI_k hY (by omega))  hw) mt_Y_steal cf_Y rfl rfl ml_Y_254 im_Y_steal se_Y_steal d_Y_nextTask_129 rfl rfl (Nat.le_of_ble_eq_true rfl) ?_
                rintro _ M1 ⟨⟨v1, rfl⟩, h1, k1⟩
                refine jx_eq (st2 := [.inl v1]) rfl rfl rfl ?_
                refine jx_of (fun _ _ kz => jw_goto 142 d_Y_nextTask_132 (by decide) kz) ?_
                refine jx_iret d_Y_nextTask_142 rfl ?_
                first | exact ⟨⟨_, rfl⟩, h1, yk_tr (yk_sI yk_rf (by omega)) k1⟩ | exact ⟨⟨_, rfl⟩, h1, yk_tr (yk_sI yk_rf (by omega)) (yk_rc cM1)⟩
            · skip
              refine jx_of (fun _ _ kz => jw_aload_n 1 d_Y_nextTask_109 rfl rfl kz) ?_
              refine jx_of (fun _ _ kz => jw_getPe (some (4, w)) fl_Y_165 d_Y_nextTask_110 rfl rfl (by simp [me_I_sI, me_I_sP, me_I_nx, me_P_sI, me_P_sP, me_P_nx, me_N_sI, me_N_sP, me_N_nx, me_L_sI, me_L_sP, me_L_nx, show me_P M 3 w 1 = some (4, w) from yw hY hw]) kz) ?_
              refine jx_callV (y_R_takeFirst (d + 1) w ((yI_k hY (by omega)).1.2.2 w (by omega))) mt_R_takeFirst cf_R rfl rfl ml_Y_231 im_R_takeFirst se_R_takeFirst d_Y_nextTask_113 rfl rfl (Nat.le_of_ble_eq_true rfl) ?_
              rintro _ M1 ⟨⟨v1, rfl⟩, rM1, cM1⟩
              have h1 := yI_rc (yI_k hY (by omega)) cM1 rM1
              refine jx_eq (st2 := [.inl v1]) rfl rfl rfl ?_
              refine jx_iret d_Y_nextTask_116 rfl ?_
              exact ⟨⟨_, rfl⟩, h1, yk_tr (yk_sI yk_rf (by omega)) (yk_rc cM1)⟩
        · skip
          refine jx_of (fun _ _ kz => jw_aload_n 0 d_Y_nextTask_43 rfl rfl kz) ?_
          refine jx_of (fun _ _ kz => jw_getPe (some (4, 3)) fl_Y_45 d_Y_nextTask_44 rfl rfl (by simp [me_I_sI, me_I_sP, me_I_nx, me_P_sI, me_P_sP, me_P_nx, me_N_sI, me_N_sP, me_N_nx, me_L_sI, me_L_sP, me_L_nx, show me_P M 0 0 6 = some (4, 3) from hY.1.1 (0, 0, 6, 4, 3) (by decide)]) kz) ?_
          refine jx_callV (y_R_isEmpty (d + 2) 3 (hY.1.2.2 3 (by omega))) mt_R_isEmpty cf_R rfl rfl ml_Y_198 im_R_isEmpty se_R_isEmpty d_Y_nextTask_47 rfl rfl (Nat.le_of_ble_eq_true rfl) ?_
          rintro r _ ⟨hr, rfl⟩
          obtain ⟨rd, rfl⟩ : ∃ v : Int32, r = some (.inl v) := by rcases hr with hr | hr; exact ⟨_, hr⟩; exact ⟨_, hr⟩
          refine jx_eq (st2 := [.inl rd]) rfl rfl rfl ?_
          refine jx_if_eq 57 d_Y_nextTask_50 (by decide) (fun b_50 => ?_) (fun b_50 => ?_)
          · skip
            refine jx_of (fun _ _ kz => jw_iconst 0 d_Y_nextTask_57 (by decide) kz) ?_
            refine jx_of (fun _ _ kz => jw_istore_n 3 d_Y_nextTask_58 rfl (Nat.le_of_ble_eq_true rfl) kz) ?_
            dsimp only [List.set]
            refine jx_of (fun _ _ kz => jw_aload_n 1 d_Y_nextTask_59 rfl rfl kz) ?_
            refine jx_of (fun _ _ kz => jw_getIe (me_I M 3 w 2) fl_Y_159 d_Y_nextTask_60 rfl rfl rfl kz) ?_
            refine jx_of (fun _ _ kz => jw_iconst (-1) d_Y_nextTask_63 (by decide) kz) ?_
            refine jx_icmp_eq 90 d_Y_nextTask_64 (by decide) (fun b_64 => ?_) (fun b_64 => ?_)
            · skip
              refine jx_of (fun _ _ kz => jw_aload_n 1 d_Y_nextTask_90 rfl rfl kz) ?_
              refine jx_of (fun _ _ kz => jw_iconst 0 d_Y_nextTask_91 (by decide) kz) ?_
              refine jx_of (fun _ _ kz => jw_putI fl_Y_172 (Or.inl rfl) rfl rfl d_Y_nextTask_92 rfl rfl kz) ?_
              refine jx_of (fun _ _ kz => jw_iload_n 2 d_Y_nextTask_95 rfl rfl kz) ?_
              refine jx_if_ne 117 d_Y_nextTask_96 (by decide) (fun h => absurd h (by decide)) (fun _ => ?_)
              refine jx_of (fun _ _ kz => jw_aload_n 1 d_Y_nextTask_99 rfl rfl kz) ?_
              refine jx_of (fun _ _ kz => jw_getPe (some (4, w)) fl_Y_165 d_Y_nextTask_100 rfl rfl (by simp [me_I_sI, me_I_sP, me_I_nx, me_P_sI, me_P_sP, me_P_nx, me_N_sI, me_N_sP, me_N_nx, me_L_sI, me_L_sP, me_L_nx, show me_P M 3 w 1 = some (4, w) from yw hY hw]) kz) ?_
              refine jx_callV (y_R_isEmpty (d + 2) w ((yI_k hY (by omega)).1.2.2 w (by omega))) mt_R_isEmpty cf_R rfl rfl ml_Y_198 im_R_isEmpty se_R_isEmpty d_Y_nextTask_103 rfl rfl (Nat.le_of_ble_eq_true rfl) ?_
              rintro r _ ⟨hr, rfl⟩
              obtain ⟨re, rfl⟩ : ∃ v : Int32, r = some (.inl v) := by rcases hr with hr | hr; exact ⟨_, hr⟩; exact ⟨_, hr⟩
              refine jx_eq (st2 := [.inl re]) rfl rfl rfl ?_
              refine jx_if_ne 117 d_Y_nextTask_106 (by decide) (fun b_106 => ?_) (fun b_106 => ?_)
              · skip
                refine jx_of (fun _ _ kz => jw_aload_n 0 d_Y_nextTask_117 rfl rfl kz) ?_
                refine jx_of (fun _ _ kz => jw_getPe (some (4, 3)) fl_Y_45 d_Y_nextTask_118 rfl rfl (by simp [me_I_sI, me_I_sP, me_I_nx, me_P_sI, me_P_sP, me_P_nx, me_N_sI, me_N_sP, me_N_nx, me_L_sI, me_L_sP, me_L_nx, show me_P M 0 0 6 = some (4, 3) from hY.1.1 (0, 0, 6, 4, 3) (by decide)]) kz) ?_
                refine jx_callV (y_R_isEmpty (d + 2) 3 ((yI_k hY (by omega)).1.2.2 3 (by omega))) mt_R_isEmpty cf_R rfl rfl ml_Y_198 im_R_isEmpty se_R_isEmpty d_Y_nextTask_121 rfl rfl (Nat.le_of_ble_eq_true rfl) ?_
                rintro r _ ⟨hr, rfl⟩
                obtain ⟨rf, rfl⟩ : ∃ v : Int32, r = some (.inl v) := by rcases hr with hr | hr; exact ⟨_, hr⟩; exact ⟨_, hr⟩
                refine jx_eq (st2 := [.inl rf]) rfl rfl rfl ?_
                refine jx_if_eq 135 d_Y_nextTask_124 (by decide) (fun b_124 => ?_) (fun b_124 => ?_)
                · skip
                  refine jx_of (fun _ _ kz => jw_aload_n 0 d_Y_nextTask_135 rfl rfl kz) ?_
                  refine jx_of (fun _ _ kz => jw_getPe (some (4, 3)) fl_Y_45 d_Y_nextTask_136 rfl rfl (by simp [me_I_sI, me_I_sP, me_I_nx, me_P_sI, me_P_sP, me_P_nx, me_N_sI, me_N_sP, me_N_nx, me_L_sI, me_L_sP, me_L_nx, show me_P M 0 0 6 = some (4, 3) from hY.1.1 (0, 0, 6, 4, 3) (by decide)]) kz) ?_
                  refine jx_callV (y_R_takeFirst (d + 1) 3 ((yI_k hY (by omega)).1.2.2 3 (by omega))) mt_R_takeFirst cf_R rfl rfl ml_Y_231 im_R_takeFirst se_R_takeFirst d_Y_nextTask_139 rfl rfl (Nat.le_of_ble_eq_true rfl) ?_
                  rintro _ M1 ⟨⟨v1, rfl⟩, rM1, cM1⟩
                  have h1 := yI_rc (yI_k hY (by omega)) cM1 rM1
                  refine jx_eq (st2 := [.inl v1]) rfl rfl rfl ?_
                  refine jx_iret d_Y_nextTask_142 rfl ?_
                  first | exact ⟨⟨_, rfl⟩, h1, yk_tr (yk_sI yk_rf (by omega)) k1⟩ | exact ⟨⟨_, rfl⟩, h1, yk_tr (yk_sI yk_rf (by omega)) (yk_rc cM1)⟩
                · skip
                  refine jx_of (fun _ _ kz => jw_aload_n 0 d_Y_nextTask_127 rfl rfl kz) ?_
                  refine jx_of (fun _ _ kz => jw_aload_n 1 d_Y_nextTask_128 rfl rfl kz) ?_
                  refine jx_callV (y_Y_steal d w np nt (yI_k hY (by omega))  hw) mt_Y_steal cf_Y rfl rfl ml_Y_254 im_Y_steal se_Y_steal d_Y_nextTask_129 rfl rfl (Nat.le_of_ble_eq_true rfl) ?_
                  rintro _ M1 ⟨⟨v1, rfl⟩, h1, k1⟩
                  refine jx_eq (st2 := [.inl v1]) rfl rfl rfl ?_
                  refine jx_of (fun _ _ kz => jw_goto 142 d_Y_nextTask_132 (by decide) kz) ?_
                  refine jx_iret d_Y_nextTask_142 rfl ?_
                  first | exact ⟨⟨_, rfl⟩, h1, yk_tr (yk_sI yk_rf (by omega)) k1⟩ | exact ⟨⟨_, rfl⟩, h1, yk_tr (yk_sI yk_rf (by omega)) (yk_rc cM1)⟩
              · skip
                refine jx_of (fun _ _ kz => jw_aload_n 1 d_Y_nextTask_109 rfl rfl kz) ?_
                refine jx_of (fun _ _ kz => jw_getPe (some (4, w)) fl_Y_165 d_Y_nextTask_110 rfl rfl (by simp [me_I_sI, me_I_sP, me_I_nx, me_P_sI, me_P_sP, me_P_nx, me_N_sI, me_N_sP, me_N_nx, me_L_sI, me_L_sP, me_L_nx, show me_P M 3 w 1 = some (4, w) from yw hY hw]) kz) ?_
                refine jx_callV (y_R_takeFirst (d + 1) w ((yI_k hY (by omega)).1.2.2 w (by omega))) mt_R_takeFirst cf_R rfl rfl ml_Y_231 im_R_takeFirst se_R_takeFirst d_Y_nextTask_113 rfl rfl (Nat.le_of_ble_eq_true rfl) ?_
                rintro _ M1 ⟨⟨v1, rfl⟩, rM1, cM1⟩
                have h1 := yI_rc (yI_k hY (by omega)) cM1 rM1
                refine jx_eq (st2 := [.inl v1]) rfl rfl rfl ?_
                refine jx_iret d_Y_nextTask_116 rfl ?_
                exact ⟨⟨_, rfl⟩, h1, yk_tr (yk_sI yk_rf (by omega)) (yk_rc cM1)⟩
            · skip
              refine jx_of (fun _ _ kz => jw_iload_n 3 d_Y_nextTask_67 rfl rfl kz) ?_
              refine jx_if_eq 90 d_Y_nextTask_68 (by decide) (fun _ => ?_) (fun h => absurd h (by decide))
              refine jx_of (fun _ _ kz => jw_aload_n 1 d_Y_nextTask_90 rfl rfl kz) ?_
              refine jx_of (fun _ _ kz => jw_iconst 0 d_Y_nextTask_91 (by decide) kz) ?_
              refine jx_of (fun _ _ kz => jw_putI fl_Y_172 (Or.inl rfl) rfl rfl d_Y_nextTask_92 rfl rfl kz) ?_
              refine jx_of (fun _ _ kz => jw_iload_n 2 d_Y_nextTask_95 rfl rfl kz) ?_
              refine jx_if_ne 117 d_Y_nextTask_96 (by decide) (fun h => absurd h (by decide)) (fun _ => ?_)
              refine jx_of (fun _ _ kz => jw_aload_n 1 d_Y_nextTask_99 rfl rfl kz) ?_
              refine jx_of (fun _ _ kz => jw_getPe (some (4, w)) fl_Y_165 d_Y_nextTask_100 rfl rfl (by simp [me_I_sI, me_I_sP, me_I_nx, me_P_sI, me_P_sP, me_P_nx, me_N_sI, me_N_sP, me_N_nx, me_L_sI, me_L_sP, me_L_nx, show me_P M 3 w 1 = some (4, w) from yw hY hw]) kz) ?_
              refine jx_callV (y_R_isEmpty (d + 2) w ((yI_k hY (by omega)).1.2.2 w (by omega))) mt_R_isEmpty cf_R rfl rfl ml_Y_198 im_R_isEmpty se_R_isEmpty d_Y_nextTask_103 rfl rfl (Nat.le_of_ble_eq_true rfl) ?_
              rintro r _ ⟨hr, rfl⟩
              obtain ⟨re, rfl⟩ : ∃ v : Int32, r = some (.inl v) := by rcases hr with hr | hr; exact ⟨_, hr⟩; exact ⟨_, hr⟩
              refine jx_eq (st2 := [.inl re]) rfl rfl rfl ?_
              refine jx_if_ne 117 d_Y_nextTask_106 (by decide) (fun b_106 => ?_) (fun b_106 => ?_)
              · skip
                refine jx_of (fun _ _ kz => jw_aload_n 0 d_Y_nextTask_117 rfl rfl kz) ?_
                refine jx_of (fun _ _ kz => jw_getPe (some (4, 3)) fl_Y_45 d_Y_nextTask_118 rfl rfl (by simp [me_I_sI, me_I_sP, me_I_nx, me_P_sI, me_P_sP, me_P_nx, me_N_sI, me_N_sP, me_N_nx, me_L_sI, me_L_sP, me_L_nx, show me_P M 0 0 6 = some (4, 3) from hY.1.1 (0, 0, 6, 4, 3) (by decide)]) kz) ?_
                refine jx_callV (y_R_isEmpty (d + 2) 3 ((yI_k hY (by omega)).1.2.2 3 (by omega))) mt_R_isEmpty cf_R rfl rfl ml_Y_198 im_R_isEmpty se_R_isEmpty d_Y_nextTask_121 rfl rfl (Nat.le_of_ble_eq_true rfl) ?_
                rintro r _ ⟨hr, rfl⟩
                obtain ⟨rf, rfl⟩ : ∃ v : Int32, r = some (.inl v) := by rcases hr with hr | hr; exact ⟨_, hr⟩; exact ⟨_, hr⟩
                refine jx_eq (st2 := [.inl rf]) rfl rfl rfl ?_
                refine jx_if_eq 135 d_Y_nextTask_124 (by decide) (fun b_124 => ?_) (fun b_124 => ?_)
                · skip
                  refine jx_of (fun _ _ kz => jw_aload_n 0 d_Y_nextTask_135 rfl rfl kz) ?_
                  refine jx_of (fun _ _ kz => jw_getPe (some (4, 3)) fl_Y_45 d_Y_nextTask_136 rfl rfl (by simp [me_I_sI, me_I_sP, me_I_nx, me_P_sI, me_P_sP, me_P_nx, me_N_sI, me_N_sP, me_N_nx, me_L_sI, me_L_sP, me_L_nx, show me_P M 0 0 6 = some (4, 3) from hY.1.1 (0, 0, 6, 4, 3) (by decide)]) kz) ?_
                  refine jx_callV (y_R_takeFirst (d + 1) 3 ((yI_k hY (by omega)).1.2.2 3 (by omega))) mt_R_takeFirst cf_R rfl rfl ml_Y_231 im_R_takeFirst se_R_takeFirst d_Y_nextTask_139 rfl rfl (Nat.le_of_ble_eq_true rfl) ?_
                  rintro _ M1 ⟨⟨v1, rfl⟩, rM1, cM1⟩
                  have h1 := yI_rc (yI_k hY (by omega)) cM1 rM1
                  refine jx_eq (st2 := [.inl v1]) rfl rfl rfl ?_
                  refine jx_iret d_Y_nextTask_142 rfl ?_
                  first | exact ⟨⟨_, rfl⟩, h1, yk_tr (yk_sI yk_rf (by omega)) k1⟩ | exact ⟨⟨_, rfl⟩, h1, yk_tr (yk_sI yk_rf (by omega)) (yk_rc cM1)⟩
                · skip
                  refine jx_of (fun _ _ kz => jw_aload_n 0 d_Y_nextTask_127 rfl rfl kz) ?_
                  refine jx_of (fun _ _ kz => jw_aload_n 1 d_Y_nextTask_128 rfl rfl kz) ?_
                  refine jx_callV (y_Y_steal d w np nt (yI_k hY (by omega))  hw) mt_Y_steal cf_Y rfl rfl ml_Y_254 im_Y_steal se_Y_steal d_Y_nextTask_129 rfl rfl (Nat.le_of_ble_eq_true rfl) ?_
                  rintro _ M1 ⟨⟨v1, rfl⟩, h1, k1⟩
                  refine jx_eq (st2 := [.inl v1]) rfl rfl rfl ?_
                  refine jx_of (fun _ _ kz => jw_goto 142 d_Y_nextTask_132 (by decide) kz) ?_
                  refine jx_iret d_Y_nextTask_142 rfl ?_
                  first | exact ⟨⟨_, rfl⟩, h1, yk_tr (yk_sI yk_rf (by omega)) k1⟩ | exact ⟨⟨_, rfl⟩, h1, yk_tr (yk_sI yk_rf (by omega)) (yk_rc cM1)⟩
              · skip
                refine jx_of (fun _ _ kz => jw_aload_n 1 d_Y_nextTask_109 rfl rfl kz) ?_
                refine jx_of (fun _ _ kz => jw_getPe (some (4, w)) fl_Y_165 d_Y_nextTask_110 rfl rfl (by simp [me_I_sI, me_I_sP, me_I_nx, me_P_sI, me_P_sP, me_P_nx, me_N_sI, me_N_sP, me_N_nx, me_L_sI, me_L_sP, me_L_nx, show me_P M 3 w 1 = some (4, w) from yw hY hw]) kz) ?_
                refine jx_callV (y_R_takeFirst (d + 1) w ((yI_k hY (by omega)).1.2.2 w (by omega))) mt_R_takeFirst cf_R rfl rfl ml_Y_231 im_R_takeFirst se_R_takeFirst d_Y_nextTask_113 rfl rfl (Nat.le_of_ble_eq_true rfl) ?_
                rintro _ M1 ⟨⟨v1, rfl⟩, rM1, cM1⟩
                have h1 := yI_rc (yI_k hY (by omega)) cM1 rM1
                refine jx_eq (st2 := [.inl v1]) rfl rfl rfl ?_
                refine jx_iret d_Y_nextTask_116 rfl ?_
                exact ⟨⟨_, rfl⟩, h1, yk_tr (yk_sI yk_rf (by omega)) (yk_rc cM1)⟩
          · skip
            refine jx_of (fun _ _ kz => jw_iconst 1 d_Y_nextTask_53 (by decide) kz) ?_
            refine jx_of (fun _ _ kz => jw_goto 58 d_Y_nextTask_54 (by decide) kz) ?_
            refine jx_of (fun _ _ kz => jw_istore_n 3 d_Y_nextTask_58 rfl (Nat.le_of_ble_eq_true rfl) kz) ?_
            dsimp only [List.set]
            refine jx_of (fun _ _ kz => jw_aload_n 1 d_Y_nextTask_59 rfl rfl kz) ?_
            refine jx_of (fun _ _ kz => jw_getIe (me_I M 3 w 2) fl_Y_159 d_Y_nextTask_60 rfl rfl rfl kz) ?_
            refine jx_of (fun _ _ kz => jw_iconst (-1) d_Y_nextTask_63 (by decide) kz) ?_
            refine jx_icmp_eq 90 d_Y_nextTask_64 (by decide) (fun b_64 => ?_) (fun b_64 => ?_)
            · skip
              refine jx_of (fun _ _ kz => jw_aload_n 1 d_Y_nextTask_90 rfl rfl kz) ?_
              refine jx_of (fun _ _ kz => jw_iconst 0 d_Y_nextTask_91 (by decide) kz) ?_
              refine jx_of (fun _ _ kz => jw_putI fl_Y_172 (Or.inl rfl) rfl rfl d_Y_nextTask_92 rfl rfl kz) ?_
              refine jx_of (fun _ _ kz => jw_iload_n 2 d_Y_nextTask_95 rfl rfl kz) ?_
              refine jx_if_ne 117 d_Y_nextTask_96 (by decide) (fun h => absurd h (by decide)) (fun _ => ?_)
              refine jx_of (fun _ _ kz => jw_aload_n 1 d_Y_nextTask_99 rfl rfl kz) ?_
              refine jx_of (fun _ _ kz => jw_getPe (some (4, w)) fl_Y_165 d_Y_nextTask_100 rfl rfl (by simp [me_I_sI, me_I_sP, me_I_nx, me_P_sI, me_P_sP, me_P_nx, me_N_sI, me_N_sP, me_N_nx, me_L_sI, me_L_sP, me_L_nx, show me_P M 3 w 1 = some (4, w) from yw hY hw]) kz) ?_
              refine jx_callV (y_R_isEmpty (d + 2) w ((yI_k hY (by omega)).1.2.2 w (by omega))) mt_R_isEmpty cf_R rfl rfl ml_Y_198 im_R_isEmpty se_R_isEmpty d_Y_nextTask_103 rfl rfl (Nat.le_of_ble_eq_true rfl) ?_
              rintro r _ ⟨hr, rfl⟩
              obtain ⟨re, rfl⟩ : ∃ v : Int32, r = some (.inl v) := by rcases hr with hr | hr; exact ⟨_, hr⟩; exact ⟨_, hr⟩
              refine jx_eq (st2 := [.inl re]) rfl rfl rfl ?_
              refine jx_if_ne 117 d_Y_nextTask_106 (by decide) (fun b_106 => ?_) (fun b_106 => ?_)
              · skip
                refine jx_of (fun _ _ kz => jw_aload_n 0 d_Y_nextTask_117 rfl rfl kz) ?_
                refine jx_of (fun _ _ kz => jw_getPe (some (4, 3)) fl_Y_45 d_Y_nextTask_118 rfl rfl (by simp [me_I_sI, me_I_sP, me_I_nx, me_P_sI, me_P_sP, me_P_nx, me_N_sI, me_N_sP, me_N_nx, me_L_sI, me_L_sP, me_L_nx, show me_P M 0 0 6 = some (4, 3) from hY.1.1 (0, 0, 6, 4, 3) (by decide)]) kz) ?_
                refine jx_callV (y_R_isEmpty (d + 2) 3 ((yI_k hY (by omega)).1.2.2 3 (by omega))) mt_R_isEmpty cf_R rfl rfl ml_Y_198 im_R_isEmpty se_R_isEmpty d_Y_nextTask_121 rfl rfl (Nat.le_of_ble_eq_true rfl) ?_
                rintro r _ ⟨hr, rfl⟩
                obtain ⟨rf, rfl⟩ : ∃ v : Int32, r = some (.inl v) := by rcases hr with hr | hr; exact ⟨_, hr⟩; exact ⟨_, hr⟩
                refine jx_eq (st2 := [.inl rf]) rfl rfl rfl ?_
                refine jx_if_eq 135 d_Y_nextTask_124 (by decide) (fun b_124 => ?_) (fun b_124 => ?_)
                · skip
                  refine jx_of (fun _ _ kz => jw_aload_n 0 d_Y_nextTask_135 rfl rfl kz) ?_
                  refine jx_of (fun _ _ kz => jw_getPe (some (4, 3)) fl_Y_45 d_Y_nextTask_136 rfl rfl (by simp [me_I_sI, me_I_sP, me_I_nx, me_P_sI, me_P_sP, me_P_nx, me_N_sI, me_N_sP, me_N_nx, me_L_sI, me_L_sP, me_L_nx, show me_P M 0 0 6 = some (4, 3) from hY.1.1 (0, 0, 6, 4, 3) (by decide)]) kz) ?_
                  refine jx_callV (y_R_takeFirst (d + 1) 3 ((yI_k hY (by omega)).1.2.2 3 (by omega))) mt_R_takeFirst cf_R rfl rfl ml_Y_231 im_R_takeFirst se_R_takeFirst d_Y_nextTask_139 rfl rfl (Nat.le_of_ble_eq_true rfl) ?_
                  rintro _ M1 ⟨⟨v1, rfl⟩, rM1, cM1⟩
                  have h1 := yI_rc (yI_k hY (by omega)) cM1 rM1
                  refine jx_eq (st2 := [.inl v1]) rfl rfl rfl ?_
                  refine jx_iret d_Y_nextTask_142 rfl ?_
                  first | exact ⟨⟨_, rfl⟩, h1, yk_tr (yk_sI yk_rf (by omega)) k1⟩ | exact ⟨⟨_, rfl⟩, h1, yk_tr (yk_sI yk_rf (by omega)) (yk_rc cM1)⟩
                · skip
                  refine jx_of (fun _ _ kz => jw_aload_n 0 d_Y_nextTask_127 rfl rfl kz) ?_
                  refine jx_of (fun _ _ kz => jw_aload_n 1 d_Y_nextTask_128 rfl rfl kz) ?_
                  refine jx_callV (y_Y_steal d w np nt (yI_k hY (by omega))  hw) mt_Y_steal cf_Y rfl rfl ml_Y_254 im_Y_steal se_Y_steal d_Y_nextTask_129 rfl rfl (Nat.le_of_ble_eq_true rfl) ?_
                  rintro _ M1 ⟨⟨v1, rfl⟩, h1, k1⟩
                  refine jx_eq (st2 := [.inl v1]) rfl rfl rfl ?_
                  refine jx_of (fun _ _ kz => jw_goto 142 d_Y_nextTask_132 (by decide) kz) ?_
                  refine jx_iret d_Y_nextTask_142 rfl ?_
                  first | exact ⟨⟨_, rfl⟩, h1, yk_tr (yk_sI yk_rf (by omega)) k1⟩ | exact ⟨⟨_, rfl⟩, h1, yk_tr (yk_sI yk_rf (by omega)) (yk_rc cM1)⟩
              · skip
                refine jx_of (fun _ _ kz => jw_aload_n 1 d_Y_nextTask_109 rfl rfl kz) ?_
                refine jx_of (fun _ _ kz => jw_getPe (some (4, w)) fl_Y_165 d_Y_nextTask_110 rfl rfl (by simp [me_I_sI, me_I_sP, me_I_nx, me_P_sI, me_P_sP, me_P_nx, me_N_sI, me_N_sP, me_N_nx, me_L_sI, me_L_sP, me_L_nx, show me_P M 3 w 1 = some (4, w) from yw hY hw]) kz) ?_
                refine jx_callV (y_R_takeFirst (d + 1) w ((yI_k hY (by omega)).1.2.2 w (by omega))) mt_R_takeFirst cf_R rfl rfl ml_Y_231 im_R_takeFirst se_R_takeFirst d_Y_nextTask_113 rfl rfl (Nat.le_of_ble_eq_true rfl) ?_
                rintro _ M1 ⟨⟨v1, rfl⟩, rM1, cM1⟩
                have h1 := yI_rc (yI_k hY (by omega)) cM1 rM1
                refine jx_eq (st2 := [.inl v1]) rfl rfl rfl ?_
                refine jx_iret d_Y_nextTask_116 rfl ?_
                exact ⟨⟨_, rfl⟩, h1, yk_tr (yk_sI yk_rf (by omega)) (yk_rc cM1)⟩
            · skip
              refine jx_of (fun _ _ kz => jw_iload_n 3 d_Y_nextTask_67 rfl rfl kz) ?_
              refine jx_if_eq 90 d_Y_nextTask_68 (by decide) (fun h => absurd h (by decide)) (fun _ => ?_)
              refine jx_of (fun _ _ kz => jw_iload_n 2 d_Y_nextTask_71 rfl rfl kz) ?_
              refine jx_if_ne 90 d_Y_nextTask_72 (by decide) (fun h => absurd h (by decide)) (fun _ => ?_)
              refine jx_of (fun _ _ kz => jw_aload_n 1 d_Y_nextTask_75 rfl rfl kz) ?_
              refine jx_of (fun _ _ kz => jw_dup d_Y_nextTask_76 kz) ?_
              refine jx_of (fun _ _ kz => jw_getIe (me_I M 3 w 4) fl_Y_172 d_Y_nextTask_77 rfl rfl rfl kz) ?_
              refine jx_of (fun _ _ kz => jw_iconst 1 d_Y_nextTask_80 (by decide) kz) ?_
              refine jx_of (fun _ _ kz => jw_iadd d_Y_nextTask_81 kz) ?_
              refine jx_of (fun _ _ kz => jw_putI fl_Y_172 (Or.inl rfl) rfl rfl d_Y_nextTask_82 rfl rfl kz) ?_
              refine jx_of (fun _ _ kz => jw_aload_n 1 d_Y_nextTask_85 rfl rfl kz) ?_
              refine jx_callV (y_K_emptySlot (d + 2) w) mt_K_emptySlot cf_K rfl rfl ml_Y_251 im_K_emptySlot se_K_emptySlot d_Y_nextTask_86 rfl rfl (Nat.le_of_ble_eq_true rfl) ?_
              rintro _ _ ⟨⟨ve, rfl⟩, rfl⟩
              refine jx_eq (st2 := [.inl ve]) rfl rfl rfl ?_
              refine jx_iret d_Y_nextTask_89 rfl ?_
              exact ⟨⟨_, rfl⟩, yI_k (yI_k hY (by omega)) (by omega), yk_sI (yk_sI yk_rf (by omega)) (by omega)⟩
    · skip
      refine jx_of (fun _ _ kz => jw_iconst 1 d_Y_nextTask_19 (by decide) kz) ?_
      refine jx_of (fun _ _ kz => jw_goto 24 d_Y_nextTask_20 (by decide) kz) ?_
      refine jx_of (fun _ _ kz => jw_istore_n 2 d_Y_nextTask_24 rfl (Nat.le_of_ble_eq_true rfl) kz) ?_
      dsimp only [List.set]
      refine jx_of (fun _ _ kz => jw_aload_n 1 d_Y_nextTask_25 rfl rfl kz) ?_
      refine jx_of (fun _ _ kz => jw_getIe (me_I M 3 w 4) fl_Y_172 d_Y_nextTask_26 rfl rfl rfl kz) ?_
      refine jx_of (fun _ _ kz => jw_iconst 2 d_Y_nextTask_29 (by decide) kz) ?_
      refine jx_icmp_lt 53 d_Y_nextTask_30 (by decide) (fun b_30 => ?_) (fun b_30 => ?_)
      · skip
        refine jx_of (fun _ _ kz => jw_iconst 1 d_Y_nextTask_53 (by decide) kz) ?_
        refine jx_of (fun _ _ kz => jw_goto 58 d_Y_nextTask_54 (by decide) kz) ?_
        refine jx_of (fun _ _ kz => jw_istore_n 3 d_Y_nextTask_58 rfl (Nat.le_of_ble_eq_true rfl) kz) ?_
        dsimp only [List.set]
        refine jx_of (fun _ _ kz => jw_aload_n 1 d_Y_nextTask_59 rfl rfl kz) ?_
        refine jx_of (fun _ _ kz => jw_getIe (me_I M 3 w 2) fl_Y_159 d_Y_nextTask_60 rfl rfl rfl kz) ?_
        refine jx_of (fun _ _ kz => jw_iconst (-1) d_Y_nextTask_63 (by decide) kz) ?_
        refine jx_icmp_eq 90 d_Y_nextTask_64 (by decide) (fun b_64 => ?_) (fun b_64 => ?_)
        · skip
          refine jx_of (fun _ _ kz => jw_aload_n 1 d_Y_nextTask_90 rfl rfl kz) ?_
          refine jx_of (fun _ _ kz => jw_iconst 0 d_Y_nextTask_91 (by decide) kz) ?_
          refine jx_of (fun _ _ kz => jw_putI fl_Y_172 (Or.inl rfl) rfl rfl d_Y_nextTask_92 rfl rfl kz) ?_
          refine jx_of (fun _ _ kz => jw_iload_n 2 d_Y_nextTask_95 rfl rfl kz) ?_
          refine jx_if_ne 117 d_Y_nextTask_96 (by decide) (fun _ => ?_) (fun h => absurd h (by decide))
          refine jx_of (fun _ _ kz => jw_aload_n 0 d_Y_nextTask_117 rfl rfl kz) ?_
          refine jx_of (fun _ _ kz => jw_getPe (some (4, 3)) fl_Y_45 d_Y_nextTask_118 rfl rfl (by simp [me_I_sI, me_I_sP, me_I_nx, me_P_sI, me_P_sP, me_P_nx, me_N_sI, me_N_sP, me_N_nx, me_L_sI, me_L_sP, me_L_nx, show me_P M 0 0 6 = some (4, 3) from hY.1.1 (0, 0, 6, 4, 3) (by decide)]) kz) ?_
          refine jx_callV (y_R_isEmpty (d + 2) 3 ((yI_k hY (by omega)).1.2.2 3 (by omega))) mt_R_isEmpty cf_R rfl rfl ml_Y_198 im_R_isEmpty se_R_isEmpty d_Y_nextTask_121 rfl rfl (Nat.le_of_ble_eq_true rfl) ?_
          rintro r _ ⟨hr, rfl⟩
          obtain ⟨rf, rfl⟩ : ∃ v : Int32, r = some (.inl v) := by rcases hr with hr | hr; exact ⟨_, hr⟩; exact ⟨_, hr⟩
          refine jx_eq (st2 := [.inl rf]) rfl rfl rfl ?_
          refine jx_if_eq 135 d_Y_nextTask_124 (by decide) (fun b_124 => ?_) (fun b_124 => ?_)
          · skip
            refine jx_of (fun _ _ kz => jw_aload_n 0 d_Y_nextTask_135 rfl rfl kz) ?_
            refine jx_of (fun _ _ kz => jw_getPe (some (4, 3)) fl_Y_45 d_Y_nextTask_136 rfl rfl (by simp [me_I_sI, me_I_sP, me_I_nx, me_P_sI, me_P_sP, me_P_nx, me_N_sI, me_N_sP, me_N_nx, me_L_sI, me_L_sP, me_L_nx, show me_P M 0 0 6 = some (4, 3) from hY.1.1 (0, 0, 6, 4, 3) (by decide)]) kz) ?_
            refine jx_callV (y_R_takeFirst (d + 1) 3 ((yI_k hY (by omega)).1.2.2 3 (by omega))) mt_R_takeFirst cf_R rfl rfl ml_Y_231 im_R_takeFirst se_R_takeFirst d_Y_nextTask_139 rfl rfl (Nat.le_of_ble_eq_true rfl) ?_
            rintro _ M1 ⟨⟨v1, rfl⟩, rM1, cM1⟩
            have h1 := yI_rc (yI_k hY (by omega)) cM1 rM1
            refine jx_eq (st2 := [.inl v1]) rfl rfl rfl ?_
            refine jx_iret d_Y_nextTask_142 rfl ?_
            first | exact ⟨⟨_, rfl⟩, h1, yk_tr (yk_sI yk_rf (by omega)) k1⟩ | exact ⟨⟨_, rfl⟩, h1, yk_tr (yk_sI yk_rf (by omega)) (yk_rc cM1)⟩
          · skip
            refine jx_of (fun _ _ kz => jw_aload_n 0 d_Y_nextTask_127 rfl rfl kz) ?_
            refine jx_of (fun _ _ kz => jw_aload_n 1 d_Y_nextTask_128 rfl rfl kz) ?_
            refine jx_callV (y_Y_steal d w np nt (yI_k hY (by omega))  hw) mt_Y_steal cf_Y rfl rfl ml_Y_254 im_Y_steal se_Y_steal d_Y_nextTask_129 rfl rfl (Nat.le_of_ble_eq_true rfl) ?_
            rintro _ M1 ⟨⟨v1, rfl⟩, h1, k1⟩
            refine jx_eq (st2 := [.inl v1]) rfl rfl rfl ?_
            refine jx_of (fun _ _ kz => jw_goto 142 d_Y_nextTask_132 (by decide) kz) ?_
            refine jx_iret d_Y_nextTask_142 rfl ?_
            first | exact ⟨⟨_, rfl⟩, h1, yk_tr (yk_sI yk_rf (by omega)) k1⟩ | exact ⟨⟨_, rfl⟩, h1, yk_tr (yk_sI yk_rf (by omega)) (yk_rc cM1)⟩
        · skip
          refine jx_of (fun _ _ kz => jw_iload_n 3 d_Y_nextTask_67 rfl rfl kz) ?_
          refine jx_if_eq 90 d_Y_nextTask_68 (by decide) (fun h => absurd h (by decide)) (fun _ => ?_)
          refine jx_of (fun _ _ kz => jw_iload_n 2 d_Y_nextTask_71 rfl rfl kz) ?_
          refine jx_if_ne 90 d_Y_nextTask_72 (by decide) (fun _ => ?_) (fun h => absurd h (by decide))
          refine jx_of (fun _ _ kz => jw_aload_n 1 d_Y_nextTask_90 rfl rfl kz) ?_
          refine jx_of (fun _ _ kz => jw_iconst 0 d_Y_nextTask_91 (by decide) kz) ?_
          refine jx_of (fun _ _ kz => jw_putI fl_Y_172 (Or.inl rfl) rfl rfl d_Y_nextTask_92 rfl rfl kz) ?_
          refine jx_of (fun _ _ kz => jw_iload_n 2 d_Y_nextTask_95 rfl rfl kz) ?_
          refine jx_if_ne 117 d_Y_nextTask_96 (by decide) (fun _ => ?_) (fun h => absurd h (by decide))
          refine jx_of (fun _ _ kz => jw_aload_n 0 d_Y_nextTask_117 rfl rfl kz) ?_
          refine jx_of (fun _ _ kz => jw_getPe (some (4, 3)) fl_Y_45 d_Y_nextTask_118 rfl rfl (by simp [me_I_sI, me_I_sP, me_I_nx, me_P_sI, me_P_sP, me_P_nx, me_N_sI, me_N_sP, me_N_nx, me_L_sI, me_L_sP, me_L_nx, show me_P M 0 0 6 = some (4, 3) from hY.1.1 (0, 0, 6, 4, 3) (by decide)]) kz) ?_
          refine jx_callV (y_R_isEmpty (d + 2) 3 ((yI_k hY (by omega)).1.2.2 3 (by omega))) mt_R_isEmpty cf_R rfl rfl ml_Y_198 im_R_isEmpty se_R_isEmpty d_Y_nextTask_121 rfl rfl (Nat.le_of_ble_eq_true rfl) ?_
          rintro r _ ⟨hr, rfl⟩
          obtain ⟨rf, rfl⟩ : ∃ v : Int32, r = some (.inl v) := by rcases hr with hr | hr; exact ⟨_, hr⟩; exact ⟨_, hr⟩
          refine jx_eq (st2 := [.inl rf]) rfl rfl rfl ?_
          refine jx_if_eq 135 d_Y_nextTask_124 (by decide) (fun b_124 => ?_) (fun b_124 => ?_)
          · skip
            refine jx_of (fun _ _ kz => jw_aload_n 0 d_Y_nextTask_135 rfl rfl kz) ?_
            refine jx_of (fun _ _ kz => jw_getPe (some (4, 3)) fl_Y_45 d_Y_nextTask_136 rfl rfl (by simp [me_I_sI, me_I_sP, me_I_nx, me_P_sI, me_P_sP, me_P_nx, me_N_sI, me_N_sP, me_N_nx, me_L_sI, me_L_sP, me_L_nx, show me_P M 0 0 6 = some (4, 3) from hY.1.1 (0, 0, 6, 4, 3) (by decide)]) kz) ?_
            refine jx_callV (y_R_takeFirst (d + 1) 3 ((yI_k hY (by omega)).1.2.2 3 (by omega))) mt_R_takeFirst cf_R rfl rfl ml_Y_231 im_R_takeFirst se_R_takeFirst d_Y_nextTask_139 rfl rfl (Nat.le_of_ble_eq_true rfl) ?_
            rintro _ M1 ⟨⟨v1, rfl⟩, rM1, cM1⟩
            have h1 := yI_rc (yI_k hY (by omega)) cM1 rM1
            refine jx_eq (st2 := [.inl v1]) rfl rfl rfl ?_
            refine jx_iret d_Y_nextTask_142 rfl ?_
            first | exact ⟨⟨_, rfl⟩, h1, yk_tr (yk_sI yk_rf (by omega)) k1⟩ | exact ⟨⟨_, rfl⟩, h1, yk_tr (yk_sI yk_rf (by omega)) (yk_rc cM1)⟩
          · skip
            refine jx_of (fun _ _ kz => jw_aload_n 0 d_Y_nextTask_127 rfl rfl kz) ?_
            refine jx_of (fun _ _ kz => jw_aload_n 1 d_Y_nextTask_128 rfl rfl kz) ?_
            refine jx_callV (y_Y_steal d w np nt (yI_k hY (by omega))  hw) mt_Y_steal cf_Y rfl rfl ml_Y_254 im_Y_steal se_Y_steal d_Y_nextTask_129 rfl rfl (Nat.le_of_ble_eq_true rfl) ?_
            rintro _ M1 ⟨⟨v1, rfl⟩, h1, k1⟩
            refine jx_eq (st2 := [.inl v1]) rfl rfl rfl ?_
            refine jx_of (fun _ _ kz => jw_goto 142 d_Y_nextTask_132 (by decide) kz) ?_
            refine jx_iret d_Y_nextTask_142 rfl ?_
            first | exact ⟨⟨_, rfl⟩, h1, yk_tr (yk_sI yk_rf (by omega)) k1⟩ | exact ⟨⟨_, rfl⟩, h1, yk_tr (yk_sI yk_rf (by omega)) (yk_rc cM1)⟩
      · skip
        refine jx_of (fun _ _ kz => jw_aload_n 1 d_Y_nextTask_33 rfl rfl kz) ?_
        refine jx_of (fun _ _ kz => jw_getPe (some (4, w)) fl_Y_165 d_Y_nextTask_34 rfl rfl (by simp [me_I_sI, me_I_sP, me_I_nx, me_P_sI, me_P_sP, me_P_nx, me_N_sI, me_N_sP, me_N_nx, me_L_sI, me_L_sP, me_L_nx, show me_P M 3 w 1 = some (4, w) from yw hY hw]) kz) ?_
        refine jx_callV (y_R_isEmpty (d + 2) w (hY.1.2.2 w (by omega))) mt_R_isEmpty cf_R rfl rfl ml_Y_198 im_R_isEmpty se_R_isEmpty d_Y_nextTask_37 rfl rfl (Nat.le_of_ble_eq_true rfl) ?_
        rintro r _ ⟨hr, rfl⟩
        obtain ⟨rb, rfl⟩ : ∃ v : Int32, r = some (.inl v) := by rcases hr with hr | hr; exact ⟨_, hr⟩; exact ⟨_, hr⟩
        refine jx_eq (st2 := [.inl rb]) rfl rfl rfl ?_
        refine jx_if_eq 57 d_Y_nextTask_40 (by decide) (fun b_40 => ?_) (fun b_40 => ?_)
        · skip
          refine jx_of (fun _ _ kz => jw_iconst 0 d_Y_nextTask_57 (by decide) kz) ?_
          refine jx_of (fun _ _ kz => jw_istore_n 3 d_Y_nextTask_58 rfl (Nat.le_of_ble_eq_true rfl) kz) ?_
          dsimp only [List.set]
          refine jx_of (fun _ _ kz => jw_aload_n 1 d_Y_nextTask_59 rfl rfl kz) ?_
          refine jx_of (fun _ _ kz => jw_getIe (me_I M 3 w 2) fl_Y_159 d_Y_nextTask_60 rfl rfl rfl kz) ?_
          refine jx_of (fun _ _ kz => jw_iconst (-1) d_Y_nextTask_63 (by decide) kz) ?_
          refine jx_icmp_eq 90 d_Y_nextTask_64 (by decide) (fun b_64 => ?_) (fun b_64 => ?_)
          · skip
            refine jx_of (fun _ _ kz => jw_aload_n 1 d_Y_nextTask_90 rfl rfl kz) ?_
            refine jx_of (fun _ _ kz => jw_iconst 0 d_Y_nextTask_91 (by decide) kz) ?_
            refine jx_of (fun _ _ kz => jw_putI fl_Y_172 (Or.inl rfl) rfl rfl d_Y_nextTask_92 rfl rfl kz) ?_
            refine jx_of (fun _ _ kz => jw_iload_n 2 d_Y_nextTask_95 rfl rfl kz) ?_
            refine jx_if_ne 117 d_Y_nextTask_96 (by decide) (fun _ => ?_) (fun h => absurd h (by decide))
            refine jx_of (fun _ _ kz => jw_aload_n 0 d_Y_nextTask_117 rfl rfl kz) ?_
            refine jx_of (fun _ _ kz => jw_getPe (some (4, 3)) fl_Y_45 d_Y_nextTask_118 rfl rfl (by simp [me_I_sI, me_I_sP, me_I_nx, me_P_sI, me_P_sP, me_P_nx, me_N_sI, me_N_sP, me_N_nx, me_L_sI, me_L_sP, me_L_nx, show me_P M 0 0 6 = some (4, 3) from hY.1.1 (0, 0, 6, 4, 3) (by decide)]) kz) ?_
            refine jx_callV (y_R_isEmpty (d + 2) 3 ((yI_k hY (by omega)).1.2.2 3 (by omega))) mt_R_isEmpty cf_R rfl rfl ml_Y_198 im_R_isEmpty se_R_isEmpty d_Y_nextTask_121 rfl rfl (Nat.le_of_ble_eq_true rfl) ?_
            rintro r _ ⟨hr, rfl⟩
            obtain ⟨rf, rfl⟩ : ∃ v : Int32, r = some (.inl v) := by rcases hr with hr | hr; exact ⟨_, hr⟩; exact ⟨_, hr⟩
            refine jx_eq (st2 := [.inl rf]) rfl rfl rfl ?_
            refine jx_if_eq 135 d_Y_nextTask_124 (by decide) (fun b_124 => ?_) (fun b_124 => ?_)
            · skip
              refine jx_of (fun _ _ kz => jw_aload_n 0 d_Y_nextTask_135 rfl rfl kz) ?_
              refine jx_of (fun _ _ kz => jw_getPe (some (4, 3)) fl_Y_45 d_Y_nextTask_136 rfl rfl (by simp [me_I_sI, me_I_sP, me_I_nx, me_P_sI, me_P_sP, me_P_nx, me_N_sI, me_N_sP, me_N_nx, me_L_sI, me_L_sP, me_L_nx, show me_P M 0 0 6 = some (4, 3) from hY.1.1 (0, 0, 6, 4, 3) (by decide)]) kz) ?_
              refine jx_callV (y_R_takeFirst (d + 1) 3 ((yI_k hY (by omega)).1.2.2 3 (by omega))) mt_R_takeFirst cf_R rfl rfl ml_Y_231 im_R_takeFirst se_R_takeFirst d_Y_nextTask_139 rfl rfl (Nat.le_of_ble_eq_true rfl) ?_
              rintro _ M1 ⟨⟨v1, rfl⟩, rM1, cM1⟩
              have h1 := yI_rc (yI_k hY (by omega)) cM1 rM1
              refine jx_eq (st2 := [.inl v1]) rfl rfl rfl ?_
              refine jx_iret d_Y_nextTask_142 rfl ?_
              first | exact ⟨⟨_, rfl⟩, h1, yk_tr (yk_sI yk_rf (by omega)) k1⟩ | exact ⟨⟨_, rfl⟩, h1, yk_tr (yk_sI yk_rf (by omega)) (yk_rc cM1)⟩
            · skip
              refine jx_of (fun _ _ kz => jw_aload_n 0 d_Y_nextTask_127 rfl rfl kz) ?_
              refine jx_of (fun _ _ kz => jw_aload_n 1 d_Y_nextTask_128 rfl rfl kz) ?_
              refine jx_callV (y_Y_steal d w np nt (yI_k hY (by omega))  hw) mt_Y_steal cf_Y rfl rfl ml_Y_254 im_Y_steal se_Y_steal d_Y_nextTask_129 rfl rfl (Nat.le_of_ble_eq_true rfl) ?_
              rintro _ M1 ⟨⟨v1, rfl⟩, h1, k1⟩
              refine jx_eq (st2 := [.inl v1]) rfl rfl rfl ?_
              refine jx_of (fun _ _ kz => jw_goto 142 d_Y_nextTask_132 (by decide) kz) ?_
              refine jx_iret d_Y_nextTask_142 rfl ?_
              first | exact ⟨⟨_, rfl⟩, h1, yk_tr (yk_sI yk_rf (by omega)) k1⟩ | exact ⟨⟨_, rfl⟩, h1, yk_tr (yk_sI yk_rf (by omega)) (yk_rc cM1)⟩
          · skip
            refine jx_of (fun _ _ kz => jw_iload_n 3 d_Y_nextTask_67 rfl rfl kz) ?_
            refine jx_if_eq 90 d_Y_nextTask_68 (by decide) (fun _ => ?_) (fun h => absurd h (by decide))
            refine jx_of (fun _ _ kz => jw_aload_n 1 d_Y_nextTask_90 rfl rfl kz) ?_
            refine jx_of (fun _ _ kz => jw_iconst 0 d_Y_nextTask_91 (by decide) kz) ?_
            refine jx_of (fun _ _ kz => jw_putI fl_Y_172 (Or.inl rfl) rfl rfl d_Y_nextTask_92 rfl rfl kz) ?_
            refine jx_of (fun _ _ kz => jw_iload_n 2 d_Y_nextTask_95 rfl rfl kz) ?_
            refine jx_if_ne 117 d_Y_nextTask_96 (by decide) (fun _ => ?_) (fun h => absurd h (by decide))
            refine jx_of (fun _ _ kz => jw_aload_n 0 d_Y_nextTask_117 rfl rfl kz) ?_
            refine jx_of (fun _ _ kz => jw_getPe (some (4, 3)) fl_Y_45 d_Y_nextTask_118 rfl rfl (by simp [me_I_sI, me_I_sP, me_I_nx, me_P_sI, me_P_sP, me_P_nx, me_N_sI, me_N_sP, me_N_nx, me_L_sI, me_L_sP, me_L_nx, show me_P M 0 0 6 = some (4, 3) from hY.1.1 (0, 0, 6, 4, 3) (by decide)]) kz) ?_
            refine jx_callV (y_R_isEmpty (d + 2) 3 ((yI_k hY (by omega)).1.2.2 3 (by omega))) mt_R_isEmpty cf_R rfl rfl ml_Y_198 im_R_isEmpty se_R_isEmpty d_Y_nextTask_121 rfl rfl (Nat.le_of_ble_eq_true rfl) ?_
            rintro r _ ⟨hr, rfl⟩
            obtain ⟨rf, rfl⟩ : ∃ v : Int32, r = some (.inl v) := by rcases hr with hr | hr; exact ⟨_, hr⟩; exact ⟨_, hr⟩
            refine jx_eq (st2 := [.inl rf]) rfl rfl rfl ?_
            refine jx_if_eq 135 d_Y_nextTask_124 (by decide) (fun b_124 => ?_) (fun b_124 => ?_)
            · skip
              refine jx_of (fun _ _ kz => jw_aload_n 0 d_Y_nextTask_135 rfl rfl kz) ?_
              refine jx_of (fun _ _ kz => jw_getPe (some (4, 3)) fl_Y_45 d_Y_nextTask_136 rfl rfl (by simp [me_I_sI, me_I_sP, me_I_nx, me_P_sI, me_P_sP, me_P_nx, me_N_sI, me_N_sP, me_N_nx, me_L_sI, me_L_sP, me_L_nx, show me_P M 0 0 6 = some (4, 3) from hY.1.1 (0, 0, 6, 4, 3) (by decide)]) kz) ?_
              refine jx_callV (y_R_takeFirst (d + 1) 3 ((yI_k hY (by omega)).1.2.2 3 (by omega))) mt_R_takeFirst cf_R rfl rfl ml_Y_231 im_R_takeFirst se_R_takeFirst d_Y_nextTask_139 rfl rfl (Nat.le_of_ble_eq_true rfl) ?_
              rintro _ M1 ⟨⟨v1, rfl⟩, rM1, cM1⟩
              have h1 := yI_rc (yI_k hY (by omega)) cM1 rM1
              refine jx_eq (st2 := [.inl v1]) rfl rfl rfl ?_
              refine jx_iret d_Y_nextTask_142 rfl ?_
              first | exact ⟨⟨_, rfl⟩, h1, yk_tr (yk_sI yk_rf (by omega)) k1⟩ | exact ⟨⟨_, rfl⟩, h1, yk_tr (yk_sI yk_rf (by omega)) (yk_rc cM1)⟩
            · skip
              refine jx_of (fun _ _ kz => jw_aload_n 0 d_Y_nextTask_127 rfl rfl kz) ?_
              refine jx_of (fun _ _ kz => jw_aload_n 1 d_Y_nextTask_128 rfl rfl kz) ?_
              refine jx_callV (y_Y_steal d w np nt (yI_k hY (by omega))  hw) mt_Y_steal cf_Y rfl rfl ml_Y_254 im_Y_steal se_Y_steal d_Y_nextTask_129 rfl rfl (Nat.le_of_ble_eq_true rfl) ?_
              rintro _ M1 ⟨⟨v1, rfl⟩, h1, k1⟩
              refine jx_eq (st2 := [.inl v1]) rfl rfl rfl ?_
              refine jx_of (fun _ _ kz => jw_goto 142 d_Y_nextTask_132 (by decide) kz) ?_
              refine jx_iret d_Y_nextTask_142 rfl ?_
              first | exact ⟨⟨_, rfl⟩, h1, yk_tr (yk_sI yk_rf (by omega)) k1⟩ | exact ⟨⟨_, rfl⟩, h1, yk_tr (yk_sI yk_rf (by omega)) (yk_rc cM1)⟩
        · skip
          refine jx_of (fun _ _ kz => jw_aload_n 0 d_Y_nextTask_43 rfl rfl kz) ?_
          refine jx_of (fun _ _ kz => jw_getPe (some (4, 3)) fl_Y_45 d_Y_nextTask_44 rfl rfl (by simp [me_I_sI, me_I_sP, me_I_nx, me_P_sI, me_P_sP, me_P_nx, me_N_sI, me_N_sP, me_N_nx, me_L_sI, me_L_sP, me_L_nx, show me_P M 0 0 6 = some (4, 3) from hY.1.1 (0, 0, 6, 4, 3) (by decide)]) kz) ?_
          refine jx_callV (y_R_isEmpty (d + 2) 3 (hY.1.2.2 3 (by omega))) mt_R_isEmpty cf_R rfl rfl ml_Y_198 im_R_isEmpty se_R_isEmpty d_Y_nextTask_47 rfl rfl (Nat.le_of_ble_eq_true rfl) ?_
          rintro r _ ⟨hr, rfl⟩
          obtain ⟨rd, rfl⟩ : ∃ v : Int32, r = some (.inl v) := by rcases hr with hr | hr; exact ⟨_, hr⟩; exact ⟨_, hr⟩
          refine jx_eq (st2 := [.inl rd]) rfl rfl rfl ?_
          refine jx_if_eq 57 d_Y_nextTask_50 (by decide) (fun b_50 => ?_) (fun b_50 => ?_)
          · skip
            refine jx_of (fun _ _ kz => jw_iconst 0 d_Y_nextTask_57 (by decide) kz) ?_
            refine jx_of (fun _ _ kz => jw_istore_n 3 d_Y_nextTask_58 rfl (Nat.le_of_ble_eq_true rfl) kz) ?_
            dsimp only [List.set]
            refine jx_of (fun _ _ kz => jw_aload_n 1 d_Y_nextTask_59 rfl rfl kz) ?_
            refine jx_of (fun _ _ kz => jw_getIe (me_I M 3 w 2) fl_Y_159 d_Y_nextTask_60 rfl rfl rfl kz) ?_
            refine jx_of (fun _ _ kz => jw_iconst (-1) d_Y_nextTask_63 (by decide) kz) ?_
            refine jx_icmp_eq 90 d_Y_nextTask_64 (by decide) (fun b_64 => ?_) (fun b_64 => ?_)
            · skip
              refine jx_of (fun _ _ kz => jw_aload_n 1 d_Y_nextTask_90 rfl rfl kz) ?_
              refine jx_of (fun _ _ kz => jw_iconst 0 d_Y_nextTask_91 (by decide) kz) ?_
              refine jx_of (fun _ _ kz => jw_putI fl_Y_172 (Or.inl rfl) rfl rfl d_Y_nextTask_92 rfl rfl kz) ?_
              refine jx_of (fun _ _ kz => jw_iload_n 2 d_Y_nextTask_95 rfl rfl kz) ?_
              refine jx_if_ne 117 d_Y_nextTask_96 (by decide) (fun _ => ?_) (fun h => absurd h (by decide))
              refine jx_of (fun _ _ kz => jw_aload_n 0 d_Y_nextTask_117 rfl rfl kz) ?_
              refine jx_of (fun _ _ kz => jw_getPe (some (4, 3)) fl_Y_45 d_Y_nextTask_118 rfl rfl (by simp [me_I_sI, me_I_sP, me_I_nx, me_P_sI, me_P_sP, me_P_nx, me_N_sI, me_N_sP, me_N_nx, me_L_sI, me_L_sP, me_L_nx, show me_P M 0 0 6 = some (4, 3) from hY.1.1 (0, 0, 6, 4, 3) (by decide)]) kz) ?_
              refine jx_callV (y_R_isEmpty (d + 2) 3 ((yI_k hY (by omega)).1.2.2 3 (by omega))) mt_R_isEmpty cf_R rfl rfl ml_Y_198 im_R_isEmpty se_R_isEmpty d_Y_nextTask_121 rfl rfl (Nat.le_of_ble_eq_true rfl) ?_
              rintro r _ ⟨hr, rfl⟩
              obtain ⟨rf, rfl⟩ : ∃ v : Int32, r = some (.inl v) := by rcases hr with hr | hr; exact ⟨_, hr⟩; exact ⟨_, hr⟩
              refine jx_eq (st2 := [.inl rf]) rfl rfl rfl ?_
              refine jx_if_eq 135 d_Y_nextTask_124 (by decide) (fun b_124 => ?_) (fun b_124 => ?_)
              · skip
                refine jx_of (fun _ _ kz => jw_aload_n 0 d_Y_nextTask_135 rfl rfl kz) ?_
                refine jx_of (fun _ _ kz => jw_getPe (some (4, 3)) fl_Y_45 d_Y_nextTask_136 rfl rfl (by simp [me_I_sI, me_I_sP, me_I_nx, me_P_sI, me_P_sP, me_P_nx, me_N_sI, me_N_sP, me_N_nx, me_L_sI, me_L_sP, me_L_nx, show me_P M 0 0 6 = some (4, 3) from hY.1.1 (0, 0, 6, 4, 3) (by decide)]) kz) ?_
                refine jx_callV (y_R_takeFirst (d + 1) 3 ((yI_k hY (by omega)).1.2.2 3 (by omega))) mt_R_takeFirst cf_R rfl rfl ml_Y_231 im_R_takeFirst se_R_takeFirst d_Y_nextTask_139 rfl rfl (Nat.le_of_ble_eq_true rfl) ?_
                rintro _ M1 ⟨⟨v1, rfl⟩, rM1, cM1⟩
                have h1 := yI_rc (yI_k hY (by omega)) cM1 rM1
                refine jx_eq (st2 := [.inl v1]) rfl rfl rfl ?_
                refine jx_iret d_Y_nextTask_142 rfl ?_
                first | exact ⟨⟨_, rfl⟩, h1, yk_tr (yk_sI yk_rf (by omega)) k1⟩ | exact ⟨⟨_, rfl⟩, h1, yk_tr (yk_sI yk_rf (by omega)) (yk_rc cM1)⟩
              · skip
                refine jx_of (fun _ _ kz => jw_aload_n 0 d_Y_nextTask_127 rfl rfl kz) ?_
                refine jx_of (fun _ _ kz => jw_aload_n 1 d_Y_nextTask_128 rfl rfl kz) ?_
                refine jx_callV (y_Y_steal d w np nt (yI_k hY (by omega))  hw) mt_Y_steal cf_Y rfl rfl ml_Y_254 im_Y_steal se_Y_steal d_Y_nextTask_129 rfl rfl (Nat.le_of_ble_eq_true rfl) ?_
                rintro _ M1 ⟨⟨v1, rfl⟩, h1, k1⟩
                refine jx_eq (st2 := [.inl v1]) rfl rfl rfl ?_
                refine jx_of (fun _ _ kz => jw_goto 142 d_Y_nextTask_132 (by decide) kz) ?_
                refine jx_iret d_Y_nextTask_142 rfl ?_
                first | exact ⟨⟨_, rfl⟩, h1, yk_tr (yk_sI yk_rf (by omega)) k1⟩ | exact ⟨⟨_, rfl⟩, h1, yk_tr (yk_sI yk_rf (by omega)) (yk_rc cM1)⟩
            · skip
              refine jx_of (fun _ _ kz => jw_iload_n 3 d_Y_nextTask_67 rfl rfl kz) ?_
              refine jx_if_eq 90 d_Y_nextTask_68 (by decide) (fun _ => ?_) (fun h => absurd h (by decide))
              refine jx_of (fun _ _ kz => jw_aload_n 1 d_Y_nextTask_90 rfl rfl kz) ?_
              refine jx_of (fun _ _ kz => jw_iconst 0 d_Y_nextTask_91 (by decide) kz) ?_
              refine jx_of (fun _ _ kz => jw_putI fl_Y_172 (Or.inl rfl) rfl rfl d_Y_nextTask_92 rfl rfl kz) ?_
              refine jx_of (fun _ _ kz => jw_iload_n 2 d_Y_nextTask_95 rfl rfl kz) ?_
              refine jx_if_ne 117 d_Y_nextTask_96 (by decide) (fun _ => ?_) (fun h => absurd h (by decide))
              refine jx_of (fun _ _ kz => jw_aload_n 0 d_Y_nextTask_117 rfl rfl kz) ?_
              refine jx_of (fun _ _ kz => jw_getPe (some (4, 3)) fl_Y_45 d_Y_nextTask_118 rfl rfl (by simp [me_I_sI, me_I_sP, me_I_nx, me_P_sI, me_P_sP, me_P_nx, me_N_sI, me_N_sP, me_N_nx, me_L_sI, me_L_sP, me_L_nx, show me_P M 0 0 6 = some (4, 3) from hY.1.1 (0, 0, 6, 4, 3) (by decide)]) kz) ?_
              refine jx_callV (y_R_isEmpty (d + 2) 3 ((yI_k hY (by omega)).1.2.2 3 (by omega))) mt_R_isEmpty cf_R rfl rfl ml_Y_198 im_R_isEmpty se_R_isEmpty d_Y_nextTask_121 rfl rfl (Nat.le_of_ble_eq_true rfl) ?_
              rintro r _ ⟨hr, rfl⟩
              obtain ⟨rf, rfl⟩ : ∃ v : Int32, r = some (.inl v) := by rcases hr with hr | hr; exact ⟨_, hr⟩; exact ⟨_, hr⟩
              refine jx_eq (st2 := [.inl rf]) rfl rfl rfl ?_
              refine jx_if_eq 135 d_Y_nextTask_124 (by decide) (fun b_124 => ?_) (fun b_124 => ?_)
              · skip
                refine jx_of (fun _ _ kz => jw_aload_n 0 d_Y_nextTask_135 rfl rfl kz) ?_
                refine jx_of (fun _ _ kz => jw_getPe (some (4, 3)) fl_Y_45 d_Y_nextTask_136 rfl rfl (by simp [me_I_sI, me_I_sP, me_I_nx, me_P_sI, me_P_sP, me_P_nx, me_N_sI, me_N_sP, me_N_nx, me_L_sI, me_L_sP, me_L_nx, show me_P M 0 0 6 = some (4, 3) from hY.1.1 (0, 0, 6, 4, 3) (by decide)]) kz) ?_
                refine jx_callV (y_R_takeFirst (d + 1) 3 ((yI_k hY (by omega)).1.2.2 3 (by omega))) mt_R_takeFirst cf_R rfl rfl ml_Y_231 im_R_takeFirst se_R_takeFirst d_Y_nextTask_139 rfl rfl (Nat.le_of_ble_eq_true rfl) ?_
                rintro _ M1 ⟨⟨v1, rfl⟩, rM1, cM1⟩
                have h1 := yI_rc (yI_k hY (by omega)) cM1 rM1
                refine jx_eq (st2 := [.inl v1]) rfl rfl rfl ?_
                refine jx_iret d_Y_nextTask_142 rfl ?_
                first | exact ⟨⟨_, rfl⟩, h1, yk_tr (yk_sI yk_rf (by omega)) k1⟩ | exact ⟨⟨_, rfl⟩, h1, yk_tr (yk_sI yk_rf (by omega)) (yk_rc cM1)⟩
              · skip
                refine jx_of (fun _ _ kz => jw_aload_n 0 d_Y_nextTask_127 rfl rfl kz) ?_
                refine jx_of (fun _ _ kz => jw_aload_n 1 d_Y_nextTask_128 rfl rfl kz) ?_
                refine jx_callV (y_Y_steal d w np nt (yI_k hY (by omega))  hw) mt_Y_steal cf_Y rfl rfl ml_Y_254 im_Y_steal se_Y_steal d_Y_nextTask_129 rfl rfl (Nat.le_of_ble_eq_true rfl) ?_
                rintro _ M1 ⟨⟨v1, rfl⟩, h1, k1⟩
                refine jx_eq (st2 := [.inl v1]) rfl rfl rfl ?_
                refine jx_of (fun _ _ kz => jw_goto 142 d_Y_nextTask_132 (by decide) kz) ?_
                refine jx_iret d_Y_nextTask_142 rfl ?_
                first | exact ⟨⟨_, rfl⟩, h1, yk_tr (yk_sI yk_rf (by omega)) k1⟩ | exact ⟨⟨_, rfl⟩, h1, yk_tr (yk_sI yk_rf (by omega)) (yk_rc cM1)⟩
          · skip
            refine jx_of (fun _ _ kz => jw_iconst 1 d_Y_nextTask_53 (by decide) kz) ?_
            refine jx_of (fun _ _ kz => jw_goto 58 d_Y_nextTask_54 (by decide) kz) ?_
            refine jx_of (fun _ _ kz => jw_istore_n 3 d_Y_nextTask_58 rfl (Nat.le_of_ble_eq_true rfl) kz) ?_
            dsimp only [List.set]
            refine jx_of (fun _ _ kz => jw_aload_n 1 d_Y_nextTask_59 rfl rfl kz) ?_
            refine jx_of (fun _ _ kz => jw_getIe (me_I M 3 w 2) fl_Y_159 d_Y_nextTask_60 rfl rfl rfl kz) ?_
            refine jx_of (fun _ _ kz => jw_iconst (-1) d_Y_nextTask_63 (by decide) kz) ?_
            refine jx_icmp_eq 90 d_Y_nextTask_64 (by decide) (fun b_64 => ?_) (fun b_64 => ?_)
            · skip
              refine jx_of (fun _ _ kz => jw_aload_n 1 d_Y_nextTask_90 rfl rfl kz) ?_
              refine jx_of (fun _ _ kz => jw_iconst 0 d_Y_nextTask_91 (by decide) kz) ?_
              refine jx_of (fun _ _ kz => jw_putI fl_Y_172 (Or.inl rfl) rfl rfl d_Y_nextTask_92 rfl rfl kz) ?_
              refine jx_of (fun _ _ kz => jw_iload_n 2 d_Y_nextTask_95 rfl rfl kz) ?_
              refine jx_if_ne 117 d_Y_nextTask_96 (by decide) (fun _ => ?_) (fun h => absurd h (by decide))
              refine jx_of (fun _ _ kz => jw_aload_n 0 d_Y_nextTask_117 rfl rfl kz) ?_
              refine jx_of (fun _ _ kz => jw_getPe (some (4, 3)) fl_Y_45 d_Y_nextTask_118 rfl rfl (by simp [me_I_sI, me_I_sP, me_I_nx, me_P_sI, me_P_sP, me_P_nx, me_N_sI, me_N_sP, me_N_nx, me_L_sI, me_L_sP, me_L_nx, show me_P M 0 0 6 = some (4, 3) from hY.1.1 (0, 0, 6, 4, 3) (by decide)]) kz) ?_
              refine jx_callV (y_R_isEmpty (d + 2) 3 ((yI_k hY (by omega)).1.2.2 3 (by omega))) mt_R_isEmpty cf_R rfl rfl ml_Y_198 im_R_isEmpty se_R_isEmpty d_Y_nextTask_121 rfl rfl (Nat.le_of_ble_eq_true rfl) ?_
              rintro r _ ⟨hr, rfl⟩
              obtain ⟨rf, rfl⟩ : ∃ v : Int32, r = some (.inl v) := by rcases hr with hr | hr; exact ⟨_, hr⟩; exact ⟨_, hr⟩
              refine jx_eq (st2 := [.inl rf]) rfl rfl rfl ?_
              refine jx_if_eq 135 d_Y_nextTask_124 (by decide) (fun b_124 => ?_) (fun b_124 => ?_)
              · skip
                refine jx_of (fun _ _ kz => jw_aload_n 0 d_Y_nextTask_135 rfl rfl kz) ?_
                refine jx_of (fun _ _ kz => jw_getPe (some (4, 3)) fl_Y_45 d_Y_nextTask_136 rfl rfl (by simp [me_I_sI, me_I_sP, me_I_nx, me_P_sI, me_P_sP, me_P_nx, me_N_sI, me_N_sP, me_N_nx, me_L_sI, me_L_sP, me_L_nx, show me_P M 0 0 6 = some (4, 3) from hY.1.1 (0, 0, 6, 4, 3) (by decide)]) kz) ?_
                refine jx_callV (y_R_takeFirst (d + 1) 3 ((yI_k hY (by omega)).1.2.2 3 (by omega))) mt_R_takeFirst cf_R rfl rfl ml_Y_231 im_R_takeFirst se_R_takeFirst d_Y_nextTask_139 rfl rfl (Nat.le_of_ble_eq_true rfl) ?_
                rintro _ M1 ⟨⟨v1, rfl⟩, rM1, cM1⟩
                have h1 := yI_rc (yI_k hY (by omega)) cM1 rM1
                refine jx_eq (st2 := [.inl v1]) rfl rfl rfl ?_
                refine jx_iret d_Y_nextTask_142 rfl ?_
                first | exact ⟨⟨_, rfl⟩, h1, yk_tr (yk_sI yk_rf (by omega)) k1⟩ | exact ⟨⟨_, rfl⟩, h1, yk_tr (yk_sI yk_rf (by omega)) (yk_rc cM1)⟩
              · skip
                refine jx_of (fun _ _ kz => jw_aload_n 0 d_Y_nextTask_127 rfl rfl kz) ?_
                refine jx_of (fun _ _ kz => jw_aload_n 1 d_Y_nextTask_128 rfl rfl kz) ?_
                refine jx_callV (y_Y_steal d w np nt (yI_k hY (by omega))  hw) mt_Y_steal cf_Y rfl rfl ml_Y_254 im_Y_steal se_Y_steal d_Y_nextTask_129 rfl rfl (Nat.le_of_ble_eq_true rfl) ?_
                rintro _ M1 ⟨⟨v1, rfl⟩, h1, k1⟩
                refine jx_eq (st2 := [.inl v1]) rfl rfl rfl ?_
                refine jx_of (fun _ _ kz => jw_goto 142 d_Y_nextTask_132 (by decide) kz) ?_
                refine jx_iret d_Y_nextTask_142 rfl ?_
                first | exact ⟨⟨_, rfl⟩, h1, yk_tr (yk_sI yk_rf (by omega)) k1⟩ | exact ⟨⟨_, rfl⟩, h1, yk_tr (yk_sI yk_rf (by omega)) (yk_rc cM1)⟩
            · skip
              refine jx_of (fun _ _ kz => jw_iload_n 3 d_Y_nextTask_67 rfl rfl kz) ?_
              refine jx_if_eq 90 d_Y_nextTask_68 (by decide) (fun h => absurd h (by decide)) (fun _ => ?_)
              refine jx_of (fun _ _ kz => jw_iload_n 2 d_Y_nextTask_71 rfl rfl kz) ?_
              refine jx_if_ne 90 d_Y_nextTask_72 (by decide) (fun _ => ?_) (fun h => absurd h (by decide))
              refine jx_of (fun _ _ kz => jw_aload_n 1 d_Y_nextTask_90 rfl rfl kz) ?_
              refine jx_of (fun _ _ kz => jw_iconst 0 d_Y_nextTask_91 (by decide) kz) ?_
              refine jx_of (fun _ _ kz => jw_putI fl_Y_172 (Or.inl rfl) rfl rfl d_Y_nextTask_92 rfl rfl kz) ?_
              refine jx_of (fun _ _ kz => jw_iload_n 2 d_Y_nextTask_95 rfl rfl kz) ?_
              refine jx_if_ne 117 d_Y_nextTask_96 (by decide) (fun _ => ?_) (fun h => absurd h (by decide))
              refine jx_of (fun _ _ kz => jw_aload_n 0 d_Y_nextTask_117 rfl rfl kz) ?_
              refine jx_of (fun _ _ kz => jw_getPe (some (4, 3)) fl_Y_45 d_Y_nextTask_118 rfl rfl (by simp [me_I_sI, me_I_sP, me_I_nx, me_P_sI, me_P_sP, me_P_nx, me_N_sI, me_N_sP, me_N_nx, me_L_sI, me_L_sP, me_L_nx, show me_P M 0 0 6 = some (4, 3) from hY.1.1 (0, 0, 6, 4, 3) (by decide)]) kz) ?_
              refine jx_callV (y_R_isEmpty (d + 2) 3 ((yI_k hY (by omega)).1.2.2 3 (by omega))) mt_R_isEmpty cf_R rfl rfl ml_Y_198 im_R_isEmpty se_R_isEmpty d_Y_nextTask_121 rfl rfl (Nat.le_of_ble_eq_true rfl) ?_
              rintro r _ ⟨hr, rfl⟩
              obtain ⟨rf, rfl⟩ : ∃ v : Int32, r = some (.inl v) := by rcases hr with hr | hr; exact ⟨_, hr⟩; exact ⟨_, hr⟩
              refine jx_eq (st2 := [.inl rf]) rfl rfl rfl ?_
              refine jx_if_eq 135 d_Y_nextTask_124 (by decide) (fun b_124 => ?_) (fun b_124 => ?_)
              · skip
                refine jx_of (fun _ _ kz => jw_aload_n 0 d_Y_nextTask_135 rfl rfl kz) ?_
                refine jx_of (fun _ _ kz => jw_getPe (some (4, 3)) fl_Y_45 d_Y_nextTask_136 rfl rfl (by simp [me_I_sI, me_I_sP, me_I_nx, me_P_sI, me_P_sP, me_P_nx, me_N_sI, me_N_sP, me_N_nx, me_L_sI, me_L_sP, me_L_nx, show me_P M 0 0 6 = some (4, 3) from hY.1.1 (0, 0, 6, 4, 3) (by decide)]) kz) ?_
                refine jx_callV (y_R_takeFirst (d + 1) 3 ((yI_k hY (by omega)).1.2.2 3 (by omega))) mt_R_takeFirst cf_R rfl rfl ml_Y_231 im_R_takeFirst se_R_takeFirst d_Y_nextTask_139 rfl rfl (Nat.le_of_ble_eq_true rfl) ?_
                rintro _ M1 ⟨⟨v1, rfl⟩, rM1, cM1⟩
                have h1 := yI_rc (yI_k hY (by omega)) cM1 rM1
                refine jx_eq (st2 := [.inl v1]) rfl rfl rfl ?_
                refine jx_iret d_Y_nextTask_142 rfl ?_
                first | exact ⟨⟨_, rfl⟩, h1, yk_tr (yk_sI yk_rf (by omega)) k1⟩ | exact ⟨⟨_, rfl⟩, h1, yk_tr (yk_sI yk_rf (by omega)) (yk_rc cM1)⟩
              · skip
                refine jx_of (fun _ _ kz => jw_aload_n 0 d_Y_nextTask_127 rfl rfl kz) ?_
                refine jx_of (fun _ _ kz => jw_aload_n 1 d_Y_nextTask_128 rfl rfl kz) ?_
                refine jx_callV (y_Y_steal d w np nt (yI_k hY (by omega))  hw) mt_Y_steal cf_Y rfl rfl ml_Y_254 im_Y_steal se_Y_steal d_Y_nextTask_129 rfl rfl (Nat.le_of_ble_eq_true rfl) ?_
                rintro _ M1 ⟨⟨v1, rfl⟩, h1, k1⟩
                refine jx_eq (st2 := [.inl v1]) rfl rfl rfl ?_
                refine jx_of (fun _ _ kz => jw_goto 142 d_Y_nextTask_132 (by decide) kz) ?_
                refine jx_iret d_Y_nextTask_142 rfl ?_
                first | exact ⟨⟨_, rfl⟩, h1, yk_tr (yk_sI yk_rf (by omega)) k1⟩ | exact ⟨⟨_, rfl⟩, h1, yk_tr (yk_sI yk_rf (by omega)) (yk_rc cM1)⟩
set_option maxRecDepth 20000 in
set_option maxHeartbeats 4000000 in
theorem y_Y_tt62 {G : Gt} {M : Me} (d w t p n : Nat) (o : Nat → Nat) (np nt : Nat) (hw : w < 3) (ht : t < nt) (hT : tO M t p n o) (c0 s0 : Nat) (M0 : Me) (w0 : yv np nt nt M M0) : jx G yt_Y_takeTurn (d + 31) c0 s0 M0 62 [some (.inr (some (0, 0))), some (.inr (some (3, w))), some (.inr (some (2, t)))] [] (fun r M' => (∃ v : Int32, r = some (.inl v)) ∧ ∃ nt', yv np nt nt' M M') := by
  have h0 := w0.2.1
  have hN0 := w0.2.2.1
  have hT0 := tO_yf hT ht w0.2.2.2.1
  have ht0 := ht
  have h12 := hT.2.2.1
  refine jx_of (fun _ _ kz => jw_aload_n 0 d_Y_takeTurn_62 rfl rfl kz) ?_
  refine jx_of (fun _ _ kz => jw_aload_n 2 d_Y_takeTurn_63 rfl rfl kz) ?_
  refine jx_of (fun _ _ kz => jw_iconst 0 d_Y_takeTurn_64 (by decide) kz) ?_
  refine jx_of (fun _ _ kz => jw_iconst 0 d_Y_takeTurn_65 (by decide) kz) ?_
  refine jx_callV (y_Y_poll d t p n o 0 np nt h0  hN0 ht hT0) mt_Y_poll cf_Y rfl rfl ml_Y_240 im_Y_poll se_Y_poll d_Y_takeTurn_66 rfl rfl (Nat.le_of_ble_eq_true rfl) ?_
  rintro _ M1 ⟨⟨v1, rfl⟩, nt1, u1⟩
  have w1 := yv_tr w0 u1
  have h1 := w1.2.1
  have hN1 := w1.2.2.1
  have hT1 := tO_yf hT ht w1.2.2.2.1
  have ht1 : t < nt1 := by have hle := w1.1; omega
  refine jx_eq (st2 := [.inl v1]) rfl rfl rfl ?_
  refine jx_of (fun _ _ kz => jw_iconst 1 d_Y_takeTurn_69 (by decide) kz) ?_
  refine jx_icmp_ne 92 d_Y_takeTurn_70 (by decide) (fun b_70 => ?_) (fun b_70 => ?_)
  · skip
    refine jx_of (fun _ _ kz => jw_aload_n 2 d_Y_takeTurn_92 rfl rfl kz) ?_
    refine jx_callV (y_T_end (d + 27) t p n o hT1) mt_T_end cf_T rfl rfl ml_Y_244 im_T_end se_T_end d_Y_takeTurn_93 rfl rfl (Nat.le_of_ble_eq_true rfl) ?_
    rintro _ M2 ⟨rfl, c2⟩
    have w2 := yv_tc w1 c2
    have h2 := w2.2.1
    have hN2 := w2.2.2.1
    have hT2 := tO_yf hT ht w2.2.2.2.1
    have ht2 : t < nt1 := by have hle := w2.1; omega
    refine jx_eq (st2 := []) rfl rfl rfl ?_
    refine jx_of (fun _ _ kz => jw_aload_n 0 d_Y_takeTurn_96 rfl rfl kz) ?_
    refine jx_of (fun _ _ kz => jw_aload_n 2 d_Y_takeTurn_97 rfl rfl kz) ?_
    refine jx_of (fun _ _ kz => jw_getIe (me_I M2 2 t 0) fl_Y_213 d_Y_takeTurn_98 rfl rfl rfl kz) ?_
    refine jx_callV (y_Y_wakeReapers (d + 26) ((me_I M2 2 t 0)) np nt1 h2) mt_Y_wakeReapers cf_Y rfl rfl ml_Y_130 im_Y_wakeReapers se_Y_wakeReapers d_Y_takeTurn_101 rfl rfl (Nat.le_of_ble_eq_true rfl) ?_
    rintro _ M3 ⟨rfl, g3, k3⟩
    have w3 := yv_yk w2 g3 k3
    have h3 := w3.2.1
    have hN3 := w3.2.2.1
    have hT3 := tO_yf hT ht w3.2.2.2.1
    have ht3 : t < nt1 := by have hle := w3.1; omega
    refine jx_eq (st2 := []) rfl rfl rfl ?_
    refine jx_of (fun _ _ kz => jw_aload_n 0 d_Y_takeTurn_104 rfl rfl kz) ?_
    refine jx_of (fun _ _ kz => jw_aload_n 1 d_Y_takeTurn_105 rfl rfl kz) ?_
    refine jx_callV (y_Y_slotWoken (d + 26) w np nt1 (by first | exact h3 | exact yI_tc h1 (tc_sI tc_rf (by omega)))  hw) mt_Y_slotWoken cf_Y rfl rfl ml_Y_247 im_Y_slotWoken se_Y_slotWoken d_Y_takeTurn_106 rfl rfl (Nat.le_of_ble_eq_true rfl) ?_
    rintro _ M5 ⟨rfl, g5, k5⟩
    have w5 : yv np nt nt1 M M5 := by first | exact yv_yk w3 g5 k5 | exact yv_yk (yv_tc w1 (tc_sI tc_rf (by omega))) g5 k5
    have h5 := w5.2.1
    refine jx_eq (st2 := []) rfl rfl rfl ?_
    refine jx_of (fun _ _ kz => jw_aload_n 2 d_Y_takeTurn_109 rfl rfl kz) ?_
    refine jx_of (fun _ _ kz => jw_getIe (me_I M5 2 t 3) fl_Y_123 d_Y_takeTurn_110 rfl rfl rfl kz) ?_
    refine jx_of (fun _ _ kz => jw_iconst 1 d_Y_takeTurn_113 (by decide) kz) ?_
    refine jx_icmp_ne 126 d_Y_takeTurn_114 (by decide) (fun b_114 => ?_) (fun b_114 => ?_)
    · skip
      refine jx_of (fun _ _ kz => jw_aload_n 2 d_Y_takeTurn_126 rfl rfl kz) ?_
      refine jx_of (fun _ _ kz => jw_getIe (_) fl_Y_213 d_Y_takeTurn_127 rfl rfl rfl kz) ?_
      refine jx_iret d_Y_takeTurn_130 rfl ?_
      first | exact ⟨⟨_, rfl⟩, _, w6⟩ | exact ⟨⟨_, rfl⟩, _, w5⟩
    · skip
      refine jx_of (fun _ _ kz => jw_aload_n 0 d_Y_takeTurn_117 rfl rfl kz) ?_
      refine jx_of (fun _ _ kz => jw_aload_n 1 d_Y_takeTurn_118 rfl rfl kz) ?_
      refine jx_of (fun _ _ kz => jw_aload_n 2 d_Y_takeTurn_119 rfl rfl kz) ?_
      refine jx_of (fun _ _ kz => jw_getIe (me_I M5 2 t 0) fl_Y_213 d_Y_takeTurn_120 rfl rfl rfl kz) ?_
      refine jx_callV (y_Y_pushToRing (d + 27) w ((me_I M5 2 t 0)) np nt1 h5  hw) mt_Y_pushToRing cf_Y rfl rfl ml_Y_227 im_Y_pushToRing se_Y_pushToRing d_Y_takeTurn_123 rfl rfl (Nat.le_of_ble_eq_true rfl) ?_
      rintro _ M6 ⟨rfl, g6, k6, e6⟩
      have w6 := yv_yk w5 g6 k6
      refine jx_eq (st2 := []) rfl rfl rfl ?_
      refine jx_of (fun _ _ kz => jw_aload_n 2 d_Y_takeTurn_126 rfl rfl kz) ?_
      refine jx_of (fun _ _ kz => jw_getIe (_) fl_Y_213 d_Y_takeTurn_127 rfl rfl rfl kz) ?_
      refine jx_iret d_Y_takeTurn_130 rfl ?_
      first | exact ⟨⟨_, rfl⟩, _, w6⟩ | exact ⟨⟨_, rfl⟩, _, w5⟩
  · skip
    refine jx_of (fun _ _ kz => jw_aload_n 2 d_Y_takeTurn_73 rfl rfl kz) ?_
    refine jx_of (fun _ _ kz => jw_aload_n 2 d_Y_takeTurn_74 rfl rfl kz) ?_
    refine jx_of (fun _ _ kz => jw_getIe (_) fl_Y_214 d_Y_takeTurn_75 rfl rfl rfl kz) ?_
    refine jx_if_eq 85 d_Y_takeTurn_78 (by decide) (fun b_78 => ?_) (fun b_78 => ?_)
    · skip
      refine jx_of (fun _ _ kz => jw_iconst 0 d_Y_takeTurn_85 (by decide) kz) ?_
      refine jx_of (fun _ _ kz => jw_putI fl_Y_123 (Or.inl rfl) rfl rfl d_Y_takeTurn_86 rfl rfl kz) ?_
      refine jx_of (fun _ _ kz => jw_goto 104 d_Y_takeTurn_89 (by decide) kz) ?_
      refine jx_of (fun _ _ kz => jw_aload_n 0 d_Y_takeTurn_104 rfl rfl kz) ?_
      refine jx_of (fun _ _ kz => jw_aload_n 1 d_Y_takeTurn_105 rfl rfl kz) ?_
      refine jx_callV (y_Y_slotWoken (d + 26) w np nt1 (by first | exact h3 | exact yI_tc h1 (tc_sI tc_rf (by omega)))  hw) mt_Y_slotWoken cf_Y rfl rfl ml_Y_247 im_Y_slotWoken se_Y_slotWoken d_Y_takeTurn_106 rfl rfl (Nat.le_of_ble_eq_true rfl) ?_
      rintro _ M5 ⟨rfl, g5, k5⟩
      have w5 : yv np nt nt1 M M5 := by first | exact yv_yk w3 g5 k5 | exact yv_yk (yv_tc w1 (tc_sI tc_rf (by omega))) g5 k5
      have h5 := w5.2.1
      refine jx_eq (st2 := []) rfl rfl rfl ?_
      refine jx_of (fun _ _ kz => jw_aload_n 2 d_Y_takeTurn_109 rfl rfl kz) ?_
      refine jx_of (fun _ _ kz => jw_getIe (me_I M5 2 t 3) fl_Y_123 d_Y_takeTurn_110 rfl rfl rfl kz) ?_
      refine jx_of (fun _ _ kz => jw_iconst 1 d_Y_takeTurn_113 (by decide) kz) ?_
      refine jx_icmp_ne 126 d_Y_takeTurn_114 (by decide) (fun b_114 => ?_) (fun b_114 => ?_)
      · skip
        refine jx_of (fun _ _ kz => jw_aload_n 2 d_Y_takeTurn_126 rfl rfl kz) ?_
        refine jx_of (fun _ _ kz => jw_getIe (_) fl_Y_213 d_Y_takeTurn_127 rfl rfl rfl kz) ?_
        refine jx_iret d_Y_takeTurn_130 rfl ?_
        first | exact ⟨⟨_, rfl⟩, _, w6⟩ | exact ⟨⟨_, rfl⟩, _, w5⟩
      · skip
        refine jx_of (fun _ _ kz => jw_aload_n 0 d_Y_takeTurn_117 rfl rfl kz) ?_
        refine jx_of (fun _ _ kz => jw_aload_n 1 d_Y_takeTurn_118 rfl rfl kz) ?_
        refine jx_of (fun _ _ kz => jw_aload_n 2 d_Y_takeTurn_119 rfl rfl kz) ?_
        refine jx_of (fun _ _ kz => jw_getIe (me_I M5 2 t 0) fl_Y_213 d_Y_takeTurn_120 rfl rfl rfl kz) ?_
        refine jx_callV (y_Y_pushToRing (d + 27) w ((me_I M5 2 t 0)) np nt1 h5  hw) mt_Y_pushToRing cf_Y rfl rfl ml_Y_227 im_Y_pushToRing se_Y_pushToRing d_Y_takeTurn_123 rfl rfl (Nat.le_of_ble_eq_true rfl) ?_
        rintro _ M6 ⟨rfl, g6, k6, e6⟩
        have w6 := yv_yk w5 g6 k6
        refine jx_eq (st2 := []) rfl rfl rfl ?_
        refine jx_of (fun _ _ kz => jw_aload_n 2 d_Y_takeTurn_126 rfl rfl kz) ?_
        refine jx_of (fun _ _ kz => jw_getIe (_) fl_Y_213 d_Y_takeTurn_127 rfl rfl rfl kz) ?_
        refine jx_iret d_Y_takeTurn_130 rfl ?_
        first | exact ⟨⟨_, rfl⟩, _, w6⟩ | exact ⟨⟨_, rfl⟩, _, w5⟩
    · skip
      refine jx_of (fun _ _ kz => jw_iconst 1 d_Y_takeTurn_81 (by decide) kz) ?_
      refine jx_of (fun _ _ kz => jw_goto 86 d_Y_takeTurn_82 (by decide) kz) ?_
      refine jx_of (fun _ _ kz => jw_putI fl_Y_123 (Or.inl rfl) rfl rfl d_Y_takeTurn_86 rfl rfl kz) ?_
      refine jx_of (fun _ _ kz => jw_goto 104 d_Y_takeTurn_89 (by decide) kz) ?_
      refine jx_of (fun _ _ kz => jw_aload_n 0 d_Y_takeTurn_104 rfl rfl kz) ?_
      refine jx_of (fun _ _ kz => jw_aload_n 1 d_Y_takeTurn_105 rfl rfl kz) ?_
      refine jx_callV (y_Y_slotWoken (d + 26) w np nt1 (by first | exact h3 | exact yI_tc h1 (tc_sI tc_rf (by omega)))  hw) mt_Y_slotWoken cf_Y rfl rfl ml_Y_247 im_Y_slotWoken se_Y_slotWoken d_Y_takeTurn_106 rfl rfl (Nat.le_of_ble_eq_true rfl) ?_
      rintro _ M5 ⟨rfl, g5, k5⟩
      have w5 : yv np nt nt1 M M5 := by first | exact yv_yk w3 g5 k5 | exact yv_yk (yv_tc w1 (tc_sI tc_rf (by omega))) g5 k5
      have h5 := w5.2.1
      refine jx_eq (st2 := []) rfl rfl rfl ?_
      refine jx_of (fun _ _ kz => jw_aload_n 2 d_Y_takeTurn_109 rfl rfl kz) ?_
      refine jx_of (fun _ _ kz => jw_getIe (me_I M5 2 t 3) fl_Y_123 d_Y_takeTurn_110 rfl rfl rfl kz) ?_
      refine jx_of (fun _ _ kz => jw_iconst 1 d_Y_takeTurn_113 (by decide) kz) ?_
      refine jx_icmp_ne 126 d_Y_takeTurn_114 (by decide) (fun b_114 => ?_) (fun b_114 => ?_)
      · skip
        refine jx_of (fun _ _ kz => jw_aload_n 2 d_Y_takeTurn_126 rfl rfl kz) ?_
        refine jx_of (fun _ _ kz => jw_getIe (_) fl_Y_213 d_Y_takeTurn_127 rfl rfl rfl kz) ?_
        refine jx_iret d_Y_takeTurn_130 rfl ?_
        first | exact ⟨⟨_, rfl⟩, _, w6⟩ | exact ⟨⟨_, rfl⟩, _, w5⟩
      · skip
        refine jx_of (fun _ _ kz => jw_aload_n 0 d_Y_takeTurn_117 rfl rfl kz) ?_
        refine jx_of (fun _ _ kz => jw_aload_n 1 d_Y_takeTurn_118 rfl rfl kz) ?_
        refine jx_of (fun _ _ kz => jw_aload_n 2 d_Y_takeTurn_119 rfl rfl kz) ?_
        refine jx_of (fun _ _ kz => jw_getIe (me_I M5 2 t 0) fl_Y_213 d_Y_takeTurn_120 rfl rfl rfl kz) ?_
        refine jx_callV (y_Y_pushToRing (d + 27) w ((me_I M5 2 t 0)) np nt1 h5  hw) mt_Y_pushToRing cf_Y rfl rfl ml_Y_227 im_Y_pushToRing se_Y_pushToRing d_Y_takeTurn_123 rfl rfl (Nat.le_of_ble_eq_true rfl) ?_
        rintro _ M6 ⟨rfl, g6, k6, e6⟩
        have w6 := yv_yk w5 g6 k6
        refine jx_eq (st2 := []) rfl rfl rfl ?_
        refine jx_of (fun _ _ kz => jw_aload_n 2 d_Y_takeTurn_126 rfl rfl kz) ?_
        refine jx_of (fun _ _ kz => jw_getIe (_) fl_Y_213 d_Y_takeTurn_127 rfl rfl rfl kz) ?_
        refine jx_iret d_Y_takeTurn_130 rfl ?_
        first | exact ⟨⟨_, rfl⟩, _, w6⟩ | exact ⟨⟨_, rfl⟩, _, w5⟩
set_option maxRecDepth 20000 in
set_option maxHeartbeats 4000000 in
theorem y_Y_takeTurn {G : Gt} {M : Me} (d : Nat) (w : Nat) (np : Nat) (nt : Nat) (hY : yI M np nt) (hw : w < 3) (hN : yN M np nt) : sx G yt_Y_takeTurn yn_Y_takeTurn (d + 31) [.inr (some (0, 0)), .inr (some (3, w))] M (fun r M' => (∃ v : Int32, r = some (.inl v)) ∧ ∃ nt', yv np nt nt' M M') := by
  refine sx_of (k := 1) (lc := [some (.inr (some (0, 0))), some (.inr (some (3, w))), none]) mt_Y_takeTurn (Nat.le_of_ble_eq_true rfl) rfl ?_
  refine jx_of (fun _ _ kz => jw_aload_n 1 d_Y_takeTurn_0 rfl rfl kz) ?_
  refine jx_of (fun _ _ kz => jw_dup d_Y_takeTurn_1 kz) ?_
  refine jx_of (fun _ _ kz => jw_getIe (_) fl_Y_162 d_Y_takeTurn_2 rfl rfl rfl kz) ?_
  refine jx_of (fun _ _ kz => jw_iconst 1 d_Y_takeTurn_5 (by decide) kz) ?_
  refine jx_of (fun _ _ kz => jw_iadd d_Y_takeTurn_6 kz) ?_
  refine jx_of (fun _ _ kz => jw_putI fl_Y_162 (Or.inl rfl) rfl rfl d_Y_takeTurn_7 rfl rfl kz) ?_
  refine jx_of (fun _ _ kz => jw_aload_n 0 d_Y_takeTurn_10 rfl rfl kz) ?_
  refine jx_of (fun _ _ kz => jw_aload_n 0 d_Y_takeTurn_11 rfl rfl kz) ?_
  refine jx_of (fun _ _ kz => jw_aload_n 1 d_Y_takeTurn_12 rfl rfl kz) ?_
  refine jx_callV (y_Y_nextTask (d + 26) w np nt (yI_k hY (by omega))  hw) mt_Y_nextTask cf_Y rfl rfl ml_Y_237 im_Y_nextTask se_Y_nextTask d_Y_takeTurn_13 rfl rfl (Nat.le_of_ble_eq_true rfl) ?_
  rintro _ M1 ⟨⟨v1, rfl⟩, h1, k1⟩
  have w1 := yv_yk (yv_rf hY hN) h1 (yk_tr (yk_sI yk_rf (by omega)) k1)
  refine jx_eq (st2 := [.inl v1, .inr (some (0, 0))]) rfl rfl rfl ?_
  refine jx_callV (y_Y_taskAt (d + 29) v1 np nt h1) mt_Y_taskAt cf_Y rfl rfl ml_Y_113 im_Y_taskAt se_Y_taskAt d_Y_takeTurn_16 rfl rfl (Nat.le_of_ble_eq_true rfl) ?_
  rintro r _ ⟨hr, rfl⟩
  rcases hr with rfl | ⟨t9, ht9, ex9, rfl⟩
  · skip
    refine jx_eq (st2 := [.inr none]) rfl rfl rfl ?_
    refine jx_of (fun _ _ kz => jw_astore_n 2 d_Y_takeTurn_19 rfl (Nat.le_of_ble_eq_true rfl) kz) ?_
    dsimp only [List.set]
    refine jx_of (fun _ _ kz => jw_aload_n 2 d_Y_takeTurn_20 rfl rfl kz) ?_
    refine jx_ifnonnull 27 d_Y_takeTurn_21 (by decide) (fun _ h => by cases h) (fun _ => ?_)
    refine jx_of (fun _ _ kz => jw_bipush (-2) d_Y_takeTurn_24 (by decide) kz) ?_
    refine jx_iret d_Y_takeTurn_26 rfl ?_
    exact ⟨⟨_, rfl⟩, _, w1⟩
  · skip
    obtain ⟨p9, n9, o9, hp9, hT9⟩ := (hY.2.2.2.2 t9 ht9).2
    refine jx_eq (st2 := [.inr (some (2, t9))]) rfl rfl rfl ?_
    refine jx_of (fun _ _ kz => jw_astore_n 2 d_Y_takeTurn_19 rfl (Nat.le_of_ble_eq_true rfl) kz) ?_
    dsimp only [List.set]
    refine jx_of (fun _ _ kz => jw_aload_n 2 d_Y_takeTurn_20 rfl rfl kz) ?_
    refine jx_ifnonnull 27 d_Y_takeTurn_21 (by decide) (fun _ _ => ?_) (fun h => by cases h)
    refine jx_of (fun _ _ kz => jw_aload_n 2 d_Y_takeTurn_27 rfl rfl kz) ?_
    refine jx_of (fun _ _ kz => jw_iconst 5 d_Y_takeTurn_28 (by decide) kz) ?_
    refine jx_of (fun _ _ kz => jw_putI fl_Y_123 (Or.inl rfl) rfl rfl d_Y_takeTurn_29 rfl rfl kz) ?_
    refine jx_of (fun _ _ kz => jw_aload_n 2 d_Y_takeTurn_32 rfl rfl kz) ?_
    refine jx_of (fun _ _ kz => jw_iconst 0 d_Y_takeTurn_33 (by decide) kz) ?_
    refine jx_of (fun _ _ kz => jw_putI fl_Y_214 (Or.inl rfl) rfl rfl d_Y_takeTurn_34 rfl rfl kz) ?_
    refine jx_of (fun _ _ kz => jw_aload_n 2 d_Y_takeTurn_37 rfl rfl kz) ?_
    refine jx_of (fun _ _ kz => jw_iconst 4 d_Y_takeTurn_38 (by decide) kz) ?_
    refine jx_of (fun _ _ kz => jw_putI fl_Y_153 (Or.inl rfl) rfl rfl d_Y_takeTurn_39 rfl rfl kz) ?_
    refine jx_of (fun _ _ kz => jw_aload_n 2 d_Y_takeTurn_42 rfl rfl kz) ?_
    refine jx_of (fun _ _ kz => jw_dup d_Y_takeTurn_43 kz) ?_
    refine jx_of (fun _ _ kz => jw_getIe (_) fl_Y_147 d_Y_takeTurn_44 rfl rfl rfl kz) ?_
    refine jx_of (fun _ _ kz => jw_iconst 1 d_Y_takeTurn_47 (by decide) kz) ?_
    refine jx_of (fun _ _ kz => jw_iadd d_Y_takeTurn_48 kz) ?_
    refine jx_of (fun _ _ kz => jw_putI fl_Y_147 (Or.inl rfl) rfl rfl d_Y_takeTurn_49 rfl rfl kz) ?_
    refine jx_of (fun _ _ kz => jw_aload_n 0 d_Y_takeTurn_52 rfl rfl kz) ?_
    refine jx_of (fun _ _ kz => jw_dup d_Y_takeTurn_53 kz) ?_
    refine jx_of (fun _ _ kz => jw_getIe (_) fl_Y_69 d_Y_takeTurn_54 rfl rfl rfl kz) ?_
    refine jx_of (fun _ _ kz => jw_iconst 1 d_Y_takeTurn_57 (by decide) kz) ?_
    refine jx_of (fun _ _ kz => jw_iadd d_Y_takeTurn_58 kz) ?_
    refine jx_of (fun _ _ kz => jw_putI fl_Y_69 (Or.inl rfl) rfl rfl d_Y_takeTurn_59 rfl rfl kz) ?_
    exact y_Y_tt62 d w t9 p9 n9 o9 np nt hw ht9 hT9 _ _ _ (yv_yk (yv_tc w1 (tc_sI (tc_sI (tc_sI (tc_sI tc_rf (by omega)) (by omega)) (by omega)) (by omega))) (yI_k (yI_tc h1 (tc_sI (tc_sI (tc_sI (tc_sI tc_rf (by omega)) (by omega)) (by omega)) (by omega))) (by omega)) (yk_sI yk_rf (by omega)))
