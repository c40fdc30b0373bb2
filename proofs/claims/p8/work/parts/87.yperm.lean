theorem yg5 {M : Me} {np nt g : Nat} (h : yI M np nt) (hg : g < 2) : me_P M 5 g 0 = some (4, 5 + g) := by
  rcases (show g = 0 ∨ g = 1 by omega) with rfl | rfl
  · exact h.1.1 (5, 0, 0, 4, 5) (by decide)
  · exact h.1.1 (5, 1, 0, 4, 6) (by decide)
theorem yg6 {M : Me} {np nt g : Nat} (h : yI M np nt) (hg : g < 2) : me_P M 6 g 0 = some (4, 7 + g) := by
  rcases (show g = 0 ∨ g = 1 by omega) with rfl | rfl
  · exact h.1.1 (6, 0, 0, 4, 7) (by decide)
  · exact h.1.1 (6, 1, 0, 4, 8) (by decide)
set_option maxRecDepth 20000 in
set_option maxHeartbeats 4000000 in
theorem y_Y_giveNotice {G : Gt} {M : Me} (d : Nat) (g : Nat) (np : Nat) (nt : Nat) (hY : yI M np nt) (hg : g < 2) : sx G yt_Y_giveNotice yn_Y_giveNotice (d + 3) [.inr (some (0, 0)), .inr (some (6, g))] M (fun r M' => (r = some (.inl 0) ∨ r = some (.inl 1)) ∧ yI M' np nt ∧ yk M M') := by
  refine sx_of (k := 2) (lc := [some (.inr (some (0, 0))), some (.inr (some (6, g))), none, none]) mt_Y_giveNotice (Nat.le_of_ble_eq_true rfl) rfl ?_
  refine jx_of (fun _ _ kz => jw_aload_n 1 d_Y_giveNotice_0 rfl rfl kz) ?_
  refine jx_of (fun _ _ kz => jw_getPe (some (4, (7 + g))) fl_Y_186 d_Y_giveNotice_1 rfl rfl (by simp [me_I_sI, me_I_sP, me_I_nx, me_P_sI, me_P_sP, me_P_nx, me_N_sI, me_N_sP, me_N_nx, me_L_sI, me_L_sP, me_L_nx, show me_P M 6 g 0 = some (4, 7 + g) from yg6 hY hg]) kz) ?_
  refine jx_callV (y_R_isEmpty (d + 1) (((7 + g))) (hY.1.2.2 (7 + g) (by omega))) mt_R_isEmpty cf_R rfl rfl ml_Y_198 im_R_isEmpty se_R_isEmpty d_Y_giveNotice_4 rfl rfl (Nat.le_of_ble_eq_true rfl) ?_
  rintro r _ ⟨hr, rfl⟩
  obtain ⟨rv, rfl⟩ : ∃ v : Int32, r = some (.inl v) := by rcases hr with hr | hr; exact ⟨_, hr⟩; exact ⟨_, hr⟩
  refine jx_eq (st2 := [.inl rv]) rfl rfl rfl ?_
  refine jx_if_eq 17 d_Y_giveNotice_7 (by decide) (fun b_7 => ?_) (fun b_7 => ?_)
  · skip
    refine jx_of (fun _ _ kz => jw_aload_n 1 d_Y_giveNotice_17 rfl rfl kz) ?_
    refine jx_of (fun _ _ kz => jw_getPe (some (4, (7 + g))) fl_Y_186 d_Y_giveNotice_18 rfl rfl (by simp [me_I_sI, me_I_sP, me_I_nx, me_P_sI, me_P_sP, me_P_nx, me_N_sI, me_N_sP, me_N_nx, me_L_sI, me_L_sP, me_L_nx, show me_P M 6 g 0 = some (4, 7 + g) from yg6 hY hg]) kz) ?_
    refine jx_callV (y_R_takeFirst d (((7 + g))) (hY.1.2.2 (7 + g) (by omega))) mt_R_takeFirst cf_R rfl rfl ml_Y_231 im_R_takeFirst se_R_takeFirst d_Y_giveNotice_21 rfl rfl (Nat.le_of_ble_eq_true rfl) ?_
    rintro _ M1 ⟨⟨v, rfl⟩, rM1, cM1⟩
    have h1 := yI_rc hY cM1 rM1
    refine jx_eq (st2 := [.inl v]) rfl rfl rfl ?_
    refine jx_of (fun _ _ kz => jw_istore_n 2 d_Y_giveNotice_24 rfl (Nat.le_of_ble_eq_true rfl) kz) ?_
    dsimp only [List.set]
    refine jx_of (fun _ _ kz => jw_aload_n 0 d_Y_giveNotice_25 rfl rfl kz) ?_
    refine jx_of (fun _ _ kz => jw_iload_n 2 d_Y_giveNotice_26 rfl rfl kz) ?_
    refine jx_callV (y_Y_ownerOf d v np nt h1) mt_Y_ownerOf cf_Y rfl rfl ml_Y_201 im_Y_ownerOf se_Y_ownerOf d_Y_giveNotice_27 rfl rfl (Nat.le_of_ble_eq_true rfl) ?_
    rintro r _ ⟨hr, rfl⟩
    rcases hr with rfl | ⟨t9, ht9, ex9, rfl⟩
    · skip
      refine jx_eq (st2 := [.inr none]) rfl rfl rfl ?_
      refine jx_of (fun _ _ kz => jw_astore_n 3 d_Y_giveNotice_30 rfl (Nat.le_of_ble_eq_true rfl) kz) ?_
      dsimp only [List.set]
      refine jx_of (fun _ _ kz => jw_aload_n 3 d_Y_giveNotice_31 rfl rfl kz) ?_
      refine jx_ifnull 50 d_Y_giveNotice_32 (by decide) (fun _ => ?_) (fun _ h => by cases h)
      refine jx_of (fun _ _ kz => jw_iconst 1 d_Y_giveNotice_50 (by decide) kz) ?_
      refine jx_zret d_Y_giveNotice_51 rfl (by decide) ?_
      first | exact ⟨Or.inr rfl, h2, yk_tr (yk_tr (yk_rc cM1) (yk_tc (tc_sI tc_rf (by omega)))) k2⟩ | exact ⟨Or.inr rfl, h1, yk_rc cM1⟩
    · skip
      obtain ⟨p9, n9, o9, hp9, hT9⟩ := (h1.2.2.2.2 t9 ht9).2
      refine jx_eq (st2 := [.inr (some (2, t9))]) rfl rfl rfl ?_
      refine jx_of (fun _ _ kz => jw_astore_n 3 d_Y_giveNotice_30 rfl (Nat.le_of_ble_eq_true rfl) kz) ?_
      dsimp only [List.set]
      refine jx_of (fun _ _ kz => jw_aload_n 3 d_Y_giveNotice_31 rfl rfl kz) ?_
      refine jx_ifnull 50 d_Y_giveNotice_32 (by decide) (fun h => by cases h) (fun _ _ => ?_)
      obtain ⟨j, hj, rfl⟩ := nI_of ex9
      refine jx_of (fun _ _ kz => jw_aload_n 3 d_Y_giveNotice_35 rfl rfl kz) ?_
      refine jx_of (fun _ _ kz => jw_getPe (some (16, t9)) fl_Y_204 d_Y_giveNotice_36 rfl rfl (by simp [me_I_sI, me_I_sP, me_I_nx, me_P_sI, me_P_sP, me_P_nx, me_N_sI, me_N_sP, me_N_nx, me_L_sI, me_L_sP, me_L_nx, show me_P M1 2 t9 10 = some (16, t9) from hT9.1.2.2.2.1]) kz) ?_
      refine jx_of (fun _ _ kz => jw_iload_n 2 d_Y_giveNotice_39 rfl rfl kz) ?_
      refine jx_of (fun _ _ kz => jw_bipush 12 d_Y_giveNotice_40 (by decide) kz) ?_
      refine jx_of (fun _ _ kz => jw_irem d_Y_giveNotice_42 (by decide) kz) ?_
      rw [show ((nI j) - (nI j) / 12 * 12 : Int32) = nI (j % 12) from pk_rem (by omega) (by decide) (by decide)]
      refine jx_of (fun _ _ kz => jw_iconst 1 d_Y_giveNotice_43 (by decide) kz) ?_
      refine jx_of (fun _ _ kz => jw_iast d_Y_giveNotice_44 rfl rfl (by rw [show me_L _ 16 t9 = 12 from (by simp [me_I_sI, me_I_sP, me_I_nx, me_P_sI, me_P_sP, me_P_nx, me_N_sI, me_N_sP, me_N_nx, me_L_sI, me_L_sP, me_L_nx, show me_L M1 16 t9 = 12 from hT9.1.2.2.2.2.2.2])]; exact (vp_in_nI (by omega) (by omega))) kz) ?_
      rw [nI_clamp (by omega)]
      refine jx_of (fun _ _ kz => jw_aload_n 0 d_Y_giveNotice_45 rfl rfl kz) ?_
      refine jx_of (fun _ _ kz => jw_aload_n 3 d_Y_giveNotice_46 rfl rfl kz) ?_
      refine jx_callV (y_Y_wakeTask d t9 np nt (yI_tc h1 (tc_sI tc_rf (by omega)))  ht9) mt_Y_wakeTask cf_Y rfl rfl ml_Y_220 im_Y_wakeTask se_Y_wakeTask d_Y_giveNotice_47 rfl rfl (Nat.le_of_ble_eq_true rfl) ?_
      rintro _ M2 ⟨rfl, h2, k2⟩
      refine jx_eq (st2 := []) rfl rfl rfl ?_
      refine jx_of (fun _ _ kz => jw_iconst 1 d_Y_giveNotice_50 (by decide) kz) ?_
      refine jx_zret d_Y_giveNotice_51 rfl (by decide) ?_
      first | exact ⟨Or.inr rfl, h2, yk_tr (yk_tr (yk_rc cM1) (yk_tc (tc_sI tc_rf (by omega)))) k2⟩ | exact ⟨Or.inr rfl, h1, yk_rc cM1⟩
  · skip
    refine jx_of (fun _ _ kz => jw_aload_n 1 d_Y_giveNotice_10 rfl rfl kz) ?_
    refine jx_of (fun _ _ kz => jw_iconst 1 d_Y_giveNotice_11 (by decide) kz) ?_
    refine jx_of (fun _ _ kz => jw_putI fl_Y_182 (Or.inl rfl) rfl rfl d_Y_giveNotice_12 rfl rfl kz) ?_
    refine jx_of (fun _ _ kz => jw_iconst 0 d_Y_giveNotice_15 (by decide) kz) ?_
    refine jx_zret d_Y_giveNotice_16 rfl (by decide) ?_
    exact ⟨Or.inl rfl, yI_k hY (by omega), yk_sI yk_rf (by omega)⟩
set_option maxRecDepth 20000 in
set_option maxHeartbeats 4000000 in
theorem y_Y_permitsOf {G : Gt} {M : Me} (d : Nat) (a : Int32) : sx G yt_Y_permitsOf yn_Y_permitsOf (d + 1) [.inl a] M (fun r M' => r = some (.inl (1 + (a / 2))) ∧ M = M') := by
  refine sx_of (k := 0) (lc := [some (.inl a)]) mt_Y_permitsOf (Nat.le_of_ble_eq_true rfl) rfl ?_
  refine jx_of (fun _ _ kz => jw_iconst 1 d_Y_permitsOf_0 (by decide) kz) ?_
  refine jx_of (fun _ _ kz => jw_iload_n 0 d_Y_permitsOf_1 rfl rfl kz) ?_
  refine jx_of (fun _ _ kz => jw_iconst 2 d_Y_permitsOf_2 (by decide) kz) ?_
  refine jx_of (fun _ _ kz => jw_idiv d_Y_permitsOf_3 (by decide) kz) ?_
  refine jx_of (fun _ _ kz => jw_iadd d_Y_permitsOf_4 kz) ?_
  refine jx_iret d_Y_permitsOf_5 rfl ?_
  exact ⟨rfl, rfl⟩
set_option maxRecDepth 20000 in
set_option maxHeartbeats 4000000 in
theorem y_Y_ap_x {G : Gt} {M M1 : Me} (d g np nt : Nat) (hg : g < 2) (ad lf ks : Int32) (o5 o6 o7 o8 o9 : Option AV) (h1 : yI M1 np nt) (k1 : yk M M1) (c0 s0 : Nat) : jx G yt_Y_addPermits (d + 3) c0 s0 M1 137 [some (.inr (some (0, 0))), some (.inr (some (5, g))), some (.inl ad), some (.inl lf), some (.inl (ks)), o5, o6, o7, o8, o9] [] (fun r M' => r = none ∧ yI M' np nt ∧ yk M M') := by
  refine jx_of (fun _ _ kz => jw_aload_n 1 d_Y_addPermits_137 rfl rfl kz) ?_
  refine jx_of (fun _ _ kz => jw_dup d_Y_addPermits_138 kz) ?_
  refine jx_of (fun _ _ kz => jw_getIe (me_I M1 5 g 1) fl_Y_137 d_Y_addPermits_139 rfl rfl rfl kz) ?_
  refine jx_of (fun _ _ kz => jw_iload_n 3 d_Y_addPermits_142 rfl rfl kz) ?_
  refine jx_of (fun _ _ kz => jw_iadd d_Y_addPermits_143 kz) ?_
  refine jx_of (fun _ _ kz => jw_putI fl_Y_137 (Or.inl rfl) rfl rfl d_Y_addPermits_144 rfl rfl kz) ?_
  refine jx_vret d_Y_addPermits_147 rfl ?_
  exact ⟨rfl, yI_k h1 (by omega), yk_sI k1 (by omega)⟩
set_option maxRecDepth 20000 in
set_option maxHeartbeats 4000000 in
theorem y_Y_ap_l {G : Gt} {M : Me} (d g np nt : Nat) (hg : g < 2) (ad : Int32) (c0 s0 : Nat) : ∀ (k : Nat) (M1 : Me) (lf : Int32) (o5 o6 o7 o8 o9 : Option AV), k ≤ 144 → yI M1 np nt → yk M M1 → jx G yt_Y_addPermits (d + 3) c0 s0 M1 11 [some (.inr (some (0, 0))), some (.inr (some (5, g))), some (.inl ad), some (.inl lf), some (.inl (nI k)), o5, o6, o7, o8, o9] [] (fun r M' => r = none ∧ yI M' np nt ∧ yk M M') := by
  intro k
  induction k with
  | zero =>
    intro M1 lf o5 o6 o7 o8 o9 hk h1 k1
    refine jx_of (fun _ _ kz => jw_iload d_Y_addPermits_11 rfl kz) ?_
    refine jx_if_le 137 d_Y_addPermits_13 (by decide) (fun _ => ?_) (fun h => absurd (by decide) h)
    exact y_Y_ap_x d g np nt hg ad _ _ _ _ _ _ _ h1 k1 _ _
  | succ k ih =>
    intro M1 lf o5 o6 o7 o8 o9 hk h1 k1
    refine jx_of (fun _ _ kz => jw_iload d_Y_addPermits_11 rfl kz) ?_
    refine jx_if_le 137 d_Y_addPermits_13 (by decide) (fun h => absurd h (nI_nle (by omega) (by omega))) (fun _ => ?_)
    refine jx_of (fun _ _ kz => jw_iload_n 3 d_Y_addPermits_16 rfl rfl kz) ?_
    refine jx_if_le 137 d_Y_addPermits_17 (by decide) (fun b_17 => ?_) (fun b_17 => ?_)
    · skip
      exact y_Y_ap_x d g np nt hg ad _ _ _ _ _ _ _ h1 k1 _ _
    · skip
      refine jx_of (fun _ _ kz => jw_aload_n 1 d_Y_addPermits_20 rfl rfl kz) ?_
      refine jx_of (fun _ _ kz => jw_getPe (some (4, (5 + g))) fl_Y_175 d_Y_addPermits_21 rfl rfl (by simp [me_I_sI, me_I_sP, me_I_nx, me_P_sI, me_P_sP, me_P_nx, me_N_sI, me_N_sP, me_N_nx, me_L_sI, me_L_sP, me_L_nx, show me_P M1 5 g 0 = some (4, 5 + g) from yg5 h1 hg]) kz) ?_
      refine jx_of (fun _ _ kz => jw_iconst 0 d_Y_addPermits_24 (by decide) kz) ?_
      refine jx_callV (y_R_at (d + 1) (((5 + g))) 0 (h1.1.2.2 (5 + g) (by omega))) mt_R_at cf_R rfl rfl ml_Y_169 im_R_at se_R_at d_Y_addPermits_25 rfl rfl (Nat.le_of_ble_eq_true rfl) ?_
      rintro _ _ ⟨⟨v, rfl⟩, rfl⟩
      refine jx_eq (st2 := [.inl v]) rfl rfl rfl ?_
      refine jx_of (fun _ _ kz => jw_istore d_Y_addPermits_28 (Nat.le_of_ble_eq_true rfl) kz) ?_
      dsimp only [List.set]
      refine jx_of (fun _ _ kz => jw_aload_n 0 d_Y_addPermits_30 rfl rfl kz) ?_
      refine jx_of (fun _ _ kz => jw_iload d_Y_addPermits_31 rfl kz) ?_
      refine jx_callV (y_Y_ownerOf d v np nt h1) mt_Y_ownerOf cf_Y rfl rfl ml_Y_201 im_Y_ownerOf se_Y_ownerOf d_Y_addPermits_33 rfl rfl (Nat.le_of_ble_eq_true rfl) ?_
      rintro r _ ⟨hr, rfl⟩
      rcases hr with rfl | ⟨t9, ht9, ex9, rfl⟩
      · skip
        refine jx_eq (st2 := [.inr none]) rfl rfl rfl ?_
        refine jx_of (fun _ _ kz => jw_astore d_Y_addPermits_36 (Nat.le_of_ble_eq_true rfl) kz) ?_
        dsimp only [List.set]
        refine jx_of (fun _ _ kz => jw_aload d_Y_addPermits_38 rfl kz) ?_
        refine jx_ifnonnull 46 d_Y_addPermits_40 (by decide) (fun _ h => by cases h) (fun _ => ?_)
        refine jx_of (fun _ _ kz => jw_goto 137 d_Y_addPermits_43 (by decide) kz) ?_
        exact y_Y_ap_x d g np nt hg ad _ _ _ _ _ _ _ h1 k1 _ _
      · skip
        obtain ⟨p9, n9, o9, hp9, hT9⟩ := (h1.2.2.2.2 t9 ht9).2
        refine jx_eq (st2 := [.inr (some (2, t9))]) rfl rfl rfl ?_
        refine jx_of (fun _ _ kz => jw_astore d_Y_addPermits_36 (Nat.le_of_ble_eq_true rfl) kz) ?_
        dsimp only [List.set]
        refine jx_of (fun _ _ kz => jw_aload d_Y_addPermits_38 rfl kz) ?_
        refine jx_ifnonnull 46 d_Y_addPermits_40 (by decide) (fun _ _ => ?_) (fun h => by cases h)
        obtain ⟨j, hj, rfl⟩ := nI_of ex9
        refine jx_of (fun _ _ kz => jw_iload d_Y_addPermits_46 rfl kz) ?_
        refine jx_of (fun _ _ kz => jw_bipush 12 d_Y_addPermits_48 (by decide) kz) ?_
        refine jx_of (fun _ _ kz => jw_irem d_Y_addPermits_50 (by decide) kz) ?_
        rw [show ((nI j) - (nI j) / 12 * 12 : Int32) = nI (j % 12) from pk_rem (by omega) (by decide) (by decide)]
        refine jx_of (fun _ _ kz => jw_istore d_Y_addPermits_51 (Nat.le_of_ble_eq_true rfl) kz) ?_
        dsimp only [List.set]
        refine jx_of (fun _ _ kz => jw_aload d_Y_addPermits_53 rfl kz) ?_
        refine jx_of (fun _ _ kz => jw_getPe (some (1, p9)) fl_Y_257 d_Y_addPermits_55 rfl rfl (by simp [me_I_sI, me_I_sP, me_I_nx, me_P_sI, me_P_sP, me_P_nx, me_N_sI, me_N_sP, me_N_nx, me_L_sI, me_L_sP, me_L_nx, show me_P M1 2 t9 2 = some (1, p9) from hT9.1.1]) kz) ?_
        refine jx_of (fun _ _ kz => jw_getPe (some (12, p9)) fl_Y_266 d_Y_addPermits_58 rfl rfl (by simp [me_I_sI, me_I_sP, me_I_nx, me_P_sI, me_P_sP, me_P_nx, me_N_sI, me_N_sP, me_N_nx, me_L_sI, me_L_sP, me_L_nx, show me_P M1 1 p9 1 = some (12, p9) from hT9.2.1.2.1]) kz) ?_
        refine jx_of (fun _ _ kz => jw_iload d_Y_addPermits_61 rfl kz) ?_
        refine jx_of (fun _ _ kz => jw_ialde (_) d_Y_addPermits_63 rfl rfl (by rw [show me_L _ 12 p9 = 12 from (by simp [me_I_sI, me_I_sP, me_I_nx, me_P_sI, me_P_sP, me_P_nx, me_N_sI, me_N_sP, me_N_nx, me_L_sI, me_L_sP, me_L_nx, show me_L M1 12 p9 = 12 from hT9.2.1.2.2.2.2.1])]; exact (vp_in_nI (by omega) (by omega))) rfl kz) ?_
        refine jx_callS (y_Y_permitsOf (d + 1) _) mt_Y_permitsOf ml_Y_286 sm_Y_permitsOf d_Y_addPermits_64 rfl rfl (Nat.le_of_ble_eq_true rfl) ?_
        rintro _ _ ⟨rfl, rfl⟩
        refine jx_eq (st2 := [.inl (1 + (_ / 2))]) rfl rfl rfl ?_
        refine jx_of (fun _ _ kz => jw_istore d_Y_addPermits_67 (Nat.le_of_ble_eq_true rfl) kz) ?_
        dsimp only [List.set]
        refine jx_of (fun _ _ kz => jw_iload_n 3 d_Y_addPermits_69 rfl rfl kz) ?_
        refine jx_of (fun _ _ kz => jw_iload d_Y_addPermits_70 rfl kz) ?_
        refine jx_of (fun _ _ kz => jw_aload d_Y_addPermits_72 rfl kz) ?_
        refine jx_of (fun _ _ kz => jw_getPe (some (16, t9)) fl_Y_204 d_Y_addPermits_74 rfl rfl (by simp [me_I_sI, me_I_sP, me_I_nx, me_P_sI, me_P_sP, me_P_nx, me_N_sI, me_N_sP, me_N_nx, me_L_sI, me_L_sP, me_L_nx, show me_P M1 2 t9 10 = some (16, t9) from hT9.1.2.2.2.1]) kz) ?_
        refine jx_of (fun _ _ kz => jw_iload d_Y_addPermits_77 rfl kz) ?_
        refine jx_of (fun _ _ kz => jw_ialde (_) d_Y_addPermits_79 rfl rfl (by rw [show me_L _ 16 t9 = 12 from (by simp [me_I_sI, me_I_sP, me_I_nx, me_P_sI, me_P_sP, me_P_nx, me_N_sI, me_N_sP, me_N_nx, me_L_sI, me_L_sP, me_L_nx, show me_L M1 16 t9 = 12 from hT9.1.2.2.2.2.2.2])]; exact (vp_in_nI (by omega) (by omega))) rfl kz) ?_
        refine jx_of (fun _ _ kz => jw_isub d_Y_addPermits_80 kz) ?_
        refine jx_of (fun _ _ kz => jw_mmin ml_Y_338 sm_Math_min ii_Math co_Math_min d_Y_addPermits_81 (Nat.le_of_ble_eq_true rfl) kz) ?_
        refine jx_of (fun _ _ kz => jw_istore d_Y_addPermits_84 (Nat.le_of_ble_eq_true rfl) kz) ?_
        dsimp only [List.set]
        refine jx_of (fun _ _ kz => jw_aload d_Y_addPermits_86 rfl kz) ?_
        refine jx_of (fun _ _ kz => jw_getPe (some (16, t9)) fl_Y_204 d_Y_addPermits_88 rfl rfl (by simp [me_I_sI, me_I_sP, me_I_nx, me_P_sI, me_P_sP, me_P_nx, me_N_sI, me_N_sP, me_N_nx, me_L_sI, me_L_sP, me_L_nx, show me_P M1 2 t9 10 = some (16, t9) from hT9.1.2.2.2.1]) kz) ?_
        refine jx_of (fun _ _ kz => jw_iload d_Y_addPermits_91 rfl kz) ?_
        refine jx_of (fun _ _ kz => jw_dup2 d_Y_addPermits_93 kz) ?_
        refine jx_of (fun _ _ kz => jw_ialde (_) d_Y_addPermits_94 rfl rfl (by rw [show me_L _ 16 t9 = 12 from (by simp [me_I_sI, me_I_sP, me_I_nx, me_P_sI, me_P_sP, me_P_nx, me_N_sI, me_N_sP, me_N_nx, me_L_sI, me_L_sP, me_L_nx, show me_L M1 16 t9 = 12 from hT9.1.2.2.2.2.2.2])]; exact (vp_in_nI (by omega) (by omega))) rfl kz) ?_
        refine jx_of (fun _ _ kz => jw_iload d_Y_addPermits_95 rfl kz) ?_
        refine jx_of (fun _ _ kz => jw_iadd d_Y_addPermits_97 kz) ?_
        refine jx_of (fun _ _ kz => jw_iast d_Y_addPermits_98 rfl rfl (by rw [show me_L _ 16 t9 = 12 from (by simp [me_I_sI, me_I_sP, me_I_nx, me_P_sI, me_P_sP, me_P_nx, me_N_sI, me_N_sP, me_N_nx, me_L_sI, me_L_sP, me_L_nx, show me_L M1 16 t9 = 12 from hT9.1.2.2.2.2.2.2])]; exact (vp_in_nI (by omega) (by omega))) kz) ?_
        rw [nI_clamp (by omega)]
        refine jx_of (fun _ _ kz => jw_iload_n 3 d_Y_addPermits_99 rfl rfl kz) ?_
        refine jx_of (fun _ _ kz => jw_iload d_Y_addPermits_100 rfl kz) ?_
        refine jx_of (fun _ _ kz => jw_isub d_Y_addPermits_102 kz) ?_
        refine jx_of (fun _ _ kz => jw_istore_n 3 d_Y_addPermits_103 rfl (Nat.le_of_ble_eq_true rfl) kz) ?_
        dsimp only [List.set]
        refine jx_of (fun _ _ kz => jw_aload d_Y_addPermits_104 rfl kz) ?_
        refine jx_of (fun _ _ kz => jw_getPe (some (16, t9)) fl_Y_204 d_Y_addPermits_106 rfl rfl (by simp [me_I_sI, me_I_sP, me_I_nx, me_P_sI, me_P_sP, me_P_nx, me_N_sI, me_N_sP, me_N_nx, me_L_sI, me_L_sP, me_L_nx, show me_P M1 2 t9 10 = some (16, t9) from hT9.1.2.2.2.1]) kz) ?_
        refine jx_of (fun _ _ kz => jw_iload d_Y_addPermits_109 rfl kz) ?_
        refine jx_of (fun _ _ kz => jw_ialde (_) d_Y_addPermits_111 rfl rfl (by rw [show me_L _ 16 t9 = 12 from (by simp [me_I_sI, me_I_sP, me_I_nx, me_P_sI, me_P_sP, me_P_nx, me_N_sI, me_N_sP, me_N_nx, me_L_sI, me_L_sP, me_L_nx, show me_L M1 16 t9 = 12 from hT9.1.2.2.2.2.2.2])]; exact (vp_in_nI (by omega) (by omega))) rfl kz) ?_
        refine jx_of (fun _ _ kz => jw_iload d_Y_addPermits_112 rfl kz) ?_
        refine jx_icmp_lt 131 d_Y_addPermits_114 (by decide) (fun b_114 => ?_) (fun b_114 => ?_)
        · skip
          refine jx_of (fun _ _ kz => jw_iincc (-1) d_Y_addPermits_131 (by decide) rfl (Nat.le_of_ble_eq_true rfl) kz) ?_
          dsimp only [List.set]
          refine jx_of (fun _ _ kz => jw_goto 11 d_Y_addPermits_134 (by decide) kz) ?_
          rw [n_m1]
          first | exact ih _ _ _ _ _ _ _ (by omega) h3 (yk_tr (yk_tr (yk_tr k1 (yk_tc (tc_sI tc_rf (by omega)))) (yk_rc cM2)) k3) | exact ih _ _ _ _ _ _ _ (by omega) (yI_tc h1 (tc_sI tc_rf (by omega))) (yk_tr k1 (yk_tc (tc_sI tc_rf (by omega))))
        · skip
          refine jx_of (fun _ _ kz => jw_aload_n 1 d_Y_addPermits_117 rfl rfl kz) ?_
          refine jx_of (fun _ _ kz => jw_getPe (some (4, (5 + g))) fl_Y_175 d_Y_addPermits_118 rfl rfl (by simp [me_I_sI, me_I_sP, me_I_nx, me_P_sI, me_P_sP, me_P_nx, me_N_sI, me_N_sP, me_N_nx, me_L_sI, me_L_sP, me_L_nx, show me_P M1 5 g 0 = some (4, 5 + g) from yg5 h1 hg]) kz) ?_
          refine jx_callV (y_R_takeFirst d (((5 + g))) ((yI_tc h1 (tc_sI tc_rf (by omega))).1.2.2 (5 + g) (by omega))) mt_R_takeFirst cf_R rfl rfl ml_Y_231 im_R_takeFirst se_R_takeFirst d_Y_addPermits_121 rfl rfl (Nat.le_of_ble_eq_true rfl) ?_
          rintro _ M2 ⟨⟨v2, rfl⟩, rM2, cM2⟩
          have h2 := yI_rc (yI_tc h1 (tc_sI tc_rf (by omega))) cM2 rM2
          refine jx_eq (st2 := [.inl v2]) rfl rfl rfl ?_
          refine jx_of (fun _ _ kz => jw_pop d_Y_addPermits_124 kz) ?_
          refine jx_of (fun _ _ kz => jw_aload_n 0 d_Y_addPermits_125 rfl rfl kz) ?_
          refine jx_of (fun _ _ kz => jw_aload d_Y_addPermits_126 rfl kz) ?_
          refine jx_callV (y_Y_wakeTask d t9 np nt h2  ht9) mt_Y_wakeTask cf_Y rfl rfl ml_Y_220 im_Y_wakeTask se_Y_wakeTask d_Y_addPermits_128 rfl rfl (Nat.le_of_ble_eq_true rfl) ?_
          rintro _ M3 ⟨rfl, h3, k3⟩
          refine jx_eq (st2 := []) rfl rfl rfl ?_
          refine jx_of (fun _ _ kz => jw_iincc (-1) d_Y_addPermits_131 (by decide) rfl (Nat.le_of_ble_eq_true rfl) kz) ?_
          dsimp only [List.set]
          refine jx_of (fun _ _ kz => jw_goto 11 d_Y_addPermits_134 (by decide) kz) ?_
          rw [n_m1]
          first | exact ih _ _ _ _ _ _ _ (by omega) h3 (yk_tr (yk_tr (yk_tr k1 (yk_tc (tc_sI tc_rf (by omega)))) (yk_rc cM2)) k3) | exact ih _ _ _ _ _ _ _ (by omega) (yI_tc h1 (tc_sI tc_rf (by omega))) (yk_tr k1 (yk_tc (tc_sI tc_rf (by omega))))
set_option maxRecDepth 20000 in
set_option maxHeartbeats 4000000 in
theorem y_Y_addPermits {G : Gt} {M : Me} (d : Nat) (g : Nat) (ad : Int32) (np : Nat) (nt : Nat) (hY : yI M np nt) (hg : g < 2) : sx G yt_Y_addPermits yn_Y_addPermits (d + 3) [.inr (some (0, 0)), .inr (some (5, g)), .inl ad] M (fun r M' => r = none ∧ yI M' np nt ∧ yk M M') := by
  refine sx_of (k := 7) (lc := [some (.inr (some (0, 0))), some (.inr (some (5, g))), some (.inl ad), none, none, none, none, none, none, none]) mt_Y_addPermits (Nat.le_of_ble_eq_true rfl) rfl ?_
  obtain ⟨n, hn1, hn2⟩ := (hY.1.2.2 (5 + g) (by omega)).2.2
  have hn3 := (hY.1.2.2 (5 + g) (by omega)).2.1
  refine jx_of (fun _ _ kz => jw_iload_n 2 d_Y_addPermits_0 rfl rfl kz) ?_
  refine jx_of (fun _ _ kz => jw_istore_n 3 d_Y_addPermits_1 rfl (Nat.le_of_ble_eq_true rfl) kz) ?_
  dsimp only [List.set]
  refine jx_of (fun _ _ kz => jw_aload_n 1 d_Y_addPermits_2 rfl rfl kz) ?_
  refine jx_of (fun _ _ kz => jw_getPe (some (4, (5 + g))) fl_Y_175 d_Y_addPermits_3 rfl rfl (by simp [me_I_sI, me_I_sP, me_I_nx, me_P_sI, me_P_sP, me_P_nx, me_N_sI, me_N_sP, me_N_nx, me_L_sI, me_L_sP, me_L_nx, show me_P M 5 g 0 = some (4, 5 + g) from yg5 hY hg]) kz) ?_
  refine jx_of (fun _ _ kz => jw_getIe (nI n) fl_Y_168 d_Y_addPermits_6 rfl rfl hn2 kz) ?_
  refine jx_of (fun _ _ kz => jw_istore d_Y_addPermits_9 (Nat.le_of_ble_eq_true rfl) kz) ?_
  dsimp only [List.set]
  exact y_Y_ap_l d g np nt hg ad _ _ n M _ _ _ _ _ _ (by omega) hY yk_rf
