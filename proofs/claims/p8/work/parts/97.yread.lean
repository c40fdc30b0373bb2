set_option maxRecDepth 20000 in
set_option maxHeartbeats 4000000 in
theorem y_Y_whereQueued {G : Gt} {M : Me} (d : Nat) (x : Int32) (np : Nat) (nt : Nat) (hY : yI M np nt) : sx G yt_Y_whereQueued yn_Y_whereQueued (d + 3) [.inr (some (0, 0)), .inl x] M (fun r M' => (∃ v : Int32, r = some (.inl v)) ∧ M = M') := by
  refine sx_of (k := 4) (lc := [some (.inr (some (0, 0))), some (.inl x), none, none, none, none]) mt_Y_whereQueued (Nat.le_of_ble_eq_true rfl) rfl ?_
  refine jx_of (fun _ _ kz => jw_aload_n 0 d_Y_whereQueued_0 rfl rfl kz) ?_
  refine jx_of (fun _ _ kz => jw_getPe (some (4, 3)) fl_Y_45 d_Y_whereQueued_1 rfl rfl (by simp [me_I_sI, me_I_sP, me_I_nx, me_P_sI, me_P_sP, me_P_nx, me_N_sI, me_N_sP, me_N_nx, me_L_sI, me_L_sP, me_L_nx, show me_P M 0 0 6 = some (4, 3) from hY.1.1 (0, 0, 6, 4, 3) (by decide)]) kz) ?_
  refine jx_of (fun _ _ kz => jw_iload_n 1 d_Y_whereQueued_4 rfl rfl kz) ?_
  refine jx_callV (y_R_holds d 3 x (hY.1.2.2 _ (by omega))) mt_R_holds cf_R rfl rfl ml_Y_191 im_R_holds se_R_holds d_Y_whereQueued_5 rfl rfl (Nat.le_of_ble_eq_true rfl) ?_
  rintro r _ ⟨hr, rfl⟩
  obtain ⟨ra, rfl⟩ : ∃ v : Int32, r = some (.inl v) := by rcases hr with hr | hr; exact ⟨_, hr⟩; exact ⟨_, hr⟩
  refine jx_eq (st2 := [.inl ra]) rfl rfl rfl ?_
  refine jx_if_eq 13 d_Y_whereQueued_8 (by decide) (fun b_8 => ?_) (fun b_8 => ?_)
  · skip
    refine jx_of (fun _ _ kz => jw_aload_n 0 d_Y_whereQueued_13 rfl rfl kz) ?_
    refine jx_of (fun _ _ kz => jw_getPe (some (19, 0)) fl_Y_38 d_Y_whereQueued_14 rfl rfl (by simp [me_I_sI, me_I_sP, me_I_nx, me_P_sI, me_P_sP, me_P_nx, me_N_sI, me_N_sP, me_N_nx, me_L_sI, me_L_sP, me_L_nx, show me_P M 0 0 5 = some (19, 0) from hY.1.1 (0, 0, 5, 19, 0) (by decide)]) kz) ?_
    refine jx_of (fun _ _ kz => jw_astore_n 2 d_Y_whereQueued_17 rfl (Nat.le_of_ble_eq_true rfl) kz) ?_
    dsimp only [List.set]
    refine jx_of (fun _ _ kz => jw_aload_n 2 d_Y_whereQueued_18 rfl rfl kz) ?_
    refine jx_of (fun _ _ kz => jw_alen (3) d_Y_whereQueued_19 rfl rfl (by rw [show me_L _ 19 0 = 3 from (by simp [me_I_sI, me_I_sP, me_I_nx, me_P_sI, me_P_sP, me_P_nx, me_N_sI, me_N_sP, me_N_nx, me_L_sI, me_L_sP, me_L_nx, show me_L M 19 0 = 3 from hY.1.2.1 (19, 0, 3) (by decide)])]; rfl) kz) ?_
    refine jx_of (fun _ _ kz => jw_istore_n 3 d_Y_whereQueued_20 rfl (Nat.le_of_ble_eq_true rfl) kz) ?_
    dsimp only [List.set]
    refine jx_of (fun _ _ kz => jw_iconst 0 d_Y_whereQueued_21 (by decide) kz) ?_
    refine jx_of (fun _ _ kz => jw_istore d_Y_whereQueued_22 (Nat.le_of_ble_eq_true rfl) kz) ?_
    dsimp only [List.set]
    refine jx_of (fun _ _ kz => jw_iload d_Y_whereQueued_24 rfl kz) ?_
    refine jx_of (fun _ _ kz => jw_iload_n 3 d_Y_whereQueued_26 rfl rfl kz) ?_
    refine jx_icmp_ge 79 d_Y_whereQueued_27 (by decide) (fun h => absurd h (by decide)) (fun _ => ?_)
    refine jx_of (fun _ _ kz => jw_aload_n 2 d_Y_whereQueued_30 rfl rfl kz) ?_
    refine jx_of (fun _ _ kz => jw_iload d_Y_whereQueued_31 rfl kz) ?_
    refine jx_of (fun _ _ kz => jw_aalde (some (3, 0)) d_Y_whereQueued_33 rfl rfl (by rw [show me_L _ 19 0 = 3 from (by simp [me_I_sI, me_I_sP, me_I_nx, me_P_sI, me_P_sP, me_P_nx, me_N_sI, me_N_sP, me_N_nx, me_L_sI, me_L_sP, me_L_nx, show me_L M 19 0 = 3 from hY.1.2.1 (19, 0, 3) (by decide)])]; unfold vp_in; decide) (by simp [me_I_sI, me_I_sP, me_I_nx, me_P_sI, me_P_sP, me_P_nx, me_N_sI, me_N_sP, me_N_nx, me_L_sI, me_L_sP, me_L_nx, show me_P M 19 0 0 = some (3, 0) from hY.1.1 (19, 0, 0, 3, 0) (by decide)]) kz) ?_
    refine jx_of (fun _ _ kz => jw_astore d_Y_whereQueued_34 (Nat.le_of_ble_eq_true rfl) kz) ?_
    dsimp only [List.set]
    refine jx_of (fun _ _ kz => jw_aload d_Y_whereQueued_36 rfl kz) ?_
    refine jx_of (fun _ _ kz => jw_getIe (_) fl_Y_159 d_Y_whereQueued_38 rfl rfl rfl kz) ?_
    refine jx_of (fun _ _ kz => jw_iload_n 1 d_Y_whereQueued_41 rfl rfl kz) ?_
    refine jx_icmp_ne 53 d_Y_whereQueued_42 (by decide) (fun b_42 => ?_) (fun b_42 => ?_)
    · skip
      refine jx_of (fun _ _ kz => jw_aload d_Y_whereQueued_53 rfl kz) ?_
      refine jx_of (fun _ _ kz => jw_getPe (some (4, 0)) fl_Y_165 d_Y_whereQueued_55 rfl rfl (by simp [me_I_sI, me_I_sP, me_I_nx, me_P_sI, me_P_sP, me_P_nx, me_N_sI, me_N_sP, me_N_nx, me_L_sI, me_L_sP, me_L_nx, show me_P M 3 0 1 = some (4, 0) from hY.1.1 (3, 0, 1, 4, 0) (by decide)]) kz) ?_
      refine jx_of (fun _ _ kz => jw_iload_n 1 d_Y_whereQueued_58 rfl rfl kz) ?_
      refine jx_callV (y_R_holds d 0 x (hY.1.2.2 _ (by omega))) mt_R_holds cf_R rfl rfl ml_Y_191 im_R_holds se_R_holds d_Y_whereQueued_59 rfl rfl (Nat.le_of_ble_eq_true rfl) ?_
      rintro r _ ⟨hr, rfl⟩
      obtain ⟨rb, rfl⟩ : ∃ v : Int32, r = some (.inl v) := by rcases hr with hr | hr; exact ⟨_, hr⟩; exact ⟨_, hr⟩
      refine jx_eq (st2 := [.inl rb]) rfl rfl rfl ?_
      refine jx_if_eq 73 d_Y_whereQueued_62 (by decide) (fun b_62 => ?_) (fun b_62 => ?_)
      · skip
        refine jx_of (fun _ _ kz => jw_iincc 1 d_Y_whereQueued_73 (by decide) rfl (Nat.le_of_ble_eq_true rfl) kz) ?_
        dsimp only [List.set]
        rw [show (0 + 1 : Int32) = 1 from by decide]
        refine jx_of (fun _ _ kz => jw_goto 24 d_Y_whereQueued_76 (by decide) kz) ?_
        refine jx_of (fun _ _ kz => jw_iload d_Y_whereQueued_24 rfl kz) ?_
        refine jx_of (fun _ _ kz => jw_iload_n 3 d_Y_whereQueued_26 rfl rfl kz) ?_
        refine jx_icmp_ge 79 d_Y_whereQueued_27 (by decide) (fun h => absurd h (by decide)) (fun _ => ?_)
        refine jx_of (fun _ _ kz => jw_aload_n 2 d_Y_whereQueued_30 rfl rfl kz) ?_
        refine jx_of (fun _ _ kz => jw_iload d_Y_whereQueued_31 rfl kz) ?_
        refine jx_of (fun _ _ kz => jw_aalde (some (3, 1)) d_Y_whereQueued_33 rfl rfl (by rw [show me_L _ 19 0 = 3 from (by simp [me_I_sI, me_I_sP, me_I_nx, me_P_sI, me_P_sP, me_P_nx, me_N_sI, me_N_sP, me_N_nx, me_L_sI, me_L_sP, me_L_nx, show me_L M 19 0 = 3 from hY.1.2.1 (19, 0, 3) (by decide)])]; unfold vp_in; decide) (by simp [me_I_sI, me_I_sP, me_I_nx, me_P_sI, me_P_sP, me_P_nx, me_N_sI, me_N_sP, me_N_nx, me_L_sI, me_L_sP, me_L_nx, show me_P M 19 0 1 = some (3, 1) from hY.1.1 (19, 0, 1, 3, 1) (by decide)]) kz) ?_
        refine jx_of (fun _ _ kz => jw_astore d_Y_whereQueued_34 (Nat.le_of_ble_eq_true rfl) kz) ?_
        dsimp only [List.set]
        refine jx_of (fun _ _ kz => jw_aload d_Y_whereQueued_36 rfl kz) ?_
        refine jx_of (fun _ _ kz => jw_getIe (_) fl_Y_159 d_Y_whereQueued_38 rfl rfl rfl kz) ?_
        refine jx_of (fun _ _ kz => jw_iload_n 1 d_Y_whereQueued_41 rfl rfl kz) ?_
        refine jx_icmp_ne 53 d_Y_whereQueued_42 (by decide) (fun b_42 => ?_) (fun b_42 => ?_)
        · skip
          refine jx_of (fun _ _ kz => jw_aload d_Y_whereQueued_53 rfl kz) ?_
          refine jx_of (fun _ _ kz => jw_getPe (some (4, 1)) fl_Y_165 d_Y_whereQueued_55 rfl rfl (by simp [me_I_sI, me_I_sP, me_I_nx, me_P_sI, me_P_sP, me_P_nx, me_N_sI, me_N_sP, me_N_nx, me_L_sI, me_L_sP, me_L_nx, show me_P M 3 1 1 = some (4, 1) from hY.1.1 (3, 1, 1, 4, 1) (by decide)]) kz) ?_
          refine jx_of (fun _ _ kz => jw_iload_n 1 d_Y_whereQueued_58 rfl rfl kz) ?_
          refine jx_callV (y_R_holds d 1 x (hY.1.2.2 _ (by omega))) mt_R_holds cf_R rfl rfl ml_Y_191 im_R_holds se_R_holds d_Y_whereQueued_59 rfl rfl (Nat.le_of_ble_eq_true rfl) ?_
          rintro r _ ⟨hr, rfl⟩
          obtain ⟨rb, rfl⟩ : ∃ v : Int32, r = some (.inl v) := by rcases hr with hr | hr; exact ⟨_, hr⟩; exact ⟨_, hr⟩
          refine jx_eq (st2 := [.inl rb]) rfl rfl rfl ?_
          refine jx_if_eq 73 d_Y_whereQueued_62 (by decide) (fun b_62 => ?_) (fun b_62 => ?_)
          · skip
            refine jx_of (fun _ _ kz => jw_iincc 1 d_Y_whereQueued_73 (by decide) rfl (Nat.le_of_ble_eq_true rfl) kz) ?_
            dsimp only [List.set]
            rw [show (1 + 1 : Int32) = 2 from by decide]
            refine jx_of (fun _ _ kz => jw_goto 24 d_Y_whereQueued_76 (by decide) kz) ?_
            refine jx_of (fun _ _ kz => jw_iload d_Y_whereQueued_24 rfl kz) ?_
            refine jx_of (fun _ _ kz => jw_iload_n 3 d_Y_whereQueued_26 rfl rfl kz) ?_
            refine jx_icmp_ge 79 d_Y_whereQueued_27 (by decide) (fun h => absurd h (by decide)) (fun _ => ?_)
            refine jx_of (fun _ _ kz => jw_aload_n 2 d_Y_whereQueued_30 rfl rfl kz) ?_
            refine jx_of (fun _ _ kz => jw_iload d_Y_whereQueued_31 rfl kz) ?_
            refine jx_of (fun _ _ kz => jw_aalde (some (3, 2)) d_Y_whereQueued_33 rfl rfl (by rw [show me_L _ 19 0 = 3 from (by simp [me_I_sI, me_I_sP, me_I_nx, me_P_sI, me_P_sP, me_P_nx, me_N_sI, me_N_sP, me_N_nx, me_L_sI, me_L_sP, me_L_nx, show me_L M 19 0 = 3 from hY.1.2.1 (19, 0, 3) (by decide)])]; unfold vp_in; decide) (by simp [me_I_sI, me_I_sP, me_I_nx, me_P_sI, me_P_sP, me_P_nx, me_N_sI, me_N_sP, me_N_nx, me_L_sI, me_L_sP, me_L_nx, show me_P M 19 0 2 = some (3, 2) from hY.1.1 (19, 0, 2, 3, 2) (by decide)]) kz) ?_
            refine jx_of (fun _ _ kz => jw_astore d_Y_whereQueued_34 (Nat.le_of_ble_eq_true rfl) kz) ?_
            dsimp only [List.set]
            refine jx_of (fun _ _ kz => jw_aload d_Y_whereQueued_36 rfl kz) ?_
            refine jx_of (fun _ _ kz => jw_getIe (_) fl_Y_159 d_Y_whereQueued_38 rfl rfl rfl kz) ?_
            refine jx_of (fun _ _ kz => jw_iload_n 1 d_Y_whereQueued_41 rfl rfl kz) ?_
            refine jx_icmp_ne 53 d_Y_whereQueued_42 (by decide) (fun b_42 => ?_) (fun b_42 => ?_)
            · skip
              refine jx_of (fun _ _ kz => jw_aload d_Y_whereQueued_53 rfl kz) ?_
              refine jx_of (fun _ _ kz => jw_getPe (some (4, 2)) fl_Y_165 d_Y_whereQueued_55 rfl rfl (by simp [me_I_sI, me_I_sP, me_I_nx, me_P_sI, me_P_sP, me_P_nx, me_N_sI, me_N_sP, me_N_nx, me_L_sI, me_L_sP, me_L_nx, show me_P M 3 2 1 = some (4, 2) from hY.1.1 (3, 2, 1, 4, 2) (by decide)]) kz) ?_
              refine jx_of (fun _ _ kz => jw_iload_n 1 d_Y_whereQueued_58 rfl rfl kz) ?_
              refine jx_callV (y_R_holds d 2 x (hY.1.2.2 _ (by omega))) mt_R_holds cf_R rfl rfl ml_Y_191 im_R_holds se_R_holds d_Y_whereQueued_59 rfl rfl (Nat.le_of_ble_eq_true rfl) ?_
              rintro r _ ⟨hr, rfl⟩
              obtain ⟨rb, rfl⟩ : ∃ v : Int32, r = some (.inl v) := by rcases hr with hr | hr; exact ⟨_, hr⟩; exact ⟨_, hr⟩
              refine jx_eq (st2 := [.inl rb]) rfl rfl rfl ?_
              refine jx_if_eq 73 d_Y_whereQueued_62 (by decide) (fun b_62 => ?_) (fun b_62 => ?_)
              · skip
                refine jx_of (fun _ _ kz => jw_iincc 1 d_Y_whereQueued_73 (by decide) rfl (Nat.le_of_ble_eq_true rfl) kz) ?_
                dsimp only [List.set]
                rw [show (2 + 1 : Int32) = 3 from by decide]
                refine jx_of (fun _ _ kz => jw_goto 24 d_Y_whereQueued_76 (by decide) kz) ?_
                refine jx_of (fun _ _ kz => jw_iload d_Y_whereQueued_24 rfl kz) ?_
                refine jx_of (fun _ _ kz => jw_iload_n 3 d_Y_whereQueued_26 rfl rfl kz) ?_
                refine jx_icmp_ge 79 d_Y_whereQueued_27 (by decide) (fun _ => ?_) (fun h => absurd h (by decide))
                refine jx_of (fun _ _ kz => jw_iconst 0 d_Y_whereQueued_79 (by decide) kz) ?_
                refine jx_iret d_Y_whereQueued_80 rfl ?_
                exact ⟨⟨_, rfl⟩, rfl⟩
              · skip
                refine jx_of (fun _ _ kz => jw_iconst 5 d_Y_whereQueued_65 (by decide) kz) ?_
                refine jx_of (fun _ _ kz => jw_aload d_Y_whereQueued_66 rfl kz) ?_
                refine jx_of (fun _ _ kz => jw_getIe (_) fl_Y_195 d_Y_whereQueued_68 rfl rfl rfl kz) ?_
                refine jx_of (fun _ _ kz => jw_iadd d_Y_whereQueued_71 kz) ?_
                refine jx_iret d_Y_whereQueued_72 rfl ?_
                exact ⟨⟨_, rfl⟩, rfl⟩
            · skip
              refine jx_of (fun _ _ kz => jw_iconst 2 d_Y_whereQueued_45 (by decide) kz) ?_
              refine jx_of (fun _ _ kz => jw_aload d_Y_whereQueued_46 rfl kz) ?_
              refine jx_of (fun _ _ kz => jw_getIe (_) fl_Y_195 d_Y_whereQueued_48 rfl rfl rfl kz) ?_
              refine jx_of (fun _ _ kz => jw_iadd d_Y_whereQueued_51 kz) ?_
              refine jx_iret d_Y_whereQueued_52 rfl ?_
              exact ⟨⟨_, rfl⟩, rfl⟩
          · skip
            refine jx_of (fun _ _ kz => jw_iconst 5 d_Y_whereQueued_65 (by decide) kz) ?_
            refine jx_of (fun _ _ kz => jw_aload d_Y_whereQueued_66 rfl kz) ?_
            refine jx_of (fun _ _ kz => jw_getIe (_) fl_Y_195 d_Y_whereQueued_68 rfl rfl rfl kz) ?_
            refine jx_of (fun _ _ kz => jw_iadd d_Y_whereQueued_71 kz) ?_
            refine jx_iret d_Y_whereQueued_72 rfl ?_
            exact ⟨⟨_, rfl⟩, rfl⟩
        · skip
          refine jx_of (fun _ _ kz => jw_iconst 2 d_Y_whereQueued_45 (by decide) kz) ?_
          refine jx_of (fun _ _ kz => jw_aload d_Y_whereQueued_46 rfl kz) ?_
          refine jx_of (fun _ _ kz => jw_getIe (_) fl_Y_195 d_Y_whereQueued_48 rfl rfl rfl kz) ?_
          refine jx_of (fun _ _ kz => jw_iadd d_Y_whereQueued_51 kz) ?_
          refine jx_iret d_Y_whereQueued_52 rfl ?_
          exact ⟨⟨_, rfl⟩, rfl⟩
      · skip
        refine jx_of (fun _ _ kz => jw_iconst 5 d_Y_whereQueued_65 (by decide) kz) ?_
        refine jx_of (fun _ _ kz => jw_aload d_Y_whereQueued_66 rfl kz) ?_
        refine jx_of (fun _ _ kz => jw_getIe (_) fl_Y_195 d_Y_whereQueued_68 rfl rfl rfl kz) ?_
        refine jx_of (fun _ _ kz => jw_iadd d_Y_whereQueued_71 kz) ?_
        refine jx_iret d_Y_whereQueued_72 rfl ?_
        exact ⟨⟨_, rfl⟩, rfl⟩
    · skip
      refine jx_of (fun _ _ kz => jw_iconst 2 d_Y_whereQueued_45 (by decide) kz) ?_
      refine jx_of (fun _ _ kz => jw_aload d_Y_whereQueued_46 rfl kz) ?_
      refine jx_of (fun _ _ kz => jw_getIe (_) fl_Y_195 d_Y_whereQueued_48 rfl rfl rfl kz) ?_
      refine jx_of (fun _ _ kz => jw_iadd d_Y_whereQueued_51 kz) ?_
      refine jx_iret d_Y_whereQueued_52 rfl ?_
      exact ⟨⟨_, rfl⟩, rfl⟩
  · skip
    refine jx_of (fun _ _ kz => jw_iconst 1 d_Y_whereQueued_11 (by decide) kz) ?_
    refine jx_iret d_Y_whereQueued_12 rfl ?_
    exact ⟨⟨_, rfl⟩, rfl⟩
set_option maxRecDepth 20000 in
set_option maxHeartbeats 4000000 in
theorem y_Y_gotByFirst {G : Gt} {M : Me} (d : Nat) (g : Nat) (np : Nat) (nt : Nat) (hY : yI M np nt) (hg : g < 2) : sx G yt_Y_gotByFirst yn_Y_gotByFirst (d + 3) [.inr (some (0, 0)), .inr (some (5, g))] M (fun r M' => (∃ v : Int32, r = some (.inl v)) ∧ M = M') := by
  refine sx_of (k := 2) (lc := [some (.inr (some (0, 0))), some (.inr (some (5, g))), none, none]) mt_Y_gotByFirst (Nat.le_of_ble_eq_true rfl) rfl ?_
  refine jx_of (fun _ _ kz => jw_aload_n 1 d_Y_gotByFirst_0 rfl rfl kz) ?_
  refine jx_of (fun _ _ kz => jw_getPe (some (4, (5 + g))) fl_Y_175 d_Y_gotByFirst_1 rfl rfl (by simp [me_I_sI, me_I_sP, me_I_nx, me_P_sI, me_P_sP, me_P_nx, me_N_sI, me_N_sP, me_N_nx, me_L_sI, me_L_sP, me_L_nx, show me_P M 5 g 0 = some (4, 5 + g) from yg5 hY hg]) kz) ?_
  refine jx_callV (y_R_isEmpty (d + 1) (((5 + g))) (hY.1.2.2 _ (by omega))) mt_R_isEmpty cf_R rfl rfl ml_Y_198 im_R_isEmpty se_R_isEmpty d_Y_gotByFirst_4 rfl rfl (Nat.le_of_ble_eq_true rfl) ?_
  rintro r _ ⟨hr, rfl⟩
  obtain ⟨ra, rfl⟩ : ∃ v : Int32, r = some (.inl v) := by rcases hr with hr | hr; exact ⟨_, hr⟩; exact ⟨_, hr⟩
  refine jx_eq (st2 := [.inl ra]) rfl rfl rfl ?_
  refine jx_if_eq 12 d_Y_gotByFirst_7 (by decide) (fun b_7 => ?_) (fun b_7 => ?_)
  · skip
    refine jx_of (fun _ _ kz => jw_aload_n 1 d_Y_gotByFirst_12 rfl rfl kz) ?_
    refine jx_of (fun _ _ kz => jw_getPe (some (4, (5 + g))) fl_Y_175 d_Y_gotByFirst_13 rfl rfl (by simp [me_I_sI, me_I_sP, me_I_nx, me_P_sI, me_P_sP, me_P_nx, me_N_sI, me_N_sP, me_N_nx, me_L_sI, me_L_sP, me_L_nx, show me_P M 5 g 0 = some (4, 5 + g) from yg5 hY hg]) kz) ?_
    refine jx_of (fun _ _ kz => jw_iconst 0 d_Y_gotByFirst_16 (by decide) kz) ?_
    refine jx_callV (y_R_at (d + 1) (((5 + g))) 0 (hY.1.2.2 _ (by omega))) mt_R_at cf_R rfl rfl ml_Y_169 im_R_at se_R_at d_Y_gotByFirst_17 rfl rfl (Nat.le_of_ble_eq_true rfl) ?_
    rintro _ _ ⟨⟨v, rfl⟩, rfl⟩
    refine jx_eq (st2 := [.inl v]) rfl rfl rfl ?_
    refine jx_of (fun _ _ kz => jw_istore_n 2 d_Y_gotByFirst_20 rfl (Nat.le_of_ble_eq_true rfl) kz) ?_
    dsimp only [List.set]
    refine jx_of (fun _ _ kz => jw_aload_n 0 d_Y_gotByFirst_21 rfl rfl kz) ?_
    refine jx_of (fun _ _ kz => jw_iload_n 2 d_Y_gotByFirst_22 rfl rfl kz) ?_
    refine jx_callV (y_Y_ownerOf d v np nt hY) mt_Y_ownerOf cf_Y rfl rfl ml_Y_201 im_Y_ownerOf se_Y_ownerOf d_Y_gotByFirst_23 rfl rfl (Nat.le_of_ble_eq_true rfl) ?_
    rintro r _ ⟨hr, rfl⟩
    rcases hr with rfl | ⟨t9, ht9, ex9, rfl⟩
    · skip
      refine jx_eq (st2 := [.inr none]) rfl rfl rfl ?_
      refine jx_of (fun _ _ kz => jw_astore_n 3 d_Y_gotByFirst_26 rfl (Nat.le_of_ble_eq_true rfl) kz) ?_
      dsimp only [List.set]
      refine jx_of (fun _ _ kz => jw_aload_n 3 d_Y_gotByFirst_27 rfl rfl kz) ?_
      refine jx_ifnonnull 35 d_Y_gotByFirst_28 (by decide) (fun _ h => by cases h) (fun _ => ?_)
      refine jx_of (fun _ _ kz => jw_iconst 0 d_Y_gotByFirst_31 (by decide) kz) ?_
      refine jx_of (fun _ _ kz => jw_goto 44 d_Y_gotByFirst_32 (by decide) kz) ?_
      refine jx_iret d_Y_gotByFirst_44 rfl ?_
      exact ⟨⟨_, rfl⟩, rfl⟩
    · skip
      obtain ⟨p9, n9, o9, hp9, hT9⟩ := (hY.2.2.2.2 t9 ht9).2
      refine jx_eq (st2 := [.inr (some (2, t9))]) rfl rfl rfl ?_
      refine jx_of (fun _ _ kz => jw_astore_n 3 d_Y_gotByFirst_26 rfl (Nat.le_of_ble_eq_true rfl) kz) ?_
      dsimp only [List.set]
      refine jx_of (fun _ _ kz => jw_aload_n 3 d_Y_gotByFirst_27 rfl rfl kz) ?_
      refine jx_ifnonnull 35 d_Y_gotByFirst_28 (by decide) (fun _ _ => ?_) (fun h => by cases h)
      obtain ⟨j, hj, rfl⟩ := nI_of ex9
      refine jx_of (fun _ _ kz => jw_aload_n 3 d_Y_gotByFirst_35 rfl rfl kz) ?_
      refine jx_of (fun _ _ kz => jw_getPe (some (16, t9)) fl_Y_204 d_Y_gotByFirst_36 rfl rfl (by simp [me_I_sI, me_I_sP, me_I_nx, me_P_sI, me_P_sP, me_P_nx, me_N_sI, me_N_sP, me_N_nx, me_L_sI, me_L_sP, me_L_nx, show me_P M 2 t9 10 = some (16, t9) from hT9.1.2.2.2.1]) kz) ?_
      refine jx_of (fun _ _ kz => jw_iload_n 2 d_Y_gotByFirst_39 rfl rfl kz) ?_
      refine jx_of (fun _ _ kz => jw_bipush 12 d_Y_gotByFirst_40 (by decide) kz) ?_
      refine jx_of (fun _ _ kz => jw_irem d_Y_gotByFirst_42 (by decide) kz) ?_
      rw [show ((nI j) - (nI j) / 12 * 12 : Int32) = nI (j % 12) from pk_rem (by omega) (by decide) (by decide)]
      refine jx_of (fun _ _ kz => jw_ialde (_) d_Y_gotByFirst_43 rfl rfl (by rw [show me_L _ 16 t9 = 12 from (by simp [me_I_sI, me_I_sP, me_I_nx, me_P_sI, me_P_sP, me_P_nx, me_N_sI, me_N_sP, me_N_nx, me_L_sI, me_L_sP, me_L_nx, show me_L M 16 t9 = 12 from hT9.1.2.2.2.2.2.2])]; exact (vp_in_nI (by omega) (by omega))) rfl kz) ?_
      refine jx_iret d_Y_gotByFirst_44 rfl ?_
      exact ⟨⟨_, rfl⟩, rfl⟩
  · skip
    refine jx_of (fun _ _ kz => jw_iconst 0 d_Y_gotByFirst_10 (by decide) kz) ?_
    refine jx_iret d_Y_gotByFirst_11 rfl ?_
    exact ⟨⟨_, rfl⟩, rfl⟩
set_option maxRecDepth 20000 in
set_option maxHeartbeats 4000000 in
theorem y_Y_ne_l {G : Gt} {M : Me} (d np nt : Nat) (hY : yI M np nt) (c0 s0 : Nat) : ∀ (m k : Nat) (v : Int32) (o3 : Option AV), k + m = nt → jx G yt_Y_tasksNotEnded (d + 2) c0 s0 M 4 [some (.inr (some (0, 0))), some (.inl v), some (.inl (nI k)), o3] [] (fun r M' => (∃ v : Int32, r = some (.inl v)) ∧ M = M') := by
  have h12 := hY.2.2.1
  intro m
  induction m with
  | zero =>
    intro k v o3 hk
    refine jx_of (fun _ _ kz => jw_iload_n 2 d_Y_tasksNotEnded_4 rfl rfl kz) ?_
    refine jx_of (fun _ _ kz => jw_aload_n 0 d_Y_tasksNotEnded_5 rfl rfl kz) ?_
    refine jx_of (fun _ _ kz => jw_getIe (nI nt) fl_Y_30 d_Y_tasksNotEnded_6 rfl rfl hY.2.2.2.1 kz) ?_
    refine jx_icmp_ge 38 d_Y_tasksNotEnded_9 (by decide) (fun _ => ?_) (fun h => absurd (nI_le (by omega) (by omega)) h)
    refine jx_of (fun _ _ kz => jw_iload_n 1 d_Y_tasksNotEnded_38 rfl rfl kz) ?_
    refine jx_iret d_Y_tasksNotEnded_39 rfl ?_
    exact ⟨⟨_, rfl⟩, rfl⟩
  | succ m ih =>
    intro k v o3 hk
    refine jx_of (fun _ _ kz => jw_iload_n 2 d_Y_tasksNotEnded_4 rfl rfl kz) ?_
    refine jx_of (fun _ _ kz => jw_aload_n 0 d_Y_tasksNotEnded_5 rfl rfl kz) ?_
    refine jx_of (fun _ _ kz => jw_getIe (nI nt) fl_Y_30 d_Y_tasksNotEnded_6 rfl rfl hY.2.2.2.1 kz) ?_
    refine jx_icmp_ge 38 d_Y_tasksNotEnded_9 (by decide) (fun h => absurd h (nI_ge (by omega) (by omega))) (fun _ => ?_)
    refine jx_of (fun _ _ kz => jw_aload_n 0 d_Y_tasksNotEnded_12 rfl rfl kz) ?_
    refine jx_of (fun _ _ kz => jw_iload_n 2 d_Y_tasksNotEnded_13 rfl rfl kz) ?_
    refine jx_callV (y_Y_taskAt d ((nI k)) np nt hY) mt_Y_taskAt cf_Y rfl rfl ml_Y_113 im_Y_taskAt se_Y_taskAt d_Y_tasksNotEnded_14 rfl rfl (Nat.le_of_ble_eq_true rfl) ?_
    rintro r _ ⟨hr, rfl⟩
    rcases hr with rfl | ⟨t9, ht9, ex9, rfl⟩
    · skip
      refine jx_eq (st2 := [.inr none]) rfl rfl rfl ?_
      refine jx_of (fun _ _ kz => jw_astore_n 3 d_Y_tasksNotEnded_17 rfl (Nat.le_of_ble_eq_true rfl) kz) ?_
      dsimp only [List.set]
      refine jx_of (fun _ _ kz => jw_aload_n 3 d_Y_tasksNotEnded_18 rfl rfl kz) ?_
      refine jx_ifnull 32 d_Y_tasksNotEnded_19 (by decide) (fun _ => ?_) (fun _ h => by cases h)
      refine jx_of (fun _ _ kz => jw_iincc 1 d_Y_tasksNotEnded_32 (by decide) rfl (Nat.le_of_ble_eq_true rfl) kz) ?_
      dsimp only [List.set]
      refine jx_of (fun _ _ kz => jw_goto 4 d_Y_tasksNotEnded_35 (by decide) kz) ?_
      rw [nI_1]
      exact ih (k + 1) _ _ (by omega)
    · skip
      obtain ⟨p9, n9, o9, hp9, hT9⟩ := (hY.2.2.2.2 t9 ht9).2
      refine jx_eq (st2 := [.inr (some (2, t9))]) rfl rfl rfl ?_
      refine jx_of (fun _ _ kz => jw_astore_n 3 d_Y_tasksNotEnded_17 rfl (Nat.le_of_ble_eq_true rfl) kz) ?_
      dsimp only [List.set]
      refine jx_of (fun _ _ kz => jw_aload_n 3 d_Y_tasksNotEnded_18 rfl rfl kz) ?_
      refine jx_ifnull 32 d_Y_tasksNotEnded_19 (by decide) (fun h => by cases h) (fun _ _ => ?_)
      refine jx_of (fun _ _ kz => jw_aload_n 3 d_Y_tasksNotEnded_22 rfl rfl kz) ?_
      refine jx_callV (y_T_hasEnded d t9 p9 n9 o9 hT9) mt_T_hasEnded cf_T rfl rfl ml_Y_117 im_T_hasEnded se_T_hasEnded d_Y_tasksNotEnded_23 rfl rfl (Nat.le_of_ble_eq_true rfl) ?_
      rintro r _ ⟨hr, rfl⟩
      obtain ⟨rv, rfl⟩ : ∃ v : Int32, r = some (.inl v) := by rcases hr with hr | hr; exact ⟨_, hr⟩; exact ⟨_, hr⟩
      refine jx_eq (st2 := [.inl rv]) rfl rfl rfl ?_
      refine jx_if_ne 32 d_Y_tasksNotEnded_26 (by decide) (fun b_26 => ?_) (fun b_26 => ?_)
      · skip
        refine jx_of (fun _ _ kz => jw_iincc 1 d_Y_tasksNotEnded_32 (by decide) rfl (Nat.le_of_ble_eq_true rfl) kz) ?_
        dsimp only [List.set]
        refine jx_of (fun _ _ kz => jw_goto 4 d_Y_tasksNotEnded_35 (by decide) kz) ?_
        rw [nI_1]
        exact ih (k + 1) _ _ (by omega)
      · skip
        refine jx_of (fun _ _ kz => jw_iincc 1 d_Y_tasksNotEnded_29 (by decide) rfl (Nat.le_of_ble_eq_true rfl) kz) ?_
        dsimp only [List.set]
        refine jx_of (fun _ _ kz => jw_iincc 1 d_Y_tasksNotEnded_32 (by decide) rfl (Nat.le_of_ble_eq_true rfl) kz) ?_
        dsimp only [List.set]
        refine jx_of (fun _ _ kz => jw_goto 4 d_Y_tasksNotEnded_35 (by decide) kz) ?_
        rw [nI_1]
        exact ih (k + 1) _ _ (by omega)
set_option maxRecDepth 20000 in
set_option maxHeartbeats 4000000 in
theorem y_Y_tasksNotEnded {G : Gt} {M : Me} (d : Nat) (np : Nat) (nt : Nat) (hY : yI M np nt) : sx G yt_Y_tasksNotEnded yn_Y_tasksNotEnded (d + 2) [.inr (some (0, 0))] M (fun r M' => (∃ v : Int32, r = some (.inl v)) ∧ M = M') := by
  refine sx_of (k := 3) (lc := [some (.inr (some (0, 0))), none, none, none]) mt_Y_tasksNotEnded (Nat.le_of_ble_eq_true rfl) rfl ?_
  refine jx_of (fun _ _ kz => jw_iconst 0 d_Y_tasksNotEnded_0 (by decide) kz) ?_
  refine jx_of (fun _ _ kz => jw_istore_n 1 d_Y_tasksNotEnded_1 rfl (Nat.le_of_ble_eq_true rfl) kz) ?_
  dsimp only [List.set]
  refine jx_of (fun _ _ kz => jw_iconst 0 d_Y_tasksNotEnded_2 (by decide) kz) ?_
  refine jx_of (fun _ _ kz => jw_istore_n 2 d_Y_tasksNotEnded_3 rfl (Nat.le_of_ble_eq_true rfl) kz) ?_
  dsimp only [List.set]
  exact y_Y_ne_l d np nt hY _ _ nt 0 0 _ (by omega)
set_option maxRecDepth 20000 in
set_option maxHeartbeats 4000000 in
theorem y_Y_task {G : Gt} {M : Me} (d : Nat) (x : Int32) (y : Int32) (np : Nat) (nt : Nat) (hY : yI M np nt) : sx G yt_Y_task yn_Y_task (d + 4) [.inr (some (0, 0)), .inl x, .inl y] M (fun r M' => (∃ v : Int32, r = some (.inl v)) ∧ M = M') := by
  refine sx_of (k := 1) (lc := [some (.inr (some (0, 0))), some (.inl x), some (.inl y), none]) mt_Y_task (Nat.le_of_ble_eq_true rfl) rfl ?_
  refine jx_of (fun _ _ kz => jw_aload_n 0 d_Y_task_0 rfl rfl kz) ?_
  refine jx_of (fun _ _ kz => jw_iload_n 1 d_Y_task_1 rfl rfl kz) ?_
  refine jx_callV (y_Y_taskAt (d + 2) x np nt hY) mt_Y_taskAt cf_Y rfl rfl ml_Y_113 im_Y_taskAt se_Y_taskAt d_Y_task_2 rfl rfl (Nat.le_of_ble_eq_true rfl) ?_
  rintro r _ ⟨hr, rfl⟩
  rcases hr with rfl | ⟨t9, ht9, ex9, rfl⟩
  · skip
    refine jx_eq (st2 := [.inr none]) rfl rfl rfl ?_
    refine jx_of (fun _ _ kz => jw_astore_n 3 d_Y_task_5 rfl (Nat.le_of_ble_eq_true rfl) kz) ?_
    dsimp only [List.set]
    refine jx_of (fun _ _ kz => jw_aload_n 3 d_Y_task_6 rfl rfl kz) ?_
    refine jx_ifnonnull 12 d_Y_task_7 (by decide) (fun _ h => by cases h) (fun _ => ?_)
    refine jx_of (fun _ _ kz => jw_iconst (-1) d_Y_task_10 (by decide) kz) ?_
    refine jx_iret d_Y_task_11 rfl ?_
    exact ⟨⟨_, rfl⟩, rfl⟩
  · skip
    obtain ⟨p9, n9, o9, hp9, hT9⟩ := (hY.2.2.2.2 t9 ht9).2
    refine jx_eq (st2 := [.inr (some (2, t9))]) rfl rfl rfl ?_
    refine jx_of (fun _ _ kz => jw_astore_n 3 d_Y_task_5 rfl (Nat.le_of_ble_eq_true rfl) kz) ?_
    dsimp only [List.set]
    refine jx_of (fun _ _ kz => jw_aload_n 3 d_Y_task_6 rfl rfl kz) ?_
    refine jx_ifnonnull 12 d_Y_task_7 (by decide) (fun _ _ => ?_) (fun h => by cases h)
    refine jx_of (fun _ _ kz => jw_iload_n 2 d_Y_task_12 rfl rfl kz) ?_
    rcases sw_cases (y) 6 (by decide) with t_13 | t_13
    · skip
      refine jx_of (fun _ _ kz => jw_tabOut 83 d_Y_task_13 (by simpa using t_13) (by decide) kz) ?_
      refine jx_of (fun _ _ kz => jw_iconst (-1) d_Y_task_83 (by decide) kz) ?_
      refine jx_iret d_Y_task_84 rfl ?_
      exact ⟨⟨_, rfl⟩, rfl⟩
    · skip
      obtain ⟨j_13, t_13, e_13⟩ := t_13
      rcases (show j_13 = 0 ∨ j_13 = 1 ∨ j_13 = 2 ∨ j_13 = 3 ∨ j_13 = 4 ∨ j_13 = 5 by omega) with rfl | rfl | rfl | rfl | rfl | rfl
      · skip
        refine jx_of (fun _ _ kz => jw_tabIn 52 d_Y_task_13 (by rw [e_13]; decide) (by rw [e_13]; decide) (by rw [e_13]; rfl) (by decide) kz) ?_
        refine jx_of (fun _ _ kz => jw_aload_n 3 d_Y_task_52 rfl rfl kz) ?_
        refine jx_of (fun _ _ kz => jw_getIe (_) fl_Y_123 d_Y_task_53 rfl rfl rfl kz) ?_
        refine jx_iret d_Y_task_56 rfl ?_
        exact ⟨⟨_, rfl⟩, rfl⟩
      · skip
        refine jx_of (fun _ _ kz => jw_tabIn 57 d_Y_task_13 (by rw [e_13]; decide) (by rw [e_13]; decide) (by rw [e_13]; rfl) (by decide) kz) ?_
        refine jx_of (fun _ _ kz => jw_aload_n 3 d_Y_task_57 rfl rfl kz) ?_
        refine jx_of (fun _ _ kz => jw_getIe (_) fl_Y_144 d_Y_task_58 rfl rfl rfl kz) ?_
        refine jx_iret d_Y_task_61 rfl ?_
        exact ⟨⟨_, rfl⟩, rfl⟩
      · skip
        refine jx_of (fun _ _ kz => jw_tabIn 62 d_Y_task_13 (by rw [e_13]; decide) (by rw [e_13]; decide) (by rw [e_13]; rfl) (by decide) kz) ?_
        refine jx_of (fun _ _ kz => jw_aload_n 3 d_Y_task_62 rfl rfl kz) ?_
        refine jx_of (fun _ _ kz => jw_getIe (_) fl_Y_147 d_Y_task_63 rfl rfl rfl kz) ?_
        refine jx_iret d_Y_task_66 rfl ?_
        exact ⟨⟨_, rfl⟩, rfl⟩
      · skip
        refine jx_of (fun _ _ kz => jw_tabIn 67 d_Y_task_13 (by rw [e_13]; decide) (by rw [e_13]; decide) (by rw [e_13]; rfl) (by decide) kz) ?_
        refine jx_of (fun _ _ kz => jw_aload_n 3 d_Y_task_67 rfl rfl kz) ?_
        refine jx_of (fun _ _ kz => jw_getIe (_) fl_Y_150 d_Y_task_68 rfl rfl rfl kz) ?_
        refine jx_iret d_Y_task_71 rfl ?_
        exact ⟨⟨_, rfl⟩, rfl⟩
      · skip
        refine jx_of (fun _ _ kz => jw_tabIn 72 d_Y_task_13 (by rw [e_13]; decide) (by rw [e_13]; decide) (by rw [e_13]; rfl) (by decide) kz) ?_
        refine jx_of (fun _ _ kz => jw_aload_n 3 d_Y_task_72 rfl rfl kz) ?_
        refine jx_of (fun _ _ kz => jw_getIe (_) fl_Y_153 d_Y_task_73 rfl rfl rfl kz) ?_
        refine jx_iret d_Y_task_76 rfl ?_
        exact ⟨⟨_, rfl⟩, rfl⟩
      · skip
        refine jx_of (fun _ _ kz => jw_tabIn 77 d_Y_task_13 (by rw [e_13]; decide) (by rw [e_13]; decide) (by rw [e_13]; rfl) (by decide) kz) ?_
        refine jx_of (fun _ _ kz => jw_aload_n 0 d_Y_task_77 rfl rfl kz) ?_
        refine jx_of (fun _ _ kz => jw_iload_n 1 d_Y_task_78 rfl rfl kz) ?_
        refine jx_callV (y_Y_whereQueued d x np nt hY) mt_Y_whereQueued cf_Y rfl rfl ml_Y_156 im_Y_whereQueued se_Y_whereQueued d_Y_task_79 rfl rfl (Nat.le_of_ble_eq_true rfl) ?_
        rintro _ _ ⟨⟨vw, rfl⟩, rfl⟩
        refine jx_eq (st2 := [.inl vw]) rfl rfl rfl ?_
        refine jx_iret d_Y_task_82 rfl ?_
        exact ⟨⟨_, rfl⟩, rfl⟩
set_option maxRecDepth 20000 in
set_option maxHeartbeats 4000000 in
theorem y_Y_worker {G : Gt} {M : Me} (d : Nat) (x : Int32) (y : Int32) (np : Nat) (nt : Nat) (hY : yI M np nt) : sx G yt_Y_worker yn_Y_worker (d + 2) [.inr (some (0, 0)), .inl x, .inl y] M (fun r M' => (∃ v : Int32, r = some (.inl v)) ∧ M = M') := by
  refine sx_of (k := 1) (lc := [some (.inr (some (0, 0))), some (.inl x), some (.inl y), none]) mt_Y_worker (Nat.le_of_ble_eq_true rfl) rfl ?_
  refine jx_of (fun _ _ kz => jw_iload_n 1 d_Y_worker_0 rfl rfl kz) ?_
  refine jx_if_lt 9 d_Y_worker_1 (by decide) (fun b_1 => ?_) (fun b_1 => ?_)
  · skip
    refine jx_of (fun _ _ kz => jw_iconst (-1) d_Y_worker_9 (by decide) kz) ?_
    refine jx_iret d_Y_worker_10 rfl ?_
    exact ⟨⟨_, rfl⟩, rfl⟩
  · skip
    refine jx_of (fun _ _ kz => jw_iload_n 1 d_Y_worker_4 rfl rfl kz) ?_
    refine jx_of (fun _ _ kz => jw_iconst 3 d_Y_worker_5 (by decide) kz) ?_
    refine jx_icmp_lt 11 d_Y_worker_6 (by decide) (fun b_6 => ?_) (fun b_6 => ?_)
    · skip
      obtain ⟨w, hw0, rfl⟩ := nI_of b_1
      have hw : w < 3 := (nI_ltI (b := 3) hw0 (by decide)).mp b_6
      refine jx_of (fun _ _ kz => jw_aload_n 0 d_Y_worker_11 rfl rfl kz) ?_
      refine jx_of (fun _ _ kz => jw_getPe (some (19, 0)) fl_Y_38 d_Y_worker_12 rfl rfl (by simp [me_I_sI, me_I_sP, me_I_nx, me_P_sI, me_P_sP, me_P_nx, me_N_sI, me_N_sP, me_N_nx, me_L_sI, me_L_sP, me_L_nx, show me_P M 0 0 5 = some (19, 0) from hY.1.1 (0, 0, 5, 19, 0) (by decide)]) kz) ?_
      refine jx_of (fun _ _ kz => jw_iload_n 1 d_Y_worker_15 rfl rfl kz) ?_
      refine jx_of (fun _ _ kz => jw_aalde (some (3, w)) d_Y_worker_16 rfl rfl (by rw [show me_L _ 19 0 = 3 from (by simp [me_I_sI, me_I_sP, me_I_nx, me_P_sI, me_P_sP, me_P_nx, me_N_sI, me_N_sP, me_N_nx, me_L_sI, me_L_sP, me_L_nx, show me_L M 19 0 = 3 from hY.1.2.1 (19, 0, 3) (by decide)])]; exact (vp_in_nI (by omega) (by omega))) (by rw [nI_clamp (by omega)]; exact yw19 hY hw) kz) ?_
      refine jx_of (fun _ _ kz => jw_astore_n 3 d_Y_worker_17 rfl (Nat.le_of_ble_eq_true rfl) kz) ?_
      dsimp only [List.set]
      refine jx_of (fun _ _ kz => jw_iload_n 2 d_Y_worker_18 rfl rfl kz) ?_
      rcases sw_cases (y) 8 (by decide) with t_19 | t_19
      · skip
        refine jx_of (fun _ _ kz => jw_tabOut 98 d_Y_worker_19 (by simpa using t_19) (by decide) kz) ?_
        refine jx_of (fun _ _ kz => jw_iconst (-1) d_Y_worker_98 (by decide) kz) ?_
        refine jx_iret d_Y_worker_99 rfl ?_
        exact ⟨⟨_, rfl⟩, rfl⟩
      · skip
        obtain ⟨j_19, t_19, e_19⟩ := t_19
        rcases (show j_19 = 0 ∨ j_19 = 1 ∨ j_19 = 2 ∨ j_19 = 3 ∨ j_19 = 4 ∨ j_19 = 5 ∨ j_19 = 6 ∨ j_19 = 7 by omega) with rfl | rfl | rfl | rfl | rfl | rfl | rfl | rfl
        · skip
          refine jx_of (fun _ _ kz => jw_tabIn 64 d_Y_worker_19 (by rw [e_19]; decide) (by rw [e_19]; decide) (by rw [e_19]; rfl) (by decide) kz) ?_
          refine jx_of (fun _ _ kz => jw_aload_n 3 d_Y_worker_64 rfl rfl kz) ?_
          refine jx_of (fun _ _ kz => jw_getIe (_) fl_Y_159 d_Y_worker_65 rfl rfl rfl kz) ?_
          refine jx_iret d_Y_worker_68 rfl ?_
          exact ⟨⟨_, rfl⟩, rfl⟩
        · skip
          refine jx_of (fun _ _ kz => jw_tabIn 69 d_Y_worker_19 (by rw [e_19]; decide) (by rw [e_19]; decide) (by rw [e_19]; rfl) (by decide) kz) ?_
          refine jx_of (fun _ _ kz => jw_aload_n 3 d_Y_worker_69 rfl rfl kz) ?_
          refine jx_of (fun _ _ kz => jw_getIe (_) fl_Y_162 d_Y_worker_70 rfl rfl rfl kz) ?_
          refine jx_iret d_Y_worker_73 rfl ?_
          exact ⟨⟨_, rfl⟩, rfl⟩
        · skip
          refine jx_of (fun _ _ kz => jw_tabIn 74 d_Y_worker_19 (by rw [e_19]; decide) (by rw [e_19]; decide) (by rw [e_19]; rfl) (by decide) kz) ?_
          refine jx_of (fun _ _ kz => jw_aload_n 3 d_Y_worker_74 rfl rfl kz) ?_
          refine jx_of (fun _ _ kz => jw_getPe (some (4, w)) fl_Y_165 d_Y_worker_75 rfl rfl (by simp [me_I_sI, me_I_sP, me_I_nx, me_P_sI, me_P_sP, me_P_nx, me_N_sI, me_N_sP, me_N_nx, me_L_sI, me_L_sP, me_L_nx, show me_P M 3 w 1 = some (4, w) from yw hY hw]) kz) ?_
          refine jx_of (fun _ _ kz => jw_getIe (_) fl_Y_168 d_Y_worker_78 rfl rfl rfl kz) ?_
          refine jx_iret d_Y_worker_81 rfl ?_
          exact ⟨⟨_, rfl⟩, rfl⟩
        · skip
          refine jx_of (fun _ _ kz => jw_tabIn 82 d_Y_worker_19 (by rw [e_19]; decide) (by rw [e_19]; decide) (by rw [e_19]; rfl) (by decide) kz) ?_
          refine jx_of (fun _ _ kz => jw_aload_n 3 d_Y_worker_82 rfl rfl kz) ?_
          refine jx_of (fun _ _ kz => jw_getPe (some (4, w)) fl_Y_165 d_Y_worker_83 rfl rfl (by simp [me_I_sI, me_I_sP, me_I_nx, me_P_sI, me_P_sP, me_P_nx, me_N_sI, me_N_sP, me_N_nx, me_L_sI, me_L_sP, me_L_nx, show me_P M 3 w 1 = some (4, w) from yw hY hw]) kz) ?_
          refine jx_of (fun _ _ kz => jw_iload_n 2 d_Y_worker_86 rfl rfl kz) ?_
          refine jx_of (fun _ _ kz => jw_iconst 3 d_Y_worker_87 (by decide) kz) ?_
          refine jx_of (fun _ _ kz => jw_isub d_Y_worker_88 kz) ?_
          refine jx_callV (y_R_at d w ((y - 3)) (hY.1.2.2 _ (by omega))) mt_R_at cf_R rfl rfl ml_Y_169 im_R_at se_R_at d_Y_worker_89 rfl rfl (Nat.le_of_ble_eq_true rfl) ?_
          rintro _ _ ⟨⟨vw, rfl⟩, rfl⟩
          refine jx_eq (st2 := [.inl vw]) rfl rfl rfl ?_
          refine jx_iret d_Y_worker_92 rfl ?_
          exact ⟨⟨_, rfl⟩, rfl⟩
        · skip
          refine jx_of (fun _ _ kz => jw_tabIn 82 d_Y_worker_19 (by rw [e_19]; decide) (by rw [e_19]; decide) (by rw [e_19]; rfl) (by decide) kz) ?_
          refine jx_of (fun _ _ kz => jw_aload_n 3 d_Y_worker_82 rfl rfl kz) ?_
          refine jx_of (fun _ _ kz => jw_getPe (some (4, w)) fl_Y_165 d_Y_worker_83 rfl rfl (by simp [me_I_sI, me_I_sP, me_I_nx, me_P_sI, me_P_sP, me_P_nx, me_N_sI, me_N_sP, me_N_nx, me_L_sI, me_L_sP, me_L_nx, show me_P M 3 w 1 = some (4, w) from yw hY hw]) kz) ?_
          refine jx_of (fun _ _ kz => jw_iload_n 2 d_Y_worker_86 rfl rfl kz) ?_
          refine jx_of (fun _ _ kz => jw_iconst 3 d_Y_worker_87 (by decide) kz) ?_
          refine jx_of (fun _ _ kz => jw_isub d_Y_worker_88 kz) ?_
          refine jx_callV (y_R_at d w ((y - 3)) (hY.1.2.2 _ (by omega))) mt_R_at cf_R rfl rfl ml_Y_169 im_R_at se_R_at d_Y_worker_89 rfl rfl (Nat.le_of_ble_eq_true rfl) ?_
          rintro _ _ ⟨⟨vw, rfl⟩, rfl⟩
          refine jx_eq (st2 := [.inl vw]) rfl rfl rfl ?_
          refine jx_iret d_Y_worker_92 rfl ?_
          exact ⟨⟨_, rfl⟩, rfl⟩
        · skip
          refine jx_of (fun _ _ kz => jw_tabIn 82 d_Y_worker_19 (by rw [e_19]; decide) (by rw [e_19]; decide) (by rw [e_19]; rfl) (by decide) kz) ?_
          refine jx_of (fun _ _ kz => jw_aload_n 3 d_Y_worker_82 rfl rfl kz) ?_
          refine jx_of (fun _ _ kz => jw_getPe (some (4, w)) fl_Y_165 d_Y_worker_83 rfl rfl (by simp [me_I_sI, me_I_sP, me_I_nx, me_P_sI, me_P_sP, me_P_nx, me_N_sI, me_N_sP, me_N_nx, me_L_sI, me_L_sP, me_L_nx, show me_P M 3 w 1 = some (4, w) from yw hY hw]) kz) ?_
          refine jx_of (fun _ _ kz => jw_iload_n 2 d_Y_worker_86 rfl rfl kz) ?_
          refine jx_of (fun _ _ kz => jw_iconst 3 d_Y_worker_87 (by decide) kz) ?_
          refine jx_of (fun _ _ kz => jw_isub d_Y_worker_88 kz) ?_
          refine jx_callV (y_R_at d w ((y - 3)) (hY.1.2.2 _ (by omega))) mt_R_at cf_R rfl rfl ml_Y_169 im_R_at se_R_at d_Y_worker_89 rfl rfl (Nat.le_of_ble_eq_true rfl) ?_
          rintro _ _ ⟨⟨vw, rfl⟩, rfl⟩
          refine jx_eq (st2 := [.inl vw]) rfl rfl rfl ?_
          refine jx_iret d_Y_worker_92 rfl ?_
          exact ⟨⟨_, rfl⟩, rfl⟩
        · skip
          refine jx_of (fun _ _ kz => jw_tabIn 82 d_Y_worker_19 (by rw [e_19]; decide) (by rw [e_19]; decide) (by rw [e_19]; rfl) (by decide) kz) ?_
          refine jx_of (fun _ _ kz => jw_aload_n 3 d_Y_worker_82 rfl rfl kz) ?_
          refine jx_of (fun _ _ kz => jw_getPe (some (4, w)) fl_Y_165 d_Y_worker_83 rfl rfl (by simp [me_I_sI, me_I_sP, me_I_nx, me_P_sI, me_P_sP, me_P_nx, me_N_sI, me_N_sP, me_N_nx, me_L_sI, me_L_sP, me_L_nx, show me_P M 3 w 1 = some (4, w) from yw hY hw]) kz) ?_
          refine jx_of (fun _ _ kz => jw_iload_n 2 d_Y_worker_86 rfl rfl kz) ?_
          refine jx_of (fun _ _ kz => jw_iconst 3 d_Y_worker_87 (by decide) kz) ?_
          refine jx_of (fun _ _ kz => jw_isub d_Y_worker_88 kz) ?_
          refine jx_callV (y_R_at d w ((y - 3)) (hY.1.2.2 _ (by omega))) mt_R_at cf_R rfl rfl ml_Y_169 im_R_at se_R_at d_Y_worker_89 rfl rfl (Nat.le_of_ble_eq_true rfl) ?_
          rintro _ _ ⟨⟨vw, rfl⟩, rfl⟩
          refine jx_eq (st2 := [.inl vw]) rfl rfl rfl ?_
          refine jx_iret d_Y_worker_92 rfl ?_
          exact ⟨⟨_, rfl⟩, rfl⟩
        · skip
          refine jx_of (fun _ _ kz => jw_tabIn 93 d_Y_worker_19 (by rw [e_19]; decide) (by rw [e_19]; decide) (by rw [e_19]; rfl) (by decide) kz) ?_
          refine jx_of (fun _ _ kz => jw_aload_n 3 d_Y_worker_93 rfl rfl kz) ?_
          refine jx_of (fun _ _ kz => jw_getIe (_) fl_Y_172 d_Y_worker_94 rfl rfl rfl kz) ?_
          refine jx_iret d_Y_worker_97 rfl ?_
          exact ⟨⟨_, rfl⟩, rfl⟩
    · skip
      refine jx_of (fun _ _ kz => jw_iconst (-1) d_Y_worker_9 (by decide) kz) ?_
      refine jx_iret d_Y_worker_10 rfl ?_
      exact ⟨⟨_, rfl⟩, rfl⟩
set_option maxRecDepth 20000 in
set_option maxHeartbeats 4000000 in
theorem y_Y_injected {G : Gt} {M : Me} (d : Nat) (x : Int32) (np : Nat) (nt : Nat) (hY : yI M np nt) : sx G yt_Y_injected yn_Y_injected (d + 2) [.inr (some (0, 0)), .inl x] M (fun r M' => (∃ v : Int32, r = some (.inl v)) ∧ M = M') := by
  refine sx_of (k := 0) (lc := [some (.inr (some (0, 0))), some (.inl x)]) mt_Y_injected (Nat.le_of_ble_eq_true rfl) rfl ?_
  refine jx_of (fun _ _ kz => jw_iload_n 1 d_Y_injected_0 rfl rfl kz) ?_
  refine jx_if_lt 15 d_Y_injected_1 (by decide) (fun b_1 => ?_) (fun b_1 => ?_)
  · skip
    refine jx_of (fun _ _ kz => jw_iconst (-1) d_Y_injected_15 (by decide) kz) ?_
    refine jx_of (fun _ _ kz => jw_goto 27 d_Y_injected_16 (by decide) kz) ?_
    refine jx_iret d_Y_injected_27 rfl ?_
    exact ⟨⟨_, rfl⟩, rfl⟩
  · skip
    refine jx_of (fun _ _ kz => jw_iload_n 1 d_Y_injected_4 rfl rfl kz) ?_
    refine jx_of (fun _ _ kz => jw_aload_n 0 d_Y_injected_5 rfl rfl kz) ?_
    refine jx_of (fun _ _ kz => jw_getPe (some (4, 3)) fl_Y_45 d_Y_injected_6 rfl rfl (by simp [me_I_sI, me_I_sP, me_I_nx, me_P_sI, me_P_sP, me_P_nx, me_N_sI, me_N_sP, me_N_nx, me_L_sI, me_L_sP, me_L_nx, show me_P M 0 0 6 = some (4, 3) from hY.1.1 (0, 0, 6, 4, 3) (by decide)]) kz) ?_
    refine jx_of (fun _ _ kz => jw_getIe (_) fl_Y_168 d_Y_injected_9 rfl rfl rfl kz) ?_
    refine jx_icmp_lt 19 d_Y_injected_12 (by decide) (fun b_12 => ?_) (fun b_12 => ?_)
    · skip
      refine jx_of (fun _ _ kz => jw_aload_n 0 d_Y_injected_19 rfl rfl kz) ?_
      refine jx_of (fun _ _ kz => jw_getPe (some (4, 3)) fl_Y_45 d_Y_injected_20 rfl rfl (by simp [me_I_sI, me_I_sP, me_I_nx, me_P_sI, me_P_sP, me_P_nx, me_N_sI, me_N_sP, me_N_nx, me_L_sI, me_L_sP, me_L_nx, show me_P M 0 0 6 = some (4, 3) from hY.1.1 (0, 0, 6, 4, 3) (by decide)]) kz) ?_
      refine jx_of (fun _ _ kz => jw_iload_n 1 d_Y_injected_23 rfl rfl kz) ?_
      refine jx_callV (y_R_at d 3 x (hY.1.2.2 _ (by omega))) mt_R_at cf_R rfl rfl ml_Y_169 im_R_at se_R_at d_Y_injected_24 rfl rfl (Nat.le_of_ble_eq_true rfl) ?_
      rintro _ _ ⟨⟨vw, rfl⟩, rfl⟩
      refine jx_eq (st2 := [.inl vw]) rfl rfl rfl ?_
      refine jx_iret d_Y_injected_27 rfl ?_
      exact ⟨⟨_, rfl⟩, rfl⟩
    · skip
      refine jx_of (fun _ _ kz => jw_iconst (-1) d_Y_injected_15 (by decide) kz) ?_
      refine jx_of (fun _ _ kz => jw_goto 27 d_Y_injected_16 (by decide) kz) ?_
      refine jx_iret d_Y_injected_27 rfl ?_
      exact ⟨⟨_, rfl⟩, rfl⟩
set_option maxRecDepth 20000 in
set_option maxHeartbeats 4000000 in
theorem y_Y_gate {G : Gt} {M : Me} (d : Nat) (x : Int32) (y : Int32) (np : Nat) (nt : Nat) (hY : yI M np nt) : sx G yt_Y_gate yn_Y_gate (d + 4) [.inr (some (0, 0)), .inl x, .inl y] M (fun r M' => (∃ v : Int32, r = some (.inl v)) ∧ M = M') := by
  refine sx_of (k := 0) (lc := [some (.inr (some (0, 0))), some (.inl x), some (.inl y)]) mt_Y_gate (Nat.le_of_ble_eq_true rfl) rfl ?_
  refine jx_of (fun _ _ kz => jw_iload_n 1 d_Y_gate_0 rfl rfl kz) ?_
  refine jx_if_lt 9 d_Y_gate_1 (by decide) (fun b_1 => ?_) (fun b_1 => ?_)
  · skip
    refine jx_of (fun _ _ kz => jw_iconst (-1) d_Y_gate_9 (by decide) kz) ?_
    refine jx_iret d_Y_gate_10 rfl ?_
    exact ⟨⟨_, rfl⟩, rfl⟩
  · skip
    refine jx_of (fun _ _ kz => jw_iload_n 1 d_Y_gate_4 rfl rfl kz) ?_
    refine jx_of (fun _ _ kz => jw_iconst 1 d_Y_gate_5 (by decide) kz) ?_
    refine jx_icmp_le 11 d_Y_gate_6 (by decide) (fun b_6 => ?_) (fun b_6 => ?_)
    · skip
      obtain ⟨g, hg1, rfl⟩ := nI_of2 (n := 1) (by decide) b_1 b_6
      have hg : g < 2 := by omega
      refine jx_of (fun _ _ kz => jw_iload_n 2 d_Y_gate_11 rfl rfl kz) ?_
      rcases sw_cases (y) 5 (by decide) with t_12 | t_12
      · skip
        refine jx_of (fun _ _ kz => jw_tabOut 113 d_Y_gate_12 (by simpa using t_12) (by decide) kz) ?_
        refine jx_of (fun _ _ kz => jw_iconst (-1) d_Y_gate_113 (by decide) kz) ?_
        refine jx_iret d_Y_gate_114 rfl ?_
        exact ⟨⟨_, rfl⟩, rfl⟩
      · skip
        obtain ⟨j_12, t_12, e_12⟩ := t_12
        rcases (show j_12 = 0 ∨ j_12 = 1 ∨ j_12 = 2 ∨ j_12 = 3 ∨ j_12 = 4 by omega) with rfl | rfl | rfl | rfl | rfl
        · skip
          refine jx_of (fun _ _ kz => jw_tabIn 48 d_Y_gate_12 (by rw [e_12]; decide) (by rw [e_12]; decide) (by rw [e_12]; rfl) (by decide) kz) ?_
          refine jx_of (fun _ _ kz => jw_aload_n 0 d_Y_gate_48 rfl rfl kz) ?_
          refine jx_of (fun _ _ kz => jw_getPe (some (20, 0)) fl_Y_55 d_Y_gate_49 rfl rfl (by simp [me_I_sI, me_I_sP, me_I_nx, me_P_sI, me_P_sP, me_P_nx, me_N_sI, me_N_sP, me_N_nx, me_L_sI, me_L_sP, me_L_nx, show me_P M 0 0 8 = some (20, 0) from hY.1.1 (0, 0, 8, 20, 0) (by decide)]) kz) ?_
          refine jx_of (fun _ _ kz => jw_iload_n 1 d_Y_gate_52 rfl rfl kz) ?_
          refine jx_of (fun _ _ kz => jw_aalde (some (5, g)) d_Y_gate_53 rfl rfl (by rw [show me_L _ 20 0 = 2 from (by simp [me_I_sI, me_I_sP, me_I_nx, me_P_sI, me_P_sP, me_P_nx, me_N_sI, me_N_sP, me_N_nx, me_L_sI, me_L_sP, me_L_nx, show me_L M 20 0 = 2 from hY.1.2.1 (20, 0, 2) (by decide)])]; exact (vp_in_nI (by omega) (by omega))) (by rw [nI_clamp (by omega)]; exact yg20 hY hg) kz) ?_
          refine jx_of (fun _ _ kz => jw_getIe (_) fl_Y_137 d_Y_gate_54 rfl rfl rfl kz) ?_
          refine jx_iret d_Y_gate_57 rfl ?_
          exact ⟨⟨_, rfl⟩, rfl⟩
        · skip
          refine jx_of (fun _ _ kz => jw_tabIn 58 d_Y_gate_12 (by rw [e_12]; decide) (by rw [e_12]; decide) (by rw [e_12]; rfl) (by decide) kz) ?_
          refine jx_of (fun _ _ kz => jw_aload_n 0 d_Y_gate_58 rfl rfl kz) ?_
          refine jx_of (fun _ _ kz => jw_getPe (some (20, 0)) fl_Y_55 d_Y_gate_59 rfl rfl (by simp [me_I_sI, me_I_sP, me_I_nx, me_P_sI, me_P_sP, me_P_nx, me_N_sI, me_N_sP, me_N_nx, me_L_sI, me_L_sP, me_L_nx, show me_P M 0 0 8 = some (20, 0) from hY.1.1 (0, 0, 8, 20, 0) (by decide)]) kz) ?_
          refine jx_of (fun _ _ kz => jw_iload_n 1 d_Y_gate_62 rfl rfl kz) ?_
          refine jx_of (fun _ _ kz => jw_aalde (some (5, g)) d_Y_gate_63 rfl rfl (by rw [show me_L _ 20 0 = 2 from (by simp [me_I_sI, me_I_sP, me_I_nx, me_P_sI, me_P_sP, me_P_nx, me_N_sI, me_N_sP, me_N_nx, me_L_sI, me_L_sP, me_L_nx, show me_L M 20 0 = 2 from hY.1.2.1 (20, 0, 2) (by decide)])]; exact (vp_in_nI (by omega) (by omega))) (by rw [nI_clamp (by omega)]; exact yg20 hY hg) kz) ?_
          refine jx_of (fun _ _ kz => jw_getPe (some (4, (5 + g))) fl_Y_175 d_Y_gate_64 rfl rfl (by simp [me_I_sI, me_I_sP, me_I_nx, me_P_sI, me_P_sP, me_P_nx, me_N_sI, me_N_sP, me_N_nx, me_L_sI, me_L_sP, me_L_nx, show me_P M 5 g 0 = some (4, 5 + g) from yg5 hY hg]) kz) ?_
          refine jx_of (fun _ _ kz => jw_getIe (_) fl_Y_168 d_Y_gate_67 rfl rfl rfl kz) ?_
          refine jx_iret d_Y_gate_70 rfl ?_
          exact ⟨⟨_, rfl⟩, rfl⟩
        · skip
          refine jx_of (fun _ _ kz => jw_tabIn 71 d_Y_gate_12 (by rw [e_12]; decide) (by rw [e_12]; decide) (by rw [e_12]; rfl) (by decide) kz) ?_
          refine jx_of (fun _ _ kz => jw_aload_n 0 d_Y_gate_71 rfl rfl kz) ?_
          refine jx_of (fun _ _ kz => jw_aload_n 0 d_Y_gate_72 rfl rfl kz) ?_
          refine jx_of (fun _ _ kz => jw_getPe (some (20, 0)) fl_Y_55 d_Y_gate_73 rfl rfl (by simp [me_I_sI, me_I_sP, me_I_nx, me_P_sI, me_P_sP, me_P_nx, me_N_sI, me_N_sP, me_N_nx, me_L_sI, me_L_sP, me_L_nx, show me_P M 0 0 8 = some (20, 0) from hY.1.1 (0, 0, 8, 20, 0) (by decide)]) kz) ?_
          refine jx_of (fun _ _ kz => jw_iload_n 1 d_Y_gate_76 rfl rfl kz) ?_
          refine jx_of (fun _ _ kz => jw_aalde (some (5, g)) d_Y_gate_77 rfl rfl (by rw [show me_L _ 20 0 = 2 from (by simp [me_I_sI, me_I_sP, me_I_nx, me_P_sI, me_P_sP, me_P_nx, me_N_sI, me_N_sP, me_N_nx, me_L_sI, me_L_sP, me_L_nx, show me_L M 20 0 = 2 from hY.1.2.1 (20, 0, 2) (by decide)])]; exact (vp_in_nI (by omega) (by omega))) (by rw [nI_clamp (by omega)]; exact yg20 hY hg) kz) ?_
          refine jx_callV (y_Y_gotByFirst d g np nt hY  hg) mt_Y_gotByFirst cf_Y rfl rfl ml_Y_178 im_Y_gotByFirst se_Y_gotByFirst d_Y_gate_78 rfl rfl (Nat.le_of_ble_eq_true rfl) ?_
          rintro _ _ ⟨⟨vw, rfl⟩, rfl⟩
          refine jx_eq (st2 := [.inl vw]) rfl rfl rfl ?_
          refine jx_iret d_Y_gate_81 rfl ?_
          exact ⟨⟨_, rfl⟩, rfl⟩
        · skip
          refine jx_of (fun _ _ kz => jw_tabIn 82 d_Y_gate_12 (by rw [e_12]; decide) (by rw [e_12]; decide) (by rw [e_12]; rfl) (by decide) kz) ?_
          refine jx_of (fun _ _ kz => jw_aload_n 0 d_Y_gate_82 rfl rfl kz) ?_
          refine jx_of (fun _ _ kz => jw_getPe (some (21, 0)) fl_Y_62 d_Y_gate_83 rfl rfl (by simp [me_I_sI, me_I_sP, me_I_nx, me_P_sI, me_P_sP, me_P_nx, me_N_sI, me_N_sP, me_N_nx, me_L_sI, me_L_sP, me_L_nx, show me_P M 0 0 9 = some (21, 0) from hY.1.1 (0, 0, 9, 21, 0) (by decide)]) kz) ?_
          refine jx_of (fun _ _ kz => jw_iload_n 1 d_Y_gate_86 rfl rfl kz) ?_
          refine jx_of (fun _ _ kz => jw_aalde (some (6, g)) d_Y_gate_87 rfl rfl (by rw [show me_L _ 21 0 = 2 from (by simp [me_I_sI, me_I_sP, me_I_nx, me_P_sI, me_P_sP, me_P_nx, me_N_sI, me_N_sP, me_N_nx, me_L_sI, me_L_sP, me_L_nx, show me_L M 21 0 = 2 from hY.1.2.1 (21, 0, 2) (by decide)])]; exact (vp_in_nI (by omega) (by omega))) (by rw [nI_clamp (by omega)]; exact yg21 hY hg) kz) ?_
          refine jx_of (fun _ _ kz => jw_getIe (_) fl_Y_182 d_Y_gate_88 rfl rfl rfl kz) ?_
          refine jx_if_eq 98 d_Y_gate_91 (by decide) (fun b_91 => ?_) (fun b_91 => ?_)
          · skip
            refine jx_of (fun _ _ kz => jw_iconst 0 d_Y_gate_98 (by decide) kz) ?_
            refine jx_iret d_Y_gate_99 rfl ?_
            exact ⟨⟨_, rfl⟩, rfl⟩
          · skip
            refine jx_of (fun _ _ kz => jw_iconst 1 d_Y_gate_94 (by decide) kz) ?_
            refine jx_of (fun _ _ kz => jw_goto 99 d_Y_gate_95 (by decide) kz) ?_
            refine jx_iret d_Y_gate_99 rfl ?_
            exact ⟨⟨_, rfl⟩, rfl⟩
        · skip
          refine jx_of (fun _ _ kz => jw_tabIn 100 d_Y_gate_12 (by rw [e_12]; decide) (by rw [e_12]; decide) (by rw [e_12]; rfl) (by decide) kz) ?_
          refine jx_of (fun _ _ kz => jw_aload_n 0 d_Y_gate_100 rfl rfl kz) ?_
          refine jx_of (fun _ _ kz => jw_getPe (some (21, 0)) fl_Y_62 d_Y_gate_101 rfl rfl (by simp [me_I_sI, me_I_sP, me_I_nx, me_P_sI, me_P_sP, me_P_nx, me_N_sI, me_N_sP, me_N_nx, me_L_sI, me_L_sP, me_L_nx, show me_P M 0 0 9 = some (21, 0) from hY.1.1 (0, 0, 9, 21, 0) (by decide)]) kz) ?_
          refine jx_of (fun _ _ kz => jw_iload_n 1 d_Y_gate_104 rfl rfl kz) ?_
          refine jx_of (fun _ _ kz => jw_aalde (some (6, g)) d_Y_gate_105 rfl rfl (by rw [show me_L _ 21 0 = 2 from (by simp [me_I_sI, me_I_sP, me_I_nx, me_P_sI, me_P_sP, me_P_nx, me_N_sI, me_N_sP, me_N_nx, me_L_sI, me_L_sP, me_L_nx, show me_L M 21 0 = 2 from hY.1.2.1 (21, 0, 2) (by decide)])]; exact (vp_in_nI (by omega) (by omega))) (by rw [nI_clamp (by omega)]; exact yg21 hY hg) kz) ?_
          refine jx_of (fun _ _ kz => jw_getPe (some (4, (7 + g))) fl_Y_186 d_Y_gate_106 rfl rfl (by simp [me_I_sI, me_I_sP, me_I_nx, me_P_sI, me_P_sP, me_P_nx, me_N_sI, me_N_sP, me_N_nx, me_L_sI, me_L_sP, me_L_nx, show me_P M 6 g 0 = some (4, 7 + g) from yg6 hY hg]) kz) ?_
          refine jx_of (fun _ _ kz => jw_getIe (_) fl_Y_168 d_Y_gate_109 rfl rfl rfl kz) ?_
          refine jx_iret d_Y_gate_112 rfl ?_
          exact ⟨⟨_, rfl⟩, rfl⟩
    · skip
      refine jx_of (fun _ _ kz => jw_iconst (-1) d_Y_gate_9 (by decide) kz) ?_
      refine jx_iret d_Y_gate_10 rfl ?_
      exact ⟨⟨_, rfl⟩, rfl⟩
set_option maxRecDepth 20000 in
set_option maxHeartbeats 4000000 in
theorem y_Y_count {G : Gt} {M : Me} (d : Nat) (x : Int32) (np : Nat) (nt : Nat) (hY : yI M np nt) : sx G yt_Y_count yn_Y_count (d + 3) [.inr (some (0, 0)), .inl x] M (fun r M' => (∃ v : Int32, r = some (.inl v)) ∧ M = M') := by
  refine sx_of (k := 0) (lc := [some (.inr (some (0, 0))), some (.inl x)]) mt_Y_count (Nat.le_of_ble_eq_true rfl) rfl ?_
  refine jx_of (fun _ _ kz => jw_iload_n 1 d_Y_count_0 rfl rfl kz) ?_
  rcases sw_cases (x) 8 (by decide) with t_1 | t_1
  · skip
    refine jx_of (fun _ _ kz => jw_tabOut 94 d_Y_count_1 (by simpa using t_1) (by decide) kz) ?_
    refine jx_of (fun _ _ kz => jw_iconst (-1) d_Y_count_94 (by decide) kz) ?_
    refine jx_iret d_Y_count_95 rfl ?_
    exact ⟨⟨_, rfl⟩, rfl⟩
  · skip
    obtain ⟨j_1, t_1, e_1⟩ := t_1
    rcases (show j_1 = 0 ∨ j_1 = 1 ∨ j_1 = 2 ∨ j_1 = 3 ∨ j_1 = 4 ∨ j_1 = 5 ∨ j_1 = 6 ∨ j_1 = 7 by omega) with rfl | rfl | rfl | rfl | rfl | rfl | rfl | rfl
    · skip
      refine jx_of (fun _ _ kz => jw_tabIn 48 d_Y_count_1 (by rw [e_1]; decide) (by rw [e_1]; decide) (by rw [e_1]; rfl) (by decide) kz) ?_
      refine jx_of (fun _ _ kz => jw_aload_n 0 d_Y_count_48 rfl rfl kz) ?_
      refine jx_of (fun _ _ kz => jw_getIe (_) fl_Y_20 d_Y_count_49 rfl rfl rfl kz) ?_
      refine jx_iret d_Y_count_52 rfl ?_
      exact ⟨⟨_, rfl⟩, rfl⟩
    · skip
      refine jx_of (fun _ _ kz => jw_tabIn 53 d_Y_count_1 (by rw [e_1]; decide) (by rw [e_1]; decide) (by rw [e_1]; rfl) (by decide) kz) ?_
      refine jx_of (fun _ _ kz => jw_aload_n 0 d_Y_count_53 rfl rfl kz) ?_
      refine jx_of (fun _ _ kz => jw_getIe (_) fl_Y_30 d_Y_count_54 rfl rfl rfl kz) ?_
      refine jx_iret d_Y_count_57 rfl ?_
      exact ⟨⟨_, rfl⟩, rfl⟩
    · skip
      refine jx_of (fun _ _ kz => jw_tabIn 58 d_Y_count_1 (by rw [e_1]; decide) (by rw [e_1]; decide) (by rw [e_1]; rfl) (by decide) kz) ?_
      refine jx_of (fun _ _ kz => jw_aload_n 0 d_Y_count_58 rfl rfl kz) ?_
      refine jx_callV (y_Y_tasksNotEnded d np nt hY) mt_Y_tasksNotEnded cf_Y rfl rfl ml_Y_187 im_Y_tasksNotEnded se_Y_tasksNotEnded d_Y_count_59 rfl rfl (Nat.le_of_ble_eq_true rfl) ?_
      rintro _ _ ⟨⟨vw, rfl⟩, rfl⟩
      refine jx_eq (st2 := [.inl vw]) rfl rfl rfl ?_
      refine jx_iret d_Y_count_62 rfl ?_
      exact ⟨⟨_, rfl⟩, rfl⟩
    · skip
      refine jx_of (fun _ _ kz => jw_tabIn 63 d_Y_count_1 (by rw [e_1]; decide) (by rw [e_1]; decide) (by rw [e_1]; rfl) (by decide) kz) ?_
      refine jx_of (fun _ _ kz => jw_aload_n 0 d_Y_count_63 rfl rfl kz) ?_
      refine jx_of (fun _ _ kz => jw_getIe (_) fl_Y_66 d_Y_count_64 rfl rfl rfl kz) ?_
      refine jx_iret d_Y_count_67 rfl ?_
      exact ⟨⟨_, rfl⟩, rfl⟩
    · skip
      refine jx_of (fun _ _ kz => jw_tabIn 68 d_Y_count_1 (by rw [e_1]; decide) (by rw [e_1]; decide) (by rw [e_1]; rfl) (by decide) kz) ?_
      refine jx_of (fun _ _ kz => jw_aload_n 0 d_Y_count_68 rfl rfl kz) ?_
      refine jx_of (fun _ _ kz => jw_getIe (_) fl_Y_69 d_Y_count_69 rfl rfl rfl kz) ?_
      refine jx_iret d_Y_count_72 rfl ?_
      exact ⟨⟨_, rfl⟩, rfl⟩
    · skip
      refine jx_of (fun _ _ kz => jw_tabIn 73 d_Y_count_1 (by rw [e_1]; decide) (by rw [e_1]; decide) (by rw [e_1]; rfl) (by decide) kz) ?_
      refine jx_of (fun _ _ kz => jw_aload_n 0 d_Y_count_73 rfl rfl kz) ?_
      refine jx_of (fun _ _ kz => jw_getPe (some (4, 3)) fl_Y_45 d_Y_count_74 rfl rfl (by simp [me_I_sI, me_I_sP, me_I_nx, me_P_sI, me_P_sP, me_P_nx, me_N_sI, me_N_sP, me_N_nx, me_L_sI, me_L_sP, me_L_nx, show me_P M 0 0 6 = some (4, 3) from hY.1.1 (0, 0, 6, 4, 3) (by decide)]) kz) ?_
      refine jx_of (fun _ _ kz => jw_getIe (_) fl_Y_168 d_Y_count_77 rfl rfl rfl kz) ?_
      refine jx_iret d_Y_count_80 rfl ?_
      exact ⟨⟨_, rfl⟩, rfl⟩
    · skip
      refine jx_of (fun _ _ kz => jw_tabIn 81 d_Y_count_1 (by rw [e_1]; decide) (by rw [e_1]; decide) (by rw [e_1]; rfl) (by decide) kz) ?_
      refine jx_of (fun _ _ kz => jw_aload_n 0 d_Y_count_81 rfl rfl kz) ?_
      refine jx_of (fun _ _ kz => jw_getIe (_) fl_Y_72 d_Y_count_82 rfl rfl rfl kz) ?_
      refine jx_iret d_Y_count_85 rfl ?_
      exact ⟨⟨_, rfl⟩, rfl⟩
    · skip
      refine jx_of (fun _ _ kz => jw_tabIn 86 d_Y_count_1 (by rw [e_1]; decide) (by rw [e_1]; decide) (by rw [e_1]; rfl) (by decide) kz) ?_
      refine jx_of (fun _ _ kz => jw_aload_n 0 d_Y_count_86 rfl rfl kz) ?_
      refine jx_of (fun _ _ kz => jw_getPe (some (1, np)) fl_Y_12 d_Y_count_87 rfl rfl (by simp [me_I_sI, me_I_sP, me_I_nx, me_P_sI, me_P_sP, me_P_nx, me_N_sI, me_N_sP, me_N_nx, me_L_sI, me_L_sP, me_L_nx, show me_P M 0 0 0 = some (1, np) from hY.2.1.2.2.1]) kz) ?_
      refine jx_of (fun _ _ kz => jw_getIe (_) fl_Y_89 d_Y_count_90 rfl rfl rfl kz) ?_
      refine jx_iret d_Y_count_93 rfl ?_
      exact ⟨⟨_, rfl⟩, rfl⟩
