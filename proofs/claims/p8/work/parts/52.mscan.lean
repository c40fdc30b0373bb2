set_option maxRecDepth 20000 in
set_option maxHeartbeats 4000000 in
theorem z_M_firstAt_loop {G : Gt} {M : Me} (d : Nat) (x y : Int32) (hm : mSh M) (np nt : Nat) (hP : mPr M np) (hT : mTk M np nt) (c0 s0 : Nat) : ∀ (m k : Nat) (bs : Int32) (o5 o6 : Option AV), k + m = 12 * nt → (bs = -1 ∨ ∃ b, b < 12 * nt ∧ bs = nI b ∧ ¬ me_I M 44 0 b = 0) → jx G yt_M_firstAt (d + 2) c0 s0 M 5 [some (.inr (some (7, 0))), some (.inl x), some (.inl y), some (.inl bs), some (.inl (nI k)), o5, o6] [] (fun r M' => (∃ bs : Int32, r = some (.inl bs) ∧ (bs = -1 ∨ ∃ b, b < 12 * nt ∧ bs = nI b ∧ ¬ me_I M 44 0 b = 0)) ∧ M = M') := by
  have hn12 := hT.2.1
  intro m
  induction m with
  | zero =>
    intro k bs o5 o6 hk hb
    refine jx_of (fun _ _ kz => jw_iload d_M_firstAt_5 rfl kz) ?_
    refine jx_of (fun _ _ kz => jw_bipush 12 d_M_firstAt_7 (by decide) kz) ?_
    refine jx_of (fun _ _ kz => jw_aload_n 0 d_M_firstAt_9 rfl rfl kz) ?_
    refine jx_of (fun _ _ kz => jw_getIe (nI nt) fl_M_112 d_M_firstAt_10 rfl rfl hT.1 kz) ?_
    refine jx_of (fun _ _ kz => jw_imul d_M_firstAt_13 kz) ?_
    rw [show (12 * (nI nt) : Int32) = nI (12 * nt) from n12 nt]
    refine jx_icmp_ge 99 d_M_firstAt_14 (by decide) (fun _ => ?_) (fun h => absurd (nI_le (by omega) (by omega)) h)
    refine jx_of (fun _ _ kz => jw_iload_n 3 d_M_firstAt_99 rfl rfl kz) ?_
    refine jx_iret d_M_firstAt_100 rfl ?_
    exact ⟨⟨bs, rfl, hb⟩, rfl⟩
  | succ m ih =>
    intro k bs o5 o6 hk hb
    obtain ⟨p, hp1, hp2⟩ := hT.2.2 (k / 12) (by omega)
    refine jx_of (fun _ _ kz => jw_iload d_M_firstAt_5 rfl kz) ?_
    refine jx_of (fun _ _ kz => jw_bipush 12 d_M_firstAt_7 (by decide) kz) ?_
    refine jx_of (fun _ _ kz => jw_aload_n 0 d_M_firstAt_9 rfl rfl kz) ?_
    refine jx_of (fun _ _ kz => jw_getIe (nI nt) fl_M_112 d_M_firstAt_10 rfl rfl hT.1 kz) ?_
    refine jx_of (fun _ _ kz => jw_imul d_M_firstAt_13 kz) ?_
    rw [show (12 * (nI nt) : Int32) = nI (12 * nt) from n12 nt]
    refine jx_icmp_ge 99 d_M_firstAt_14 (by decide) (fun h => absurd h (nI_ge (by omega) (by omega))) (fun _ => ?_)
    refine jx_of (fun _ _ kz => jw_iload d_M_firstAt_17 rfl kz) ?_
    refine jx_of (fun _ _ kz => jw_bipush 12 d_M_firstAt_19 (by decide) kz) ?_
    refine jx_of (fun _ _ kz => jw_idiv d_M_firstAt_21 (by decide) kz) ?_
    rw [show ((nI k) / 12 : Int32) = nI (k / 12) from pk_div (by omega) (by decide) (by decide)]
    refine jx_of (fun _ _ kz => jw_istore d_M_firstAt_22 (Nat.le_of_ble_eq_true rfl) kz) ?_
    dsimp only [List.set]
    refine jx_of (fun _ _ kz => jw_iload d_M_firstAt_24 rfl kz) ?_
    refine jx_of (fun _ _ kz => jw_bipush 12 d_M_firstAt_26 (by decide) kz) ?_
    refine jx_of (fun _ _ kz => jw_irem d_M_firstAt_28 (by decide) kz) ?_
    rw [show ((nI k) - (nI k) / 12 * 12 : Int32) = nI (k % 12) from pk_rem (by omega) (by decide) (by decide)]
    refine jx_of (fun _ _ kz => jw_istore d_M_firstAt_29 (Nat.le_of_ble_eq_true rfl) kz) ?_
    dsimp only [List.set]
    refine jx_of (fun _ _ kz => jw_aload_n 0 d_M_firstAt_31 rfl rfl kz) ?_
    refine jx_of (fun _ _ kz => jw_getPe (some (44, 0)) fl_M_53 d_M_firstAt_32 rfl rfl (by simp [me_I_sI, me_I_sP, me_I_nx, me_P_sI, me_P_sP, me_P_nx, me_N_sI, me_N_sP, me_N_nx, me_L_sI, me_L_sP, me_L_nx, show me_P M 7 0 15 = some (44, 0) from hm.1 (7, 0, 15, 44, 0) (by decide)]) kz) ?_
    refine jx_of (fun _ _ kz => jw_iload d_M_firstAt_35 rfl kz) ?_
    refine jx_of (fun _ _ kz => jw_zalde (me_I M 44 0 k) d_M_firstAt_37 rfl rfl (by rw [show me_L _ 44 0 = 144 from (by simp [me_I_sI, me_I_sP, me_I_nx, me_P_sI, me_P_sP, me_P_nx, me_N_sI, me_N_sP, me_N_nx, me_L_sI, me_L_sP, me_L_nx, show me_L M 44 0 = 144 from hm.2 (44, 0, 144) (by decide)])]; exact (vp_in_nI (by omega) (by decide))) (by rw [nI_clamp (by omega)]) kz) ?_
    refine jx_if_eq 93 d_M_firstAt_38 (by decide) (fun b_38 => ?_) (fun b_38 => ?_)
    · skip
      refine jx_of (fun _ _ kz => jw_iincc 1 d_M_firstAt_93 (by decide) rfl (Nat.le_of_ble_eq_true rfl) kz) ?_
      dsimp only [List.set]
      refine jx_of (fun _ _ kz => jw_goto 5 d_M_firstAt_96 (by decide) kz) ?_
      rw [nI_1]
      exact ih (k + 1) _ _ _ (by omega) (by first | exact hb | exact Or.inr ⟨k, by omega, rfl, b_38⟩ | exact Or.inr ⟨b, hb1, rfl, hb3⟩)
    · skip
      refine jx_of (fun _ _ kz => jw_aload_n 0 d_M_firstAt_41 rfl rfl kz) ?_
      refine jx_of (fun _ _ kz => jw_iload d_M_firstAt_42 rfl kz) ?_
      refine jx_of (fun _ _ kz => jw_iload d_M_firstAt_44 rfl kz) ?_
      refine jx_callV (z_M_opOf _ ((k / 12)) ((k % 12)) p hm  (by omega) (by omega) hp2 (by have := hP.2.1; omega)) mt_M_opOf cf_M rfl rfl ml_M_108 im_M_opOf se_M_opOf d_M_firstAt_46 rfl rfl (Nat.le_of_ble_eq_true rfl) ?_
      rintro _ _ ⟨rfl, rfl⟩
      refine jx_eq (st2 := [.inl (me_I M 30 0 (12 * p + (k % 12)))]) rfl rfl rfl ?_
      refine jx_of (fun _ _ kz => jw_iload_n 1 d_M_firstAt_49 rfl rfl kz) ?_
      refine jx_icmp_ne 93 d_M_firstAt_50 (by decide) (fun b_50 => ?_) (fun b_50 => ?_)
      · skip
        refine jx_of (fun _ _ kz => jw_iincc 1 d_M_firstAt_93 (by decide) rfl (Nat.le_of_ble_eq_true rfl) kz) ?_
        dsimp only [List.set]
        refine jx_of (fun _ _ kz => jw_goto 5 d_M_firstAt_96 (by decide) kz) ?_
        rw [nI_1]
        exact ih (k + 1) _ _ _ (by omega) (by first | exact hb | exact Or.inr ⟨k, by omega, rfl, b_38⟩ | exact Or.inr ⟨b, hb1, rfl, hb3⟩)
      · skip
        refine jx_of (fun _ _ kz => jw_aload_n 0 d_M_firstAt_53 rfl rfl kz) ?_
        refine jx_of (fun _ _ kz => jw_iload d_M_firstAt_54 rfl kz) ?_
        refine jx_of (fun _ _ kz => jw_iload d_M_firstAt_56 rfl kz) ?_
        refine jx_callV (z_M_argOf _ ((k / 12)) ((k % 12)) p hm  (by omega) (by omega) hp2 (by have := hP.2.1; omega)) mt_M_argOf cf_M rfl rfl ml_M_132 im_M_argOf se_M_argOf d_M_firstAt_58 rfl rfl (Nat.le_of_ble_eq_true rfl) ?_
        rintro _ _ ⟨rfl, rfl⟩
        refine jx_eq (st2 := [.inl (me_I M 31 0 (12 * p + (k % 12)))]) rfl rfl rfl ?_
        refine jx_of (fun _ _ kz => jw_iconst 2 d_M_firstAt_61 (by decide) kz) ?_
        refine jx_of (fun _ _ kz => jw_irem d_M_firstAt_62 (by decide) kz) ?_
        refine jx_of (fun _ _ kz => jw_iload_n 2 d_M_firstAt_63 rfl rfl kz) ?_
        refine jx_icmp_eq 70 d_M_firstAt_64 (by decide) (fun b_64 => ?_) (fun b_64 => ?_)
        · skip
          refine jx_of (fun _ _ kz => jw_iload_n 3 d_M_firstAt_70 rfl rfl kz) ?_
          refine jx_if_lt 90 d_M_firstAt_71 (by decide) (fun b_71 => ?_) (fun b_71 => ?_)
          · skip
            refine jx_of (fun _ _ kz => jw_iload d_M_firstAt_90 rfl kz) ?_
            refine jx_of (fun _ _ kz => jw_istore_n 3 d_M_firstAt_92 rfl (Nat.le_of_ble_eq_true rfl) kz) ?_
            dsimp only [List.set]
            refine jx_of (fun _ _ kz => jw_iincc 1 d_M_firstAt_93 (by decide) rfl (Nat.le_of_ble_eq_true rfl) kz) ?_
            dsimp only [List.set]
            refine jx_of (fun _ _ kz => jw_goto 5 d_M_firstAt_96 (by decide) kz) ?_
            rw [nI_1]
            exact ih (k + 1) _ _ _ (by omega) (by first | exact hb | exact Or.inr ⟨k, by omega, rfl, b_38⟩ | exact Or.inr ⟨b, hb1, rfl, hb3⟩)
          · skip
            obtain ⟨b, hb1, rfl, hb3⟩ := hb.resolve_left (fun q => b_71 (by rw [q]; decide))
            refine jx_of (fun _ _ kz => jw_aload_n 0 d_M_firstAt_74 rfl rfl kz) ?_
            refine jx_of (fun _ _ kz => jw_getPe (some (43, 0)) fl_M_50 d_M_firstAt_75 rfl rfl (by simp [me_I_sI, me_I_sP, me_I_nx, me_P_sI, me_P_sP, me_P_nx, me_N_sI, me_N_sP, me_N_nx, me_L_sI, me_L_sP, me_L_nx, show me_P M 7 0 14 = some (43, 0) from hm.1 (7, 0, 14, 43, 0) (by decide)]) kz) ?_
            refine jx_of (fun _ _ kz => jw_iload d_M_firstAt_78 rfl kz) ?_
            refine jx_of (fun _ _ kz => jw_ialde (me_I M 43 0 k) d_M_firstAt_80 rfl rfl (by rw [show me_L _ 43 0 = 144 from (by simp [me_I_sI, me_I_sP, me_I_nx, me_P_sI, me_P_sP, me_P_nx, me_N_sI, me_N_sP, me_N_nx, me_L_sI, me_L_sP, me_L_nx, show me_L M 43 0 = 144 from hm.2 (43, 0, 144) (by decide)])]; exact (vp_in_nI (by omega) (by decide))) (by rw [nI_clamp (by omega)]) kz) ?_
            refine jx_of (fun _ _ kz => jw_aload_n 0 d_M_firstAt_81 rfl rfl kz) ?_
            refine jx_of (fun _ _ kz => jw_getPe (some (43, 0)) fl_M_50 d_M_firstAt_82 rfl rfl (by simp [me_I_sI, me_I_sP, me_I_nx, me_P_sI, me_P_sP, me_P_nx, me_N_sI, me_N_sP, me_N_nx, me_L_sI, me_L_sP, me_L_nx, show me_P M 7 0 14 = some (43, 0) from hm.1 (7, 0, 14, 43, 0) (by decide)]) kz) ?_
            refine jx_of (fun _ _ kz => jw_iload_n 3 d_M_firstAt_85 rfl rfl kz) ?_
            refine jx_of (fun _ _ kz => jw_ialde (me_I M 43 0 b) d_M_firstAt_86 rfl rfl (by rw [show me_L _ 43 0 = 144 from (by simp [me_I_sI, me_I_sP, me_I_nx, me_P_sI, me_P_sP, me_P_nx, me_N_sI, me_N_sP, me_N_nx, me_L_sI, me_L_sP, me_L_nx, show me_L M 43 0 = 144 from hm.2 (43, 0, 144) (by decide)])]; exact (vp_in_nI (by omega) (by decide))) (by rw [nI_clamp (by omega)]) kz) ?_
            refine jx_icmp_ge 93 d_M_firstAt_87 (by decide) (fun b_87 => ?_) (fun b_87 => ?_)
            · skip
              refine jx_of (fun _ _ kz => jw_iincc 1 d_M_firstAt_93 (by decide) rfl (Nat.le_of_ble_eq_true rfl) kz) ?_
              dsimp only [List.set]
              refine jx_of (fun _ _ kz => jw_goto 5 d_M_firstAt_96 (by decide) kz) ?_
              rw [nI_1]
              exact ih (k + 1) _ _ _ (by omega) (by first | exact hb | exact Or.inr ⟨k, by omega, rfl, b_38⟩ | exact Or.inr ⟨b, hb1, rfl, hb3⟩)
            · skip
              refine jx_of (fun _ _ kz => jw_iload d_M_firstAt_90 rfl kz) ?_
              refine jx_of (fun _ _ kz => jw_istore_n 3 d_M_firstAt_92 rfl (Nat.le_of_ble_eq_true rfl) kz) ?_
              dsimp only [List.set]
              refine jx_of (fun _ _ kz => jw_iincc 1 d_M_firstAt_93 (by decide) rfl (Nat.le_of_ble_eq_true rfl) kz) ?_
              dsimp only [List.set]
              refine jx_of (fun _ _ kz => jw_goto 5 d_M_firstAt_96 (by decide) kz) ?_
              rw [nI_1]
              exact ih (k + 1) _ _ _ (by omega) (by first | exact hb | exact Or.inr ⟨k, by omega, rfl, b_38⟩ | exact Or.inr ⟨b, hb1, rfl, hb3⟩)
        · skip
          refine jx_of (fun _ _ kz => jw_goto 93 d_M_firstAt_67 (by decide) kz) ?_
          refine jx_of (fun _ _ kz => jw_iincc 1 d_M_firstAt_93 (by decide) rfl (Nat.le_of_ble_eq_true rfl) kz) ?_
          dsimp only [List.set]
          refine jx_of (fun _ _ kz => jw_goto 5 d_M_firstAt_96 (by decide) kz) ?_
          rw [nI_1]
          exact ih (k + 1) _ _ _ (by omega) (by first | exact hb | exact Or.inr ⟨k, by omega, rfl, b_38⟩ | exact Or.inr ⟨b, hb1, rfl, hb3⟩)
set_option maxRecDepth 20000 in
set_option maxHeartbeats 4000000 in
theorem z_M_firstAt {G : Gt} {M : Me} (d : Nat) (x : Int32) (y : Int32) (np : Nat) (nt : Nat) (hm : mSh M) (hP : mPr M np) (hT : mTk M np nt) : sx G yt_M_firstAt yn_M_firstAt (d + 2) [.inr (some (7, 0)), .inl x, .inl y] M (fun r M' => (∃ bs : Int32, r = some (.inl bs) ∧ (bs = -1 ∨ ∃ b, b < 12 * nt ∧ bs = nI b ∧ ¬ me_I M 44 0 b = 0)) ∧ M = M') := by
  refine sx_of (k := 4) (lc := [some (.inr (some (7, 0))), some (.inl x), some (.inl y), none, none, none, none]) mt_M_firstAt (Nat.le_of_ble_eq_true rfl) rfl ?_
  refine jx_of (fun _ _ kz => jw_iconst (-1) d_M_firstAt_0 (by decide) kz) ?_
  refine jx_of (fun _ _ kz => jw_istore_n 3 d_M_firstAt_1 rfl (Nat.le_of_ble_eq_true rfl) kz) ?_
  dsimp only [List.set]
  refine jx_of (fun _ _ kz => jw_iconst 0 d_M_firstAt_2 (by decide) kz) ?_
  refine jx_of (fun _ _ kz => jw_istore d_M_firstAt_3 (Nat.le_of_ble_eq_true rfl) kz) ?_
  dsimp only [List.set]
  exact z_M_firstAt_loop d x y hm np nt hP hT _ _ (12 * nt) 0 (-1) none none (by omega) (Or.inl rfl)
set_option maxRecDepth 20000 in
set_option maxHeartbeats 4000000 in
theorem z_M_waiting_loop {G : Gt} {M : Me} (d : Nat) (x y : Int32) (hm : mSh M) (np nt : Nat) (hP : mPr M np) (hT : mTk M np nt) (c0 s0 : Nat) : ∀ (m k : Nat) (v : Int32), k + m = 12 * nt → jx G yt_M_waiting (d + 2) c0 s0 M 5 [some (.inr (some (7, 0))), some (.inl x), some (.inl y), some (.inl v), some (.inl (nI k))] [] (fun r M' => (∃ v : Int32, r = some (.inl v)) ∧ M = M') := by
  have hn12 := hT.2.1
  intro m
  induction m with
  | zero =>
    intro k v hk
    refine jx_of (fun _ _ kz => jw_iload d_M_waiting_5 rfl kz) ?_
    refine jx_of (fun _ _ kz => jw_bipush 12 d_M_waiting_7 (by decide) kz) ?_
    refine jx_of (fun _ _ kz => jw_aload_n 0 d_M_waiting_9 rfl rfl kz) ?_
    refine jx_of (fun _ _ kz => jw_getIe (nI nt) fl_M_112 d_M_waiting_10 rfl rfl hT.1 kz) ?_
    refine jx_of (fun _ _ kz => jw_imul d_M_waiting_13 kz) ?_
    rw [show (12 * (nI nt) : Int32) = nI (12 * nt) from n12 nt]
    refine jx_icmp_ge 74 d_M_waiting_14 (by decide) (fun _ => ?_) (fun h => absurd (nI_le (by omega) (by omega)) h)
    refine jx_of (fun _ _ kz => jw_iload_n 3 d_M_waiting_74 rfl rfl kz) ?_
    refine jx_iret d_M_waiting_75 rfl ?_
    exact ⟨⟨v, rfl⟩, rfl⟩
  | succ m ih =>
    intro k v hk
    obtain ⟨p, hp1, hp2⟩ := hT.2.2 (k / 12) (by omega)
    refine jx_of (fun _ _ kz => jw_iload d_M_waiting_5 rfl kz) ?_
    refine jx_of (fun _ _ kz => jw_bipush 12 d_M_waiting_7 (by decide) kz) ?_
    refine jx_of (fun _ _ kz => jw_aload_n 0 d_M_waiting_9 rfl rfl kz) ?_
    refine jx_of (fun _ _ kz => jw_getIe (nI nt) fl_M_112 d_M_waiting_10 rfl rfl hT.1 kz) ?_
    refine jx_of (fun _ _ kz => jw_imul d_M_waiting_13 kz) ?_
    rw [show (12 * (nI nt) : Int32) = nI (12 * nt) from n12 nt]
    refine jx_icmp_ge 74 d_M_waiting_14 (by decide) (fun h => absurd h (nI_ge (by omega) (by omega))) (fun _ => ?_)
    refine jx_of (fun _ _ kz => jw_aload_n 0 d_M_waiting_17 rfl rfl kz) ?_
    refine jx_of (fun _ _ kz => jw_getPe (some (44, 0)) fl_M_53 d_M_waiting_18 rfl rfl (by simp [me_I_sI, me_I_sP, me_I_nx, me_P_sI, me_P_sP, me_P_nx, me_N_sI, me_N_sP, me_N_nx, me_L_sI, me_L_sP, me_L_nx, show me_P M 7 0 15 = some (44, 0) from hm.1 (7, 0, 15, 44, 0) (by decide)]) kz) ?_
    refine jx_of (fun _ _ kz => jw_iload d_M_waiting_21 rfl kz) ?_
    refine jx_of (fun _ _ kz => jw_zalde (me_I M 44 0 k) d_M_waiting_23 rfl rfl (by rw [show me_L _ 44 0 = 144 from (by simp [me_I_sI, me_I_sP, me_I_nx, me_P_sI, me_P_sP, me_P_nx, me_N_sI, me_N_sP, me_N_nx, me_L_sI, me_L_sP, me_L_nx, show me_L M 44 0 = 144 from hm.2 (44, 0, 144) (by decide)])]; exact (vp_in_nI (by omega) (by decide))) (by rw [nI_clamp (by omega)]) kz) ?_
    refine jx_if_eq 68 d_M_waiting_24 (by decide) (fun b_24 => ?_) (fun b_24 => ?_)
    · skip
      refine jx_of (fun _ _ kz => jw_iincc 1 d_M_waiting_68 (by decide) rfl (Nat.le_of_ble_eq_true rfl) kz) ?_
      dsimp only [List.set]
      refine jx_of (fun _ _ kz => jw_goto 5 d_M_waiting_71 (by decide) kz) ?_
      rw [nI_1]
      exact ih (k + 1) _ (by omega)
    · skip
      refine jx_of (fun _ _ kz => jw_aload_n 0 d_M_waiting_27 rfl rfl kz) ?_
      refine jx_of (fun _ _ kz => jw_iload d_M_waiting_28 rfl kz) ?_
      refine jx_of (fun _ _ kz => jw_bipush 12 d_M_waiting_30 (by decide) kz) ?_
      refine jx_of (fun _ _ kz => jw_idiv d_M_waiting_32 (by decide) kz) ?_
      rw [show ((nI k) / 12 : Int32) = nI (k / 12) from pk_div (by omega) (by decide) (by decide)]
      refine jx_of (fun _ _ kz => jw_iload d_M_waiting_33 rfl kz) ?_
      refine jx_of (fun _ _ kz => jw_bipush 12 d_M_waiting_35 (by decide) kz) ?_
      refine jx_of (fun _ _ kz => jw_irem d_M_waiting_37 (by decide) kz) ?_
      rw [show ((nI k) - (nI k) / 12 * 12 : Int32) = nI (k % 12) from pk_rem (by omega) (by decide) (by decide)]
      refine jx_callV (z_M_opOf _ ((k / 12)) ((k % 12)) p hm  (by omega) (by omega) hp2 (by have := hP.2.1; omega)) mt_M_opOf cf_M rfl rfl ml_M_108 im_M_opOf se_M_opOf d_M_waiting_38 rfl rfl (Nat.le_of_ble_eq_true rfl) ?_
      rintro _ _ ⟨rfl, rfl⟩
      refine jx_eq (st2 := [.inl (me_I M 30 0 (12 * p + (k % 12)))]) rfl rfl rfl ?_
      refine jx_of (fun _ _ kz => jw_iload_n 1 d_M_waiting_41 rfl rfl kz) ?_
      refine jx_icmp_ne 68 d_M_waiting_42 (by decide) (fun b_42 => ?_) (fun b_42 => ?_)
      · skip
        refine jx_of (fun _ _ kz => jw_iincc 1 d_M_waiting_68 (by decide) rfl (Nat.le_of_ble_eq_true rfl) kz) ?_
        dsimp only [List.set]
        refine jx_of (fun _ _ kz => jw_goto 5 d_M_waiting_71 (by decide) kz) ?_
        rw [nI_1]
        exact ih (k + 1) _ (by omega)
      · skip
        refine jx_of (fun _ _ kz => jw_aload_n 0 d_M_waiting_45 rfl rfl kz) ?_
        refine jx_of (fun _ _ kz => jw_iload d_M_waiting_46 rfl kz) ?_
        refine jx_of (fun _ _ kz => jw_bipush 12 d_M_waiting_48 (by decide) kz) ?_
        refine jx_of (fun _ _ kz => jw_idiv d_M_waiting_50 (by decide) kz) ?_
        rw [show ((nI k) / 12 : Int32) = nI (k / 12) from pk_div (by omega) (by decide) (by decide)]
        refine jx_of (fun _ _ kz => jw_iload d_M_waiting_51 rfl kz) ?_
        refine jx_of (fun _ _ kz => jw_bipush 12 d_M_waiting_53 (by decide) kz) ?_
        refine jx_of (fun _ _ kz => jw_irem d_M_waiting_55 (by decide) kz) ?_
        rw [show ((nI k) - (nI k) / 12 * 12 : Int32) = nI (k % 12) from pk_rem (by omega) (by decide) (by decide)]
        refine jx_callV (z_M_argOf _ ((k / 12)) ((k % 12)) p hm  (by omega) (by omega) hp2 (by have := hP.2.1; omega)) mt_M_argOf cf_M rfl rfl ml_M_132 im_M_argOf se_M_argOf d_M_waiting_56 rfl rfl (Nat.le_of_ble_eq_true rfl) ?_
        rintro _ _ ⟨rfl, rfl⟩
        refine jx_eq (st2 := [.inl (me_I M 31 0 (12 * p + (k % 12)))]) rfl rfl rfl ?_
        refine jx_of (fun _ _ kz => jw_iconst 2 d_M_waiting_59 (by decide) kz) ?_
        refine jx_of (fun _ _ kz => jw_irem d_M_waiting_60 (by decide) kz) ?_
        refine jx_of (fun _ _ kz => jw_iload_n 2 d_M_waiting_61 rfl rfl kz) ?_
        refine jx_icmp_ne 68 d_M_waiting_62 (by decide) (fun b_62 => ?_) (fun b_62 => ?_)
        · skip
          refine jx_of (fun _ _ kz => jw_iincc 1 d_M_waiting_68 (by decide) rfl (Nat.le_of_ble_eq_true rfl) kz) ?_
          dsimp only [List.set]
          refine jx_of (fun _ _ kz => jw_goto 5 d_M_waiting_71 (by decide) kz) ?_
          rw [nI_1]
          exact ih (k + 1) _ (by omega)
        · skip
          refine jx_of (fun _ _ kz => jw_iincc 1 d_M_waiting_65 (by decide) rfl (Nat.le_of_ble_eq_true rfl) kz) ?_
          dsimp only [List.set]
          refine jx_of (fun _ _ kz => jw_iincc 1 d_M_waiting_68 (by decide) rfl (Nat.le_of_ble_eq_true rfl) kz) ?_
          dsimp only [List.set]
          refine jx_of (fun _ _ kz => jw_goto 5 d_M_waiting_71 (by decide) kz) ?_
          rw [nI_1]
          exact ih (k + 1) _ (by omega)
set_option maxRecDepth 20000 in
set_option maxHeartbeats 4000000 in
theorem z_M_waiting {G : Gt} {M : Me} (d : Nat) (x : Int32) (y : Int32) (np : Nat) (nt : Nat) (hm : mSh M) (hP : mPr M np) (hT : mTk M np nt) : sx G yt_M_waiting yn_M_waiting (d + 2) [.inr (some (7, 0)), .inl x, .inl y] M (fun r M' => (∃ v : Int32, r = some (.inl v)) ∧ M = M') := by
  refine sx_of (k := 2) (lc := [some (.inr (some (7, 0))), some (.inl x), some (.inl y), none, none]) mt_M_waiting (Nat.le_of_ble_eq_true rfl) rfl ?_
  refine jx_of (fun _ _ kz => jw_iconst 0 d_M_waiting_0 (by decide) kz) ?_
  refine jx_of (fun _ _ kz => jw_istore_n 3 d_M_waiting_1 rfl (Nat.le_of_ble_eq_true rfl) kz) ?_
  dsimp only [List.set]
  refine jx_of (fun _ _ kz => jw_iconst 0 d_M_waiting_2 (by decide) kz) ?_
  refine jx_of (fun _ _ kz => jw_istore d_M_waiting_3 (Nat.le_of_ble_eq_true rfl) kz) ?_
  dsimp only [List.set]
  exact z_M_waiting_loop d x y hm np nt hP hT _ _ (12 * nt) 0 0 (by omega)
