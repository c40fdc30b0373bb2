set_option maxRecDepth 20000 in
set_option maxHeartbeats 4000000 in
theorem y_T_phaseOf2 {G : Gt} {M : Me} (d : Nat) (t : Nat) (p : Nat) (n : Nat) (o : Nat → Nat) (x : Int32) (hT : tO M t p n o) : sx G yt_T_phaseOf yn_T_phaseOf (d + 2) [.inr (some (2, t)), .inl x] M (fun r M' => (∃ v : Int32, r = some (.inl v) ∧ (v = 0 ∨ ∃ j, j < n ∧ x = nI j)) ∧ M = M') := by
  refine sx_of (k := 0) (lc := [some (.inr (some (2, t))), some (.inl x)]) mt_T_phaseOf (Nat.le_of_ble_eq_true rfl) rfl ?_
  refine jx_of (fun _ _ kz => jw_aload_n 0 d_T_phaseOf_0 rfl rfl kz) ?_
  refine jx_of (fun _ _ kz => jw_getPe (some (1, p)) fl_T_44 d_T_phaseOf_1 rfl rfl (by simp [me_I_sI, me_I_sP, me_I_nx, me_P_sI, me_P_sP, me_P_nx, me_N_sI, me_N_sP, me_N_nx, me_L_sI, me_L_sP, me_L_nx, show me_P M 2 t 2 = some (1, p) from hT.1.1]) kz) ?_
  refine jx_of (fun _ _ kz => jw_iload_n 1 d_T_phaseOf_4 rfl rfl kz) ?_
  refine jx_callV (y_P_has d p n o x hT.2) mt_P_has cf_P rfl rfl ml_T_48 im_P_has se_P_has d_T_phaseOf_5 rfl rfl (Nat.le_of_ble_eq_true rfl) ?_
  rintro r _ ⟨hr, rfl⟩
  obtain ⟨rv, rfl, hrv⟩ : ∃ v : Int32, r = some (.inl v) ∧ (v = 0 ∨ ∃ j, j < n ∧ x = nI j) := by rcases hr with hr | ⟨hr, h2⟩; exact ⟨_, hr, Or.inl rfl⟩; exact ⟨_, hr, Or.inr h2⟩
  refine jx_eq (st2 := [.inl rv]) rfl rfl rfl ?_
  refine jx_if_eq 20 d_T_phaseOf_8 (by decide) (fun b_8 => ?_) (fun b_8 => ?_)
  · skip
    refine jx_of (fun _ _ kz => jw_iconst 0 d_T_phaseOf_20 (by decide) kz) ?_
    refine jx_iret d_T_phaseOf_21 rfl ?_
    first | exact ⟨⟨_, rfl, Or.inr ⟨j, hj, rfl⟩⟩, rfl⟩ | exact ⟨⟨_, rfl, Or.inl rfl⟩, rfl⟩
  · skip
    obtain ⟨j, hj, rfl⟩ := hrv.resolve_left b_8
    have h12 := hT.2.2.1
    refine jx_of (fun _ _ kz => jw_aload_n 0 d_T_phaseOf_11 rfl rfl kz) ?_
    refine jx_of (fun _ _ kz => jw_getPe (some (14, t)) fl_T_28 d_T_phaseOf_12 rfl rfl (by simp [me_I_sI, me_I_sP, me_I_nx, me_P_sI, me_P_sP, me_P_nx, me_N_sI, me_N_sP, me_N_nx, me_L_sI, me_L_sP, me_L_nx, show me_P M 2 t 8 = some (14, t) from hT.1.2.1]) kz) ?_
    refine jx_of (fun _ _ kz => jw_iload_n 1 d_T_phaseOf_15 rfl rfl kz) ?_
    refine jx_of (fun _ _ kz => jw_ialde (_) d_T_phaseOf_16 rfl rfl (by rw [show me_L _ 14 t = 12 from (by simp [me_I_sI, me_I_sP, me_I_nx, me_P_sI, me_P_sP, me_P_nx, me_N_sI, me_N_sP, me_N_nx, me_L_sI, me_L_sP, me_L_nx, show me_L M 14 t = 12 from hT.1.2.2.2.2.1])]; exact (vp_in_nI (by omega) (by omega))) rfl kz) ?_
    refine jx_of (fun _ _ kz => jw_goto 21 d_T_phaseOf_17 (by decide) kz) ?_
    refine jx_iret d_T_phaseOf_21 rfl ?_
    first | exact ⟨⟨_, rfl, Or.inr ⟨j, hj, rfl⟩⟩, rfl⟩ | exact ⟨⟨_, rfl, Or.inl rfl⟩, rfl⟩
set_option maxRecDepth 20000 in
set_option maxHeartbeats 4000000 in
theorem y_Y_drop_l {G : Gt} {M : Me} (d t p n : Nat) (o : Nat → Nat) (x : Int32) (e np nt : Nat) (he : e ≤ 12) (ht : t < nt) (c0 s0 : Nat) : ∀ (m k : Nat) (M1 : Me) (o5 o6 : Option AV), e ≤ k + m → k ≤ 12 → yI M1 np nt → yk M M1 → tO M1 t p n o → jx G yt_Y_drop (d + 4) c0 s0 M1 22 [some (.inr (some (0, 0))), some (.inr (some (2, t))), some (.inl x), some (.inl (nI e)), some (.inl (nI k)), o5, o6] [] (fun r M' => r = none ∧ yI M' np nt ∧ yk M M') := by
  intro m
  induction m with
  | zero =>
    intro k M1 o5 o6 hm hk h1 k1 hT1
    refine jx_of (fun _ _ kz => jw_iload d_Y_drop_22 rfl kz) ?_
    refine jx_of (fun _ _ kz => jw_iload_n 3 d_Y_drop_24 rfl rfl kz) ?_
    refine jx_icmp_ge 211 d_Y_drop_25 (by decide) (fun _ => ?_) (fun h => absurd (nI_le (by omega) (by omega)) h)
    refine jx_vret d_Y_drop_211 rfl ?_
    exact ⟨rfl, h1, k1⟩
  | succ m ih =>
    intro k M1 o5 o6 hm hk h1 k1 hT1
    have h12 := hT1.2.2.1
    refine jx_of (fun _ _ kz => jw_iload d_Y_drop_22 rfl kz) ?_
    refine jx_of (fun _ _ kz => jw_iload_n 3 d_Y_drop_24 rfl rfl kz) ?_
    refine jx_icmp_ge 211 d_Y_drop_25 (by decide) (fun b_25 => ?_) (fun b_25 => ?_)
    · skip
      refine jx_vret d_Y_drop_211 rfl ?_
      exact ⟨rfl, h1, k1⟩
    · skip
      have hke : k < e := Nat.lt_of_not_le (fun q => b_25 (nI_le q (by omega)))
      refine jx_of (fun _ _ kz => jw_aload_n 1 d_Y_drop_28 rfl rfl kz) ?_
      refine jx_of (fun _ _ kz => jw_getPe (some (14, t)) fl_Y_263 d_Y_drop_29 rfl rfl (by simp [me_I_sI, me_I_sP, me_I_nx, me_P_sI, me_P_sP, me_P_nx, me_N_sI, me_N_sP, me_N_nx, me_L_sI, me_L_sP, me_L_nx, show me_P M1 2 t 8 = some (14, t) from hT1.1.2.1]) kz) ?_
      refine jx_of (fun _ _ kz => jw_iload d_Y_drop_32 rfl kz) ?_
      refine jx_of (fun _ _ kz => jw_ialde (_) d_Y_drop_34 rfl rfl (by rw [show me_L _ 14 t = 12 from (by simp [me_I_sI, me_I_sP, me_I_nx, me_P_sI, me_P_sP, me_P_nx, me_N_sI, me_N_sP, me_N_nx, me_L_sI, me_L_sP, me_L_nx, show me_L M1 14 t = 12 from hT1.1.2.2.2.2.1])]; exact (vp_in_nI (by omega) (by omega))) rfl kz) ?_
      refine jx_of (fun _ _ kz => jw_iconst 1 d_Y_drop_35 (by decide) kz) ?_
      refine jx_icmp_ne 54 d_Y_drop_36 (by decide) (fun b_36 => ?_) (fun b_36 => ?_)
      · skip
        refine jx_of (fun _ _ kz => jw_iconst 0 d_Y_drop_54 (by decide) kz) ?_
        refine jx_of (fun _ _ kz => jw_istore d_Y_drop_55 (Nat.le_of_ble_eq_true rfl) kz) ?_
        dsimp only [List.set]
        refine jx_of (fun _ _ kz => jw_aload_n 1 d_Y_drop_57 rfl rfl kz) ?_
        refine jx_of (fun _ _ kz => jw_getPe (some (14, t)) fl_Y_263 d_Y_drop_58 rfl rfl (by simp [me_I_sI, me_I_sP, me_I_nx, me_P_sI, me_P_sP, me_P_nx, me_N_sI, me_N_sP, me_N_nx, me_L_sI, me_L_sP, me_L_nx, show me_P M1 2 t 8 = some (14, t) from hT1.1.2.1]) kz) ?_
        refine jx_of (fun _ _ kz => jw_iload d_Y_drop_61 rfl kz) ?_
        refine jx_of (fun _ _ kz => jw_iconst 4 d_Y_drop_63 (by decide) kz) ?_
        refine jx_of (fun _ _ kz => jw_iast d_Y_drop_64 rfl rfl (by rw [show me_L _ 14 t = 12 from (by simp [me_I_sI, me_I_sP, me_I_nx, me_P_sI, me_P_sP, me_P_nx, me_N_sI, me_N_sP, me_N_nx, me_L_sI, me_L_sP, me_L_nx, show me_L M1 14 t = 12 from hT1.1.2.2.2.2.1])]; exact (vp_in_nI (by omega) (by omega))) kz) ?_
        rw [nI_clamp (by omega)]
        refine jx_of (fun _ _ kz => jw_aload_n 1 d_Y_drop_65 rfl rfl kz) ?_
        refine jx_of (fun _ _ kz => jw_getPe (some (1, p)) fl_Y_257 d_Y_drop_66 rfl rfl (by simp [me_I_sI, me_I_sP, me_I_nx, me_P_sI, me_P_sP, me_P_nx, me_N_sI, me_N_sP, me_N_nx, me_L_sI, me_L_sP, me_L_nx, show me_P M1 2 t 2 = some (1, p) from hT1.1.1]) kz) ?_
        refine jx_of (fun _ _ kz => jw_getPe (some (12, p)) fl_Y_266 d_Y_drop_69 rfl rfl (by simp [me_I_sI, me_I_sP, me_I_nx, me_P_sI, me_P_sP, me_P_nx, me_N_sI, me_N_sP, me_N_nx, me_L_sI, me_L_sP, me_L_nx, show me_P M1 1 p 1 = some (12, p) from hT1.2.1.2.1]) kz) ?_
        refine jx_of (fun _ _ kz => jw_iload d_Y_drop_72 rfl kz) ?_
        refine jx_of (fun _ _ kz => jw_ialde (me_I M1 12 p k) d_Y_drop_74 rfl rfl (by rw [show me_L _ 12 p = 12 from (by simp [me_I_sI, me_I_sP, me_I_nx, me_P_sI, me_P_sP, me_P_nx, me_N_sI, me_N_sP, me_N_nx, me_L_sI, me_L_sP, me_L_nx, show me_L M1 12 p = 12 from hT1.2.1.2.2.2.2.1])]; exact (vp_in_nI (by omega) (by omega))) (by rw [nI_clamp (by omega)]; first | rfl | (rw [me_I_sI, if_neg (by omega)])) kz) ?_
        refine jx_of (fun _ _ kz => jw_istore d_Y_drop_75 (Nat.le_of_ble_eq_true rfl) kz) ?_
        dsimp only [List.set]
        refine jx_of (fun _ _ kz => jw_iload d_Y_drop_77 rfl kz) ?_
        refine jx_if_eq 140 d_Y_drop_79 (by decide) (fun _ => ?_) (fun h => absurd h (by decide))
        refine jx_of (fun _ _ kz => jw_iload d_Y_drop_140 rfl kz) ?_
        refine jx_if_eq 205 d_Y_drop_142 (by decide) (fun _ => ?_) (fun h => absurd h (by decide))
        refine jx_of (fun _ _ kz => jw_iincc 1 d_Y_drop_205 (by decide) rfl (Nat.le_of_ble_eq_true rfl) kz) ?_
        dsimp only [List.set]
        refine jx_of (fun _ _ kz => jw_goto 22 d_Y_drop_208 (by decide) kz) ?_
        rw [nI_1]
        first | exact ih (k + 1) M3 _ _ (by omega) (by omega) h3 (yk_tr k2 k3) (tO_yk hT2 k3) | exact ih (k + 1) M2 _ _ (by omega) (by omega) h2 k2 hT2 | exact ih (k + 1) _ _ _ (by omega) (by omega) (yI_tc h1 (tc_sI tc_rf (by omega))) (yk_tr k1 (yk_tc (tc_sI tc_rf (by omega)))) (tO_tc hT1 (tc_sI tc_rf (by omega)))
      · skip
        refine jx_of (fun _ _ kz => jw_aload_n 1 d_Y_drop_39 rfl rfl kz) ?_
        refine jx_of (fun _ _ kz => jw_getPe (some (16, t)) fl_Y_204 d_Y_drop_40 rfl rfl (by simp [me_I_sI, me_I_sP, me_I_nx, me_P_sI, me_P_sP, me_P_nx, me_N_sI, me_N_sP, me_N_nx, me_L_sI, me_L_sP, me_L_nx, show me_P M1 2 t 10 = some (16, t) from hT1.1.2.2.2.1]) kz) ?_
        refine jx_of (fun _ _ kz => jw_iload d_Y_drop_43 rfl kz) ?_
        refine jx_of (fun _ _ kz => jw_ialde (_) d_Y_drop_45 rfl rfl (by rw [show me_L _ 16 t = 12 from (by simp [me_I_sI, me_I_sP, me_I_nx, me_P_sI, me_P_sP, me_P_nx, me_N_sI, me_N_sP, me_N_nx, me_L_sI, me_L_sP, me_L_nx, show me_L M1 16 t = 12 from hT1.1.2.2.2.2.2.2])]; exact (vp_in_nI (by omega) (by omega))) rfl kz) ?_
        refine jx_of (fun _ _ kz => jw_iconst (-1) d_Y_drop_46 (by decide) kz) ?_
        refine jx_icmp_eq 54 d_Y_drop_47 (by decide) (fun b_47 => ?_) (fun b_47 => ?_)
        · skip
          refine jx_of (fun _ _ kz => jw_iconst 0 d_Y_drop_54 (by decide) kz) ?_
          refine jx_of (fun _ _ kz => jw_istore d_Y_drop_55 (Nat.le_of_ble_eq_true rfl) kz) ?_
          dsimp only [List.set]
          refine jx_of (fun _ _ kz => jw_aload_n 1 d_Y_drop_57 rfl rfl kz) ?_
          refine jx_of (fun _ _ kz => jw_getPe (some (14, t)) fl_Y_263 d_Y_drop_58 rfl rfl (by simp [me_I_sI, me_I_sP, me_I_nx, me_P_sI, me_P_sP, me_P_nx, me_N_sI, me_N_sP, me_N_nx, me_L_sI, me_L_sP, me_L_nx, show me_P M1 2 t 8 = some (14, t) from hT1.1.2.1]) kz) ?_
          refine jx_of (fun _ _ kz => jw_iload d_Y_drop_61 rfl kz) ?_
          refine jx_of (fun _ _ kz => jw_iconst 4 d_Y_drop_63 (by decide) kz) ?_
          refine jx_of (fun _ _ kz => jw_iast d_Y_drop_64 rfl rfl (by rw [show me_L _ 14 t = 12 from (by simp [me_I_sI, me_I_sP, me_I_nx, me_P_sI, me_P_sP, me_P_nx, me_N_sI, me_N_sP, me_N_nx, me_L_sI, me_L_sP, me_L_nx, show me_L M1 14 t = 12 from hT1.1.2.2.2.2.1])]; exact (vp_in_nI (by omega) (by omega))) kz) ?_
          rw [nI_clamp (by omega)]
          refine jx_of (fun _ _ kz => jw_aload_n 1 d_Y_drop_65 rfl rfl kz) ?_
          refine jx_of (fun _ _ kz => jw_getPe (some (1, p)) fl_Y_257 d_Y_drop_66 rfl rfl (by simp [me_I_sI, me_I_sP, me_I_nx, me_P_sI, me_P_sP, me_P_nx, me_N_sI, me_N_sP, me_N_nx, me_L_sI, me_L_sP, me_L_nx, show me_P M1 2 t 2 = some (1, p) from hT1.1.1]) kz) ?_
          refine jx_of (fun _ _ kz => jw_getPe (some (12, p)) fl_Y_266 d_Y_drop_69 rfl rfl (by simp [me_I_sI, me_I_sP, me_I_nx, me_P_sI, me_P_sP, me_P_nx, me_N_sI, me_N_sP, me_N_nx, me_L_sI, me_L_sP, me_L_nx, show me_P M1 1 p 1 = some (12, p) from hT1.2.1.2.1]) kz) ?_
          refine jx_of (fun _ _ kz => jw_iload d_Y_drop_72 rfl kz) ?_
          refine jx_of (fun _ _ kz => jw_ialde (me_I M1 12 p k) d_Y_drop_74 rfl rfl (by rw [show me_L _ 12 p = 12 from (by simp [me_I_sI, me_I_sP, me_I_nx, me_P_sI, me_P_sP, me_P_nx, me_N_sI, me_N_sP, me_N_nx, me_L_sI, me_L_sP, me_L_nx, show me_L M1 12 p = 12 from hT1.2.1.2.2.2.2.1])]; exact (vp_in_nI (by omega) (by omega))) (by rw [nI_clamp (by omega)]; first | rfl | (rw [me_I_sI, if_neg (by omega)])) kz) ?_
          refine jx_of (fun _ _ kz => jw_istore d_Y_drop_75 (Nat.le_of_ble_eq_true rfl) kz) ?_
          dsimp only [List.set]
          refine jx_of (fun _ _ kz => jw_iload d_Y_drop_77 rfl kz) ?_
          refine jx_if_eq 140 d_Y_drop_79 (by decide) (fun _ => ?_) (fun h => absurd h (by decide))
          refine jx_of (fun _ _ kz => jw_iload d_Y_drop_140 rfl kz) ?_
          refine jx_if_eq 205 d_Y_drop_142 (by decide) (fun _ => ?_) (fun h => absurd h (by decide))
          refine jx_of (fun _ _ kz => jw_iincc 1 d_Y_drop_205 (by decide) rfl (Nat.le_of_ble_eq_true rfl) kz) ?_
          dsimp only [List.set]
          refine jx_of (fun _ _ kz => jw_goto 22 d_Y_drop_208 (by decide) kz) ?_
          rw [nI_1]
          first | exact ih (k + 1) M3 _ _ (by omega) (by omega) h3 (yk_tr k2 k3) (tO_yk hT2 k3) | exact ih (k + 1) M2 _ _ (by omega) (by omega) h2 k2 hT2 | exact ih (k + 1) _ _ _ (by omega) (by omega) (yI_tc h1 (tc_sI tc_rf (by omega))) (yk_tr k1 (yk_tc (tc_sI tc_rf (by omega)))) (tO_tc hT1 (tc_sI tc_rf (by omega)))
        · skip
          refine jx_of (fun _ _ kz => jw_iconst 1 d_Y_drop_50 (by decide) kz) ?_
          refine jx_of (fun _ _ kz => jw_goto 55 d_Y_drop_51 (by decide) kz) ?_
          refine jx_of (fun _ _ kz => jw_istore d_Y_drop_55 (Nat.le_of_ble_eq_true rfl) kz) ?_
          dsimp only [List.set]
          refine jx_of (fun _ _ kz => jw_aload_n 1 d_Y_drop_57 rfl rfl kz) ?_
          refine jx_of (fun _ _ kz => jw_getPe (some (14, t)) fl_Y_263 d_Y_drop_58 rfl rfl (by simp [me_I_sI, me_I_sP, me_I_nx, me_P_sI, me_P_sP, me_P_nx, me_N_sI, me_N_sP, me_N_nx, me_L_sI, me_L_sP, me_L_nx, show me_P M1 2 t 8 = some (14, t) from hT1.1.2.1]) kz) ?_
          refine jx_of (fun _ _ kz => jw_iload d_Y_drop_61 rfl kz) ?_
          refine jx_of (fun _ _ kz => jw_iconst 4 d_Y_drop_63 (by decide) kz) ?_
          refine jx_of (fun _ _ kz => jw_iast d_Y_drop_64 rfl rfl (by rw [show me_L _ 14 t = 12 from (by simp [me_I_sI, me_I_sP, me_I_nx, me_P_sI, me_P_sP, me_P_nx, me_N_sI, me_N_sP, me_N_nx, me_L_sI, me_L_sP, me_L_nx, show me_L M1 14 t = 12 from hT1.1.2.2.2.2.1])]; exact (vp_in_nI (by omega) (by omega))) kz) ?_
          rw [nI_clamp (by omega)]
          refine jx_of (fun _ _ kz => jw_aload_n 1 d_Y_drop_65 rfl rfl kz) ?_
          refine jx_of (fun _ _ kz => jw_getPe (some (1, p)) fl_Y_257 d_Y_drop_66 rfl rfl (by simp [me_I_sI, me_I_sP, me_I_nx, me_P_sI, me_P_sP, me_P_nx, me_N_sI, me_N_sP, me_N_nx, me_L_sI, me_L_sP, me_L_nx, show me_P M1 2 t 2 = some (1, p) from hT1.1.1]) kz) ?_
          refine jx_of (fun _ _ kz => jw_getPe (some (12, p)) fl_Y_266 d_Y_drop_69 rfl rfl (by simp [me_I_sI, me_I_sP, me_I_nx, me_P_sI, me_P_sP, me_P_nx, me_N_sI, me_N_sP, me_N_nx, me_L_sI, me_L_sP, me_L_nx, show me_P M1 1 p 1 = some (12, p) from hT1.2.1.2.1]) kz) ?_
          refine jx_of (fun _ _ kz => jw_iload d_Y_drop_72 rfl kz) ?_
          refine jx_of (fun _ _ kz => jw_ialde (me_I M1 12 p k) d_Y_drop_74 rfl rfl (by rw [show me_L _ 12 p = 12 from (by simp [me_I_sI, me_I_sP, me_I_nx, me_P_sI, me_P_sP, me_P_nx, me_N_sI, me_N_sP, me_N_nx, me_L_sI, me_L_sP, me_L_nx, show me_L M1 12 p = 12 from hT1.2.1.2.2.2.2.1])]; exact (vp_in_nI (by omega) (by omega))) (by rw [nI_clamp (by omega)]; first | rfl | (rw [me_I_sI, if_neg (by omega)])) kz) ?_
          refine jx_of (fun _ _ kz => jw_istore d_Y_drop_75 (Nat.le_of_ble_eq_true rfl) kz) ?_
          dsimp only [List.set]
          refine jx_of (fun _ _ kz => jw_iload d_Y_drop_77 rfl kz) ?_
          refine jx_if_eq 140 d_Y_drop_79 (by decide) (fun h => absurd h (by decide)) (fun _ => ?_)
          refine jx_of (fun _ _ kz => jw_aload_n 1 d_Y_drop_82 rfl rfl kz) ?_
          refine jx_of (fun _ _ kz => jw_getPe (some (1, p)) fl_Y_257 d_Y_drop_83 rfl rfl (by simp [me_I_sI, me_I_sP, me_I_nx, me_P_sI, me_P_sP, me_P_nx, me_N_sI, me_N_sP, me_N_nx, me_L_sI, me_L_sP, me_L_nx, show me_P M1 2 t 2 = some (1, p) from hT1.1.1]) kz) ?_
          refine jx_of (fun _ _ kz => jw_getPe (some (11, p)) fl_Y_269 d_Y_drop_86 rfl rfl (by simp [me_I_sI, me_I_sP, me_I_nx, me_P_sI, me_P_sP, me_P_nx, me_N_sI, me_N_sP, me_N_nx, me_L_sI, me_L_sP, me_L_nx, show me_P M1 1 p 0 = some (11, p) from hT1.2.1.1]) kz) ?_
          refine jx_of (fun _ _ kz => jw_iload d_Y_drop_89 rfl kz) ?_
          refine jx_of (fun _ _ kz => jw_ialde (_) d_Y_drop_91 rfl rfl (by rw [show me_L _ 11 p = 12 from (by simp [me_I_sI, me_I_sP, me_I_nx, me_P_sI, me_P_sP, me_P_nx, me_N_sI, me_N_sP, me_N_nx, me_L_sI, me_L_sP, me_L_nx, show me_L M1 11 p = 12 from hT1.2.1.2.2.2.1])]; exact (vp_in_nI (by omega) (by omega))) rfl kz) ?_
          refine jx_of (fun _ _ kz => jw_iconst 3 d_Y_drop_92 (by decide) kz) ?_
          refine jx_icmp_ne 140 d_Y_drop_93 (by decide) (fun b_93 => ?_) (fun b_93 => ?_)
          · skip
            refine jx_of (fun _ _ kz => jw_iload d_Y_drop_140 rfl kz) ?_
            refine jx_if_eq 205 d_Y_drop_142 (by decide) (fun h => absurd h (by decide)) (fun _ => ?_)
            refine jx_of (fun _ _ kz => jw_aload_n 1 d_Y_drop_145 rfl rfl kz) ?_
            refine jx_of (fun _ _ kz => jw_getPe (some (1, p)) fl_Y_257 d_Y_drop_146 rfl rfl (by simp [me_I_sI, me_I_sP, me_I_nx, me_P_sI, me_P_sP, me_P_nx, me_N_sI, me_N_sP, me_N_nx, me_L_sI, me_L_sP, me_L_nx, show me_P M1 2 t 2 = some (1, p) from hT1.1.1]) kz) ?_
            refine jx_of (fun _ _ kz => jw_getPe (some (11, p)) fl_Y_269 d_Y_drop_149 rfl rfl (by simp [me_I_sI, me_I_sP, me_I_nx, me_P_sI, me_P_sP, me_P_nx, me_N_sI, me_N_sP, me_N_nx, me_L_sI, me_L_sP, me_L_nx, show me_P M1 1 p 0 = some (11, p) from hT1.2.1.1]) kz) ?_
            refine jx_of (fun _ _ kz => jw_iload d_Y_drop_152 rfl kz) ?_
            refine jx_of (fun _ _ kz => jw_ialde (_) d_Y_drop_154 rfl rfl (by rw [show me_L _ 11 p = 12 from (by simp [me_I_sI, me_I_sP, me_I_nx, me_P_sI, me_P_sP, me_P_nx, me_N_sI, me_N_sP, me_N_nx, me_L_sI, me_L_sP, me_L_nx, show me_L M1 11 p = 12 from hT1.2.1.2.2.2.1])]; exact (vp_in_nI (by omega) (by omega))) rfl kz) ?_
            refine jx_of (fun _ _ kz => jw_iconst 5 d_Y_drop_155 (by decide) kz) ?_
            refine jx_icmp_ne 205 d_Y_drop_156 (by decide) (fun b_156 => ?_) (fun b_156 => ?_)
            · skip
              refine jx_of (fun _ _ kz => jw_iincc 1 d_Y_drop_205 (by decide) rfl (Nat.le_of_ble_eq_true rfl) kz) ?_
              dsimp only [List.set]
              refine jx_of (fun _ _ kz => jw_goto 22 d_Y_drop_208 (by decide) kz) ?_
              rw [nI_1]
              first | exact ih (k + 1) M3 _ _ (by omega) (by omega) h3 (yk_tr k2 k3) (tO_yk hT2 k3) | exact ih (k + 1) M2 _ _ (by omega) (by omega) h2 k2 hT2 | exact ih (k + 1) _ _ _ (by omega) (by omega) (yI_tc h1 (tc_sI tc_rf (by omega))) (yk_tr k1 (yk_tc (tc_sI tc_rf (by omega)))) (tO_tc hT1 (tc_sI tc_rf (by omega)))
            · skip
              obtain ⟨g, hg, hga⟩ := and1 (me_I M1 12 p k)
              refine jx_of (fun _ _ kz => jw_aload_n 0 d_Y_drop_159 rfl rfl kz) ?_
              refine jx_of (fun _ _ kz => jw_getPe (some (21, 0)) fl_Y_62 d_Y_drop_160 rfl rfl (by simp [me_I_sI, me_I_sP, me_I_nx, me_P_sI, me_P_sP, me_P_nx, me_N_sI, me_N_sP, me_N_nx, me_L_sI, me_L_sP, me_L_nx, show me_P M1 0 0 9 = some (21, 0) from h1.1.1 (0, 0, 9, 21, 0) (by decide)]) kz) ?_
              refine jx_of (fun _ _ kz => jw_iload d_Y_drop_163 rfl kz) ?_
              refine jx_of (fun _ _ kz => jw_iconst 1 d_Y_drop_165 (by decide) kz) ?_
              refine jx_of (fun _ _ kz => jw_iand d_Y_drop_166 kz) ?_
              rw [show ((me_I M1 12 p k) &&& 1 : Int32) = nI g from hga]
              refine jx_of (fun _ _ kz => jw_aalde (some (6, g)) d_Y_drop_167 rfl rfl (by rw [show me_L _ 21 0 = 2 from (by simp [me_I_sI, me_I_sP, me_I_nx, me_P_sI, me_P_sP, me_P_nx, me_N_sI, me_N_sP, me_N_nx, me_L_sI, me_L_sP, me_L_nx, show me_L M1 21 0 = 2 from h1.1.2.1 (21, 0, 2) (by decide)])]; exact (vp_in_nI (by omega) (by omega))) (by rw [nI_clamp (by omega)]; exact yg21 h1 hg) kz) ?_
              refine jx_of (fun _ _ kz => jw_getPe (some (4, (7 + g))) fl_Y_186 d_Y_drop_168 rfl rfl (by simp [me_I_sI, me_I_sP, me_I_nx, me_P_sI, me_P_sP, me_P_nx, me_N_sI, me_N_sP, me_N_nx, me_L_sI, me_L_sP, me_L_nx, show me_P M1 6 g 0 = some (4, 7 + g) from yg6 h1 hg]) kz) ?_
              refine jx_of (fun _ _ kz => jw_aload_n 1 d_Y_drop_171 rfl rfl kz) ?_
              refine jx_of (fun _ _ kz => jw_iload d_Y_drop_172 rfl kz) ?_
              refine jx_callV (y_T_placeOf (d + 2) t p n o ((nI k)) (tO_tc hT1 (tc_sI tc_rf (by omega)))) mt_T_placeOf cf_T rfl rfl ml_Y_326 im_T_placeOf se_T_placeOf d_Y_drop_174 rfl rfl (Nat.le_of_ble_eq_true rfl) ?_
              rintro _ _ ⟨⟨vq, rfl⟩, rfl⟩
              refine jx_eq (st2 := [.inl vq, .inr (some (4, (7 + g)))]) rfl rfl rfl ?_
              refine jx_callV (y_R_remove (d + 1) (((7 + g))) vq ((yI_tc h1 (tc_sI tc_rf (by omega))).1.2.2 (7 + g) (by omega))) mt_R_remove cf_R rfl rfl ml_Y_234 im_R_remove se_R_remove d_Y_drop_177 rfl rfl (Nat.le_of_ble_eq_true rfl) ?_
              rintro _ M2 ⟨rfl, r2, c2⟩
              have h2 := yI_rc (yI_tc h1 (tc_sI tc_rf (by omega))) c2 r2
              have k2 := yk_tr (yk_tr k1 (yk_tc (tc_sI tc_rf (by omega)))) (yk_rc c2)
              have hT2 := tO_yk hT1 (yk_tr (yk_tc (tc_sI tc_rf (by omega))) (yk_rc c2))
              refine jx_eq (st2 := []) rfl rfl rfl ?_
              refine jx_of (fun _ _ kz => jw_aload_n 1 d_Y_drop_180 rfl rfl kz) ?_
              refine jx_of (fun _ _ kz => jw_getPe (some (16, t)) fl_Y_204 d_Y_drop_181 rfl rfl (by simp [me_I_sI, me_I_sP, me_I_nx, me_P_sI, me_P_sP, me_P_nx, me_N_sI, me_N_sP, me_N_nx, me_L_sI, me_L_sP, me_L_nx, show me_P M2 2 t 10 = some (16, t) from hT2.1.2.2.2.1]) kz) ?_
              refine jx_of (fun _ _ kz => jw_iload d_Y_drop_184 rfl kz) ?_
              refine jx_of (fun _ _ kz => jw_ialde (_) d_Y_drop_186 rfl rfl (by rw [show me_L _ 16 t = 12 from (by simp [me_I_sI, me_I_sP, me_I_nx, me_P_sI, me_P_sP, me_P_nx, me_N_sI, me_N_sP, me_N_nx, me_L_sI, me_L_sP, me_L_nx, show me_L M2 16 t = 12 from hT2.1.2.2.2.2.2.2])]; exact (vp_in_nI (by omega) (by omega))) rfl kz) ?_
              refine jx_of (fun _ _ kz => jw_iconst 1 d_Y_drop_187 (by decide) kz) ?_
              refine jx_icmp_ne 205 d_Y_drop_188 (by decide) (fun b_188 => ?_) (fun b_188 => ?_)
              · skip
                refine jx_of (fun _ _ kz => jw_iincc 1 d_Y_drop_205 (by decide) rfl (Nat.le_of_ble_eq_true rfl) kz) ?_
                dsimp only [List.set]
                refine jx_of (fun _ _ kz => jw_goto 22 d_Y_drop_208 (by decide) kz) ?_
                rw [nI_1]
                first | exact ih (k + 1) M3 _ _ (by omega) (by omega) h3 (yk_tr k2 k3) (tO_yk hT2 k3) | exact ih (k + 1) M2 _ _ (by omega) (by omega) h2 k2 hT2 | exact ih (k + 1) _ _ _ (by omega) (by omega) (yI_tc h1 (tc_sI tc_rf (by omega))) (yk_tr k1 (yk_tc (tc_sI tc_rf (by omega)))) (tO_tc hT1 (tc_sI tc_rf (by omega)))
              · skip
                refine jx_of (fun _ _ kz => jw_aload_n 0 d_Y_drop_191 rfl rfl kz) ?_
                refine jx_of (fun _ _ kz => jw_aload_n 0 d_Y_drop_192 rfl rfl kz) ?_
                refine jx_of (fun _ _ kz => jw_getPe (some (21, 0)) fl_Y_62 d_Y_drop_193 rfl rfl (by simp [me_I_sI, me_I_sP, me_I_nx, me_P_sI, me_P_sP, me_P_nx, me_N_sI, me_N_sP, me_N_nx, me_L_sI, me_L_sP, me_L_nx, show me_P M2 0 0 9 = some (21, 0) from h2.1.1 (0, 0, 9, 21, 0) (by decide)]) kz) ?_
                refine jx_of (fun _ _ kz => jw_iload d_Y_drop_196 rfl kz) ?_
                refine jx_of (fun _ _ kz => jw_iconst 1 d_Y_drop_198 (by decide) kz) ?_
                refine jx_of (fun _ _ kz => jw_iand d_Y_drop_199 kz) ?_
                rw [show ((me_I M1 12 p k) &&& 1 : Int32) = nI g from hga]
                refine jx_of (fun _ _ kz => jw_aalde (some (6, g)) d_Y_drop_200 rfl rfl (by rw [show me_L _ 21 0 = 2 from (by simp [me_I_sI, me_I_sP, me_I_nx, me_P_sI, me_P_sP, me_P_nx, me_N_sI, me_N_sP, me_N_nx, me_L_sI, me_L_sP, me_L_nx, show me_L M2 21 0 = 2 from h2.1.2.1 (21, 0, 2) (by decide)])]; exact (vp_in_nI (by omega) (by omega))) (by rw [nI_clamp (by omega)]; exact yg21 h2 hg) kz) ?_
                refine jx_callV (y_Y_giveNotice d g np nt h2  hg) mt_Y_giveNotice cf_Y rfl rfl ml_Y_140 im_Y_giveNotice se_Y_giveNotice d_Y_drop_201 rfl rfl (Nat.le_of_ble_eq_true rfl) ?_
                rintro r M3 ⟨hr, h3, k3⟩
                obtain ⟨rv3, rfl⟩ : ∃ v : Int32, r = some (.inl v) := by rcases hr with hr | hr; exact ⟨_, hr⟩; exact ⟨_, hr⟩
                refine jx_eq (st2 := [.inl rv3]) rfl rfl rfl ?_
                refine jx_of (fun _ _ kz => jw_pop d_Y_drop_204 kz) ?_
                refine jx_of (fun _ _ kz => jw_iincc 1 d_Y_drop_205 (by decide) rfl (Nat.le_of_ble_eq_true rfl) kz) ?_
                dsimp only [List.set]
                refine jx_of (fun _ _ kz => jw_goto 22 d_Y_drop_208 (by decide) kz) ?_
                rw [nI_1]
                first | exact ih (k + 1) M3 _ _ (by omega) (by omega) h3 (yk_tr k2 k3) (tO_yk hT2 k3) | exact ih (k + 1) M2 _ _ (by omega) (by omega) h2 k2 hT2 | exact ih (k + 1) _ _ _ (by omega) (by omega) (yI_tc h1 (tc_sI tc_rf (by omega))) (yk_tr k1 (yk_tc (tc_sI tc_rf (by omega)))) (tO_tc hT1 (tc_sI tc_rf (by omega)))
          · skip
            obtain ⟨g, hg, hga⟩ := and1 (me_I M1 12 p k)
            refine jx_of (fun _ _ kz => jw_aload_n 0 d_Y_drop_96 rfl rfl kz) ?_
            refine jx_of (fun _ _ kz => jw_getPe (some (20, 0)) fl_Y_55 d_Y_drop_97 rfl rfl (by simp [me_I_sI, me_I_sP, me_I_nx, me_P_sI, me_P_sP, me_P_nx, me_N_sI, me_N_sP, me_N_nx, me_L_sI, me_L_sP, me_L_nx, show me_P M1 0 0 8 = some (20, 0) from h1.1.1 (0, 0, 8, 20, 0) (by decide)]) kz) ?_
            refine jx_of (fun _ _ kz => jw_iload d_Y_drop_100 rfl kz) ?_
            refine jx_of (fun _ _ kz => jw_iconst 1 d_Y_drop_102 (by decide) kz) ?_
            refine jx_of (fun _ _ kz => jw_iand d_Y_drop_103 kz) ?_
            rw [show ((me_I M1 12 p k) &&& 1 : Int32) = nI g from hga]
            refine jx_of (fun _ _ kz => jw_aalde (some (5, g)) d_Y_drop_104 rfl rfl (by rw [show me_L _ 20 0 = 2 from (by simp [me_I_sI, me_I_sP, me_I_nx, me_P_sI, me_P_sP, me_P_nx, me_N_sI, me_N_sP, me_N_nx, me_L_sI, me_L_sP, me_L_nx, show me_L M1 20 0 = 2 from h1.1.2.1 (20, 0, 2) (by decide)])]; exact (vp_in_nI (by omega) (by omega))) (by rw [nI_clamp (by omega)]; exact yg20 h1 hg) kz) ?_
            refine jx_of (fun _ _ kz => jw_getPe (some (4, (5 + g))) fl_Y_175 d_Y_drop_105 rfl rfl (by simp [me_I_sI, me_I_sP, me_I_nx, me_P_sI, me_P_sP, me_P_nx, me_N_sI, me_N_sP, me_N_nx, me_L_sI, me_L_sP, me_L_nx, show me_P M1 5 g 0 = some (4, 5 + g) from yg5 h1 hg]) kz) ?_
            refine jx_of (fun _ _ kz => jw_aload_n 1 d_Y_drop_108 rfl rfl kz) ?_
            refine jx_of (fun _ _ kz => jw_iload d_Y_drop_109 rfl kz) ?_
            refine jx_callV (y_T_placeOf (d + 2) t p n o ((nI k)) (tO_tc hT1 (tc_sI tc_rf (by omega)))) mt_T_placeOf cf_T rfl rfl ml_Y_326 im_T_placeOf se_T_placeOf d_Y_drop_111 rfl rfl (Nat.le_of_ble_eq_true rfl) ?_
            rintro _ _ ⟨⟨vq, rfl⟩, rfl⟩
            refine jx_eq (st2 := [.inl vq, .inr (some (4, (5 + g)))]) rfl rfl rfl ?_
            refine jx_callV (y_R_remove (d + 1) (((5 + g))) vq ((yI_tc h1 (tc_sI tc_rf (by omega))).1.2.2 (5 + g) (by omega))) mt_R_remove cf_R rfl rfl ml_Y_234 im_R_remove se_R_remove d_Y_drop_114 rfl rfl (Nat.le_of_ble_eq_true rfl) ?_
            rintro _ M2 ⟨rfl, r2, c2⟩
            have h2 := yI_rc (yI_tc h1 (tc_sI tc_rf (by omega))) c2 r2
            have k2 := yk_tr (yk_tr k1 (yk_tc (tc_sI tc_rf (by omega)))) (yk_rc c2)
            have hT2 := tO_yk hT1 (yk_tr (yk_tc (tc_sI tc_rf (by omega))) (yk_rc c2))
            refine jx_eq (st2 := []) rfl rfl rfl ?_
            refine jx_of (fun _ _ kz => jw_aload_n 0 d_Y_drop_117 rfl rfl kz) ?_
            refine jx_of (fun _ _ kz => jw_aload_n 0 d_Y_drop_118 rfl rfl kz) ?_
            refine jx_of (fun _ _ kz => jw_getPe (some (20, 0)) fl_Y_55 d_Y_drop_119 rfl rfl (by simp [me_I_sI, me_I_sP, me_I_nx, me_P_sI, me_P_sP, me_P_nx, me_N_sI, me_N_sP, me_N_nx, me_L_sI, me_L_sP, me_L_nx, show me_P M2 0 0 8 = some (20, 0) from h2.1.1 (0, 0, 8, 20, 0) (by decide)]) kz) ?_
            refine jx_of (fun _ _ kz => jw_iload d_Y_drop_122 rfl kz) ?_
            refine jx_of (fun _ _ kz => jw_iconst 1 d_Y_drop_124 (by decide) kz) ?_
            refine jx_of (fun _ _ kz => jw_iand d_Y_drop_125 kz) ?_
            rw [show ((me_I M1 12 p k) &&& 1 : Int32) = nI g from hga]
            refine jx_of (fun _ _ kz => jw_aalde (some (5, g)) d_Y_drop_126 rfl rfl (by rw [show me_L _ 20 0 = 2 from (by simp [me_I_sI, me_I_sP, me_I_nx, me_P_sI, me_P_sP, me_P_nx, me_N_sI, me_N_sP, me_N_nx, me_L_sI, me_L_sP, me_L_nx, show me_L M2 20 0 = 2 from h2.1.2.1 (20, 0, 2) (by decide)])]; exact (vp_in_nI (by omega) (by omega))) (by rw [nI_clamp (by omega)]; exact yg20 h2 hg) kz) ?_
            refine jx_of (fun _ _ kz => jw_aload_n 1 d_Y_drop_127 rfl rfl kz) ?_
            refine jx_of (fun _ _ kz => jw_getPe (some (16, t)) fl_Y_204 d_Y_drop_128 rfl rfl (by simp [me_I_sI, me_I_sP, me_I_nx, me_P_sI, me_P_sP, me_P_nx, me_N_sI, me_N_sP, me_N_nx, me_L_sI, me_L_sP, me_L_nx, show me_P M2 2 t 10 = some (16, t) from hT2.1.2.2.2.1]) kz) ?_
            refine jx_of (fun _ _ kz => jw_iload d_Y_drop_131 rfl kz) ?_
            refine jx_of (fun _ _ kz => jw_ialde (me_I M2 16 t k) d_Y_drop_133 rfl rfl (by rw [show me_L _ 16 t = 12 from (by simp [me_I_sI, me_I_sP, me_I_nx, me_P_sI, me_P_sP, me_P_nx, me_N_sI, me_N_sP, me_N_nx, me_L_sI, me_L_sP, me_L_nx, show me_L M2 16 t = 12 from hT2.1.2.2.2.2.2.2])]; exact (vp_in_nI (by omega) (by omega))) (by rw [nI_clamp (by omega)]) kz) ?_
            refine jx_callV (y_Y_addPermits d g ((me_I M2 16 t k)) np nt h2  hg) mt_Y_addPermits cf_Y rfl rfl ml_Y_133 im_Y_addPermits se_Y_addPermits d_Y_drop_134 rfl rfl (Nat.le_of_ble_eq_true rfl) ?_
            rintro _ M3 ⟨rfl, h3, k3⟩
            refine jx_eq (st2 := []) rfl rfl rfl ?_
            refine jx_of (fun _ _ kz => jw_goto 205 d_Y_drop_137 (by decide) kz) ?_
            refine jx_of (fun _ _ kz => jw_iincc 1 d_Y_drop_205 (by decide) rfl (Nat.le_of_ble_eq_true rfl) kz) ?_
            dsimp only [List.set]
            refine jx_of (fun _ _ kz => jw_goto 22 d_Y_drop_208 (by decide) kz) ?_
            rw [nI_1]
            first | exact ih (k + 1) M3 _ _ (by omega) (by omega) h3 (yk_tr k2 k3) (tO_yk hT2 k3) | exact ih (k + 1) M2 _ _ (by omega) (by omega) h2 k2 hT2 | exact ih (k + 1) _ _ _ (by omega) (by omega) (yI_tc h1 (tc_sI tc_rf (by omega))) (yk_tr k1 (yk_tc (tc_sI tc_rf (by omega)))) (tO_tc hT1 (tc_sI tc_rf (by omega)))
set_option maxRecDepth 20000 in
set_option maxHeartbeats 4000000 in
theorem y_Y_drop {G : Gt} {M : Me} (d : Nat) (t : Nat) (p : Nat) (n : Nat) (o : Nat → Nat) (x : Int32) (np : Nat) (nt : Nat) (hY : yI M np nt) (ht : t < nt) (hT : tO M t p n o) : sx G yt_Y_drop yn_Y_drop (d + 4) [.inr (some (0, 0)), .inr (some (2, t)), .inl x] M (fun r M' => r = none ∧ yI M' np nt ∧ yk M M') := by
  refine sx_of (k := 4) (lc := [some (.inr (some (0, 0))), some (.inr (some (2, t))), some (.inl x), none, none, none, none]) mt_Y_drop (Nat.le_of_ble_eq_true rfl) rfl ?_
  refine jx_of (fun _ _ kz => jw_aload_n 1 d_Y_drop_0 rfl rfl kz) ?_
  refine jx_of (fun _ _ kz => jw_iload_n 2 d_Y_drop_1 rfl rfl kz) ?_
  refine jx_callV (y_T_phaseOf2 (d + 1) t p n o x hT) mt_T_phaseOf cf_T rfl rfl ml_Y_341 im_T_phaseOf se_T_phaseOf d_Y_drop_2 rfl rfl (Nat.le_of_ble_eq_true rfl) ?_
  rintro _ _ ⟨⟨vp, rfl, hvp⟩, rfl⟩
  refine jx_eq (st2 := [.inl vp]) rfl rfl rfl ?_
  refine jx_of (fun _ _ kz => jw_iconst 1 d_Y_drop_5 (by decide) kz) ?_
  refine jx_icmp_eq 10 d_Y_drop_6 (by decide) (fun b_6 => ?_) (fun b_6 => ?_)
  · skip
    have h12 := hT.2.2.1
    obtain ⟨j, hj, rfl⟩ : ∃ j, j < n ∧ x = nI j := hvp.resolve_left (by rw [b_6]; decide)
    refine jx_of (fun _ _ kz => jw_aload_n 1 d_Y_drop_10 rfl rfl kz) ?_
    refine jx_of (fun _ _ kz => jw_getPe (some (1, p)) fl_Y_257 d_Y_drop_11 rfl rfl (by simp [me_I_sI, me_I_sP, me_I_nx, me_P_sI, me_P_sP, me_P_nx, me_N_sI, me_N_sP, me_N_nx, me_L_sI, me_L_sP, me_L_nx, show me_P M 2 t 2 = some (1, p) from hT.1.1]) kz) ?_
    refine jx_of (fun _ _ kz => jw_iload_n 2 d_Y_drop_14 rfl rfl kz) ?_
    refine jx_callV (y_P_endOf (d + 1) p n o ((nI j)) hT.2) mt_P_endOf cf_P rfl rfl ml_Y_335 im_P_endOf se_P_endOf d_Y_drop_15 rfl rfl (Nat.le_of_ble_eq_true rfl) ?_
    rintro _ _ ⟨⟨e2, he2, rfl⟩, rfl⟩
    refine jx_eq (st2 := [.inl (nI e2)]) rfl rfl rfl ?_
    refine jx_of (fun _ _ kz => jw_istore_n 3 d_Y_drop_18 rfl (Nat.le_of_ble_eq_true rfl) kz) ?_
    dsimp only [List.set]
    refine jx_of (fun _ _ kz => jw_iload_n 2 d_Y_drop_19 rfl rfl kz) ?_
    refine jx_of (fun _ _ kz => jw_istore d_Y_drop_20 (Nat.le_of_ble_eq_true rfl) kz) ?_
    dsimp only [List.set]
    exact y_Y_drop_l d t p n o (nI j) e2 np nt he2 ht _ _ 12 j M _ _ (by omega) (by omega) hY yk_rf hT
  · skip
    refine jx_vret d_Y_drop_9 rfl ?_
    exact ⟨rfl, hY, yk_rf⟩
