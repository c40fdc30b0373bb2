def tS (M : Me) (t p : Nat) : Prop := me_P M 2 t 2 = some (1, p) ∧ me_P M 2 t 8 = some (14, t) ∧ me_P M 2 t 9 = some (15, t) ∧ me_P M 2 t 10 = some (16, t) ∧ me_L M 14 t = 12 ∧ me_L M 15 t = 12 ∧ me_L M 16 t = 12
/-- Task t is whole, its Program is p -/
def tO (M : Me) (t p n : Nat) (o : Nat → Nat) : Prop := tS M t p ∧ pO M p n o
/-- only Task t and its rows are changed -/
def tc (t : Nat) (M M' : Me) : Prop := sq M M' ∧ ∀ s j k, ¬ ((s = 14 ∨ s = 15 ∨ s = 16 ∨ s = 2) ∧ j = t) → me_I M' s j k = me_I M s j k
theorem tc_rf {t : Nat} {M : Me} : tc t M M := ⟨sq_rf, fun _ _ _ _ => rfl⟩
theorem tc_tr {t : Nat} {M M1 M2 : Me} (h : tc t M M1) (h2 : tc t M1 M2) : tc t M M2 := ⟨sq_tr h.1 h2.1, fun s j k a => (h2.2 s j k a).trans (h.2 s j k a)⟩
theorem tc_sI {t s k : Nat} {v : Int32} {M M1 : Me} (h : tc t M M1) (hs : s = 14 ∨ s = 15 ∨ s = 16 ∨ s = 2) : tc t M (me_sI M1 s t k v) := ⟨sq_sI h.1, fun s' j k' a => by rw [me_I_sI, if_neg (fun e => a ⟨by omega, e.2.1⟩)]; exact h.2 s' j k' a⟩
theorem pO_o {M M' : Me} {i n : Nat} {o : Nat → Nat} (h : pO M i n o) (k : sq M M') (e : ∀ s j, s = 1 ∨ s = 11 ∨ s = 13 → me_I M' s i j = me_I M s i j) : pO M' i n o := by
  obtain ⟨a, b, c, f, g⟩ := h
  refine ⟨?_, b, by rw [e 1 3 (by omega)]; exact c, fun j hj => by rw [e 11 j (by omega)]; exact f j hj, fun j hj => by rw [e 13 j (by omega)]; exact g j hj⟩
  unfold pS; rw [k.1, k.2.1]; exact a
theorem tO_tc {M M' : Me} {t u p n : Nat} {o : Nat → Nat} (h : tO M u p n o) (k : tc t M M') : tO M' u p n o := by
  refine ⟨?_, pO_o h.2 k.1 (fun s j q => k.2 s p j (by omega))⟩
  unfold tS; rw [k.1.1, k.1.2.1]; exact h.1
set_option maxRecDepth 20000 in
set_option maxHeartbeats 4000000 in
theorem y_T_phaseOf {G : Gt} {M : Me} (d : Nat) (t : Nat) (p : Nat) (n : Nat) (o : Nat → Nat) (x : Int32) (hT : tO M t p n o) : sx G yt_T_phaseOf yn_T_phaseOf (d + 2) [.inr (some (2, t)), .inl x] M (fun r M' => (∃ v : Int32, r = some (.inl v)) ∧ M = M') := by
  refine sx_of (k := 0) (lc := [some (.inr (some (2, t))), some (.inl x)]) mt_T_phaseOf (Nat.le_of_ble_eq_true rfl) rfl ?_
  refine jx_of (fun _ _ kz => jw_aload_n 0 d_T_phaseOf_0 rfl rfl kz) ?_
  refine jx_of (fun _ _ kz => jw_getPe (some (1, p)) fl_T_44 d_T_phaseOf_1 rfl rfl (by simp [me_I_sI, me_I_sP, me_I_nx, me_P_sI, me_P_sP, me_P_nx, me_N_sI, me_N_sP, me_N_nx, me_L_sI, me_L_sP, me_L_nx, show me_P M 2 t 2 = some (1, p) from hT.1.1]) kz) ?_
  refine jx_of (fun _ _ kz => jw_iload_n 1 d_T_phaseOf_4 rfl rfl kz) ?_
  refine jx_callV (y_P_has d p n o x hT.2) mt_P_has cf_P rfl rfl ml_T_48 im_P_has se_P_has d_T_phaseOf_5 rfl rfl (Nat.le_of_ble_eq_true rfl) ?_
  rintro r _ ⟨hr, rfl⟩
  obtain ⟨rv, rfl, hrv⟩ : ∃ v : Int32, r = some (.inl v) ∧ (v = 0 ∨ ∃ j, j < n ∧ x = nI j) := by rcases hr with hr | ⟨hr, h2⟩; exact ⟨_, hr, Or.inl rfl⟩; exact ⟨_, hr, Or.inr h2⟩
  refine jx_eq (st2 := [.inl rv]) rfl rfl rfl ?_
  refine jx_if_eq 20 d_T_phaseOf_8 (by decide) (fun b_8 => ?_) (fun b_8 => ?_)
  · skip
    refine jx_of (fun _ _ kz => jw_iconst 0 d_T_phaseOf_20 (by decide) kz) ?_
    refine jx_iret d_T_phaseOf_21 rfl ?_
    exact ⟨⟨_, rfl⟩, rfl⟩
  · skip
    obtain ⟨j, hj, rfl⟩ := hrv.resolve_left b_8
    have h12 := hT.2.2.1
    refine jx_of (fun _ _ kz => jw_aload_n 0 d_T_phaseOf_11 rfl rfl kz) ?_
    refine jx_of (fun _ _ kz => jw_getPe (some (14, t)) fl_T_28 d_T_phaseOf_12 rfl rfl (by simp [me_I_sI, me_I_sP, me_I_nx, me_P_sI, me_P_sP, me_P_nx, me_N_sI, me_N_sP, me_N_nx, me_L_sI, me_L_sP, me_L_nx, show me_P M 2 t 8 = some (14, t) from hT.1.2.1]) kz) ?_
    refine jx_of (fun _ _ kz => jw_iload_n 1 d_T_phaseOf_15 rfl rfl kz) ?_
    refine jx_of (fun _ _ kz => jw_ialde (_) d_T_phaseOf_16 rfl rfl (by rw [show me_L _ 14 t = 12 from (by simp [me_I_sI, me_I_sP, me_I_nx, me_P_sI, me_P_sP, me_P_nx, me_N_sI, me_N_sP, me_N_nx, me_L_sI, me_L_sP, me_L_nx, show me_L M 14 t = 12 from hT.1.2.2.2.2.1])]; exact (vp_in_nI (by omega) (by omega))) rfl kz) ?_
    refine jx_of (fun _ _ kz => jw_goto 21 d_T_phaseOf_17 (by decide) kz) ?_
    refine jx_iret d_T_phaseOf_21 rfl ?_
    exact ⟨⟨_, rfl⟩, rfl⟩
set_option maxRecDepth 20000 in
set_option maxHeartbeats 4000000 in
theorem y_T_resultOf {G : Gt} {M : Me} (d : Nat) (t : Nat) (p : Nat) (n : Nat) (o : Nat → Nat) (x : Int32) (hT : tO M t p n o) : sx G yt_T_resultOf yn_T_resultOf (d + 2) [.inr (some (2, t)), .inl x] M (fun r M' => (∃ v : Int32, r = some (.inl v)) ∧ M = M') := by
  refine sx_of (k := 0) (lc := [some (.inr (some (2, t))), some (.inl x)]) mt_T_resultOf (Nat.le_of_ble_eq_true rfl) rfl ?_
  refine jx_of (fun _ _ kz => jw_aload_n 0 d_T_resultOf_0 rfl rfl kz) ?_
  refine jx_of (fun _ _ kz => jw_getPe (some (1, p)) fl_T_44 d_T_resultOf_1 rfl rfl (by simp [me_I_sI, me_I_sP, me_I_nx, me_P_sI, me_P_sP, me_P_nx, me_N_sI, me_N_sP, me_N_nx, me_L_sI, me_L_sP, me_L_nx, show me_P M 2 t 2 = some (1, p) from hT.1.1]) kz) ?_
  refine jx_of (fun _ _ kz => jw_iload_n 1 d_T_resultOf_4 rfl rfl kz) ?_
  refine jx_callV (y_P_has d p n o x hT.2) mt_P_has cf_P rfl rfl ml_T_48 im_P_has se_P_has d_T_resultOf_5 rfl rfl (Nat.le_of_ble_eq_true rfl) ?_
  rintro r _ ⟨hr, rfl⟩
  obtain ⟨rv, rfl, hrv⟩ : ∃ v : Int32, r = some (.inl v) ∧ (v = 0 ∨ ∃ j, j < n ∧ x = nI j) := by rcases hr with hr | ⟨hr, h2⟩; exact ⟨_, hr, Or.inl rfl⟩; exact ⟨_, hr, Or.inr h2⟩
  refine jx_eq (st2 := [.inl rv]) rfl rfl rfl ?_
  refine jx_if_eq 20 d_T_resultOf_8 (by decide) (fun b_8 => ?_) (fun b_8 => ?_)
  · skip
    refine jx_of (fun _ _ kz => jw_iconst 0 d_T_resultOf_20 (by decide) kz) ?_
    refine jx_iret d_T_resultOf_21 rfl ?_
    exact ⟨⟨_, rfl⟩, rfl⟩
  · skip
    obtain ⟨j, hj, rfl⟩ := hrv.resolve_left b_8
    have h12 := hT.2.2.1
    refine jx_of (fun _ _ kz => jw_aload_n 0 d_T_resultOf_11 rfl rfl kz) ?_
    refine jx_of (fun _ _ kz => jw_getPe (some (15, t)) fl_T_32 d_T_resultOf_12 rfl rfl (by simp [me_I_sI, me_I_sP, me_I_nx, me_P_sI, me_P_sP, me_P_nx, me_N_sI, me_N_sP, me_N_nx, me_L_sI, me_L_sP, me_L_nx, show me_P M 2 t 9 = some (15, t) from hT.1.2.2.1]) kz) ?_
    refine jx_of (fun _ _ kz => jw_iload_n 1 d_T_resultOf_15 rfl rfl kz) ?_
    refine jx_of (fun _ _ kz => jw_ialde (_) d_T_resultOf_16 rfl rfl (by rw [show me_L _ 15 t = 12 from (by simp [me_I_sI, me_I_sP, me_I_nx, me_P_sI, me_P_sP, me_P_nx, me_N_sI, me_N_sP, me_N_nx, me_L_sI, me_L_sP, me_L_nx, show me_L M 15 t = 12 from hT.1.2.2.2.2.2.1])]; exact (vp_in_nI (by omega) (by omega))) rfl kz) ?_
    refine jx_of (fun _ _ kz => jw_goto 21 d_T_resultOf_17 (by decide) kz) ?_
    refine jx_iret d_T_resultOf_21 rfl ?_
    exact ⟨⟨_, rfl⟩, rfl⟩
set_option maxRecDepth 20000 in
set_option maxHeartbeats 4000000 in
theorem y_T_makeReady {G : Gt} {M : Me} (d : Nat) (t : Nat) (p : Nat) (n : Nat) (o : Nat → Nat) (k : Nat) (v : Int32) (hT : tO M t p n o) (hk : k < 12) : sx G yt_T_makeReady yn_T_makeReady (d + 1) [.inr (some (2, t)), .inl (nI k), .inl v] M (fun r M' => r = none ∧ tc t M M') := by
  refine sx_of (k := 0) (lc := [some (.inr (some (2, t))), some (.inl (nI k)), some (.inl v)]) mt_T_makeReady (Nat.le_of_ble_eq_true rfl) rfl ?_
  refine jx_of (fun _ _ kz => jw_aload_n 0 d_T_makeReady_0 rfl rfl kz) ?_
  refine jx_of (fun _ _ kz => jw_getPe (some (14, t)) fl_T_28 d_T_makeReady_1 rfl rfl (by simp [me_I_sI, me_I_sP, me_I_nx, me_P_sI, me_P_sP, me_P_nx, me_N_sI, me_N_sP, me_N_nx, me_L_sI, me_L_sP, me_L_nx, show me_P M 2 t 8 = some (14, t) from hT.1.2.1]) kz) ?_
  refine jx_of (fun _ _ kz => jw_iload_n 1 d_T_makeReady_4 rfl rfl kz) ?_
  refine jx_of (fun _ _ kz => jw_iconst 2 d_T_makeReady_5 (by decide) kz) ?_
  refine jx_of (fun _ _ kz => jw_iast d_T_makeReady_6 rfl rfl (by rw [show me_L _ 14 t = 12 from (by simp [me_I_sI, me_I_sP, me_I_nx, me_P_sI, me_P_sP, me_P_nx, me_N_sI, me_N_sP, me_N_nx, me_L_sI, me_L_sP, me_L_nx, show me_L M 14 t = 12 from hT.1.2.2.2.2.1])]; exact (vp_in_nI (by omega) (by omega))) kz) ?_
  rw [nI_clamp (by omega)]
  refine jx_of (fun _ _ kz => jw_aload_n 0 d_T_makeReady_7 rfl rfl kz) ?_
  refine jx_of (fun _ _ kz => jw_getPe (some (15, t)) fl_T_32 d_T_makeReady_8 rfl rfl (by simp [me_I_sI, me_I_sP, me_I_nx, me_P_sI, me_P_sP, me_P_nx, me_N_sI, me_N_sP, me_N_nx, me_L_sI, me_L_sP, me_L_nx, show me_P M 2 t 9 = some (15, t) from hT.1.2.2.1]) kz) ?_
  refine jx_of (fun _ _ kz => jw_iload_n 1 d_T_makeReady_11 rfl rfl kz) ?_
  refine jx_of (fun _ _ kz => jw_iload_n 2 d_T_makeReady_12 rfl rfl kz) ?_
  refine jx_of (fun _ _ kz => jw_iast d_T_makeReady_13 rfl rfl (by rw [show me_L _ 15 t = 12 from (by simp [me_I_sI, me_I_sP, me_I_nx, me_P_sI, me_P_sP, me_P_nx, me_N_sI, me_N_sP, me_N_nx, me_L_sI, me_L_sP, me_L_nx, show me_L M 15 t = 12 from hT.1.2.2.2.2.2.1])]; exact (vp_in_nI (by omega) (by omega))) kz) ?_
  rw [nI_clamp (by omega)]
  refine jx_vret d_T_makeReady_14 rfl ?_
  exact ⟨rfl, tc_sI (tc_sI tc_rf (by omega)) (by omega)⟩
set_option maxRecDepth 20000 in
set_option maxHeartbeats 4000000 in
theorem y_T_makeBroken {G : Gt} {M : Me} (d : Nat) (t : Nat) (p : Nat) (n : Nat) (o : Nat → Nat) (k : Nat) (v : Int32) (hT : tO M t p n o) (hk : k < 12) : sx G yt_T_makeBroken yn_T_makeBroken (d + 1) [.inr (some (2, t)), .inl (nI k), .inl v] M (fun r M' => r = none ∧ tc t M M') := by
  refine sx_of (k := 0) (lc := [some (.inr (some (2, t))), some (.inl (nI k)), some (.inl v)]) mt_T_makeBroken (Nat.le_of_ble_eq_true rfl) rfl ?_
  refine jx_of (fun _ _ kz => jw_aload_n 0 d_T_makeBroken_0 rfl rfl kz) ?_
  refine jx_of (fun _ _ kz => jw_getPe (some (14, t)) fl_T_28 d_T_makeBroken_1 rfl rfl (by simp [me_I_sI, me_I_sP, me_I_nx, me_P_sI, me_P_sP, me_P_nx, me_N_sI, me_N_sP, me_N_nx, me_L_sI, me_L_sP, me_L_nx, show me_P M 2 t 8 = some (14, t) from hT.1.2.1]) kz) ?_
  refine jx_of (fun _ _ kz => jw_iload_n 1 d_T_makeBroken_4 rfl rfl kz) ?_
  refine jx_of (fun _ _ kz => jw_iconst 3 d_T_makeBroken_5 (by decide) kz) ?_
  refine jx_of (fun _ _ kz => jw_iast d_T_makeBroken_6 rfl rfl (by rw [show me_L _ 14 t = 12 from (by simp [me_I_sI, me_I_sP, me_I_nx, me_P_sI, me_P_sP, me_P_nx, me_N_sI, me_N_sP, me_N_nx, me_L_sI, me_L_sP, me_L_nx, show me_L M 14 t = 12 from hT.1.2.2.2.2.1])]; exact (vp_in_nI (by omega) (by omega))) kz) ?_
  rw [nI_clamp (by omega)]
  refine jx_of (fun _ _ kz => jw_aload_n 0 d_T_makeBroken_7 rfl rfl kz) ?_
  refine jx_of (fun _ _ kz => jw_getPe (some (15, t)) fl_T_32 d_T_makeBroken_8 rfl rfl (by simp [me_I_sI, me_I_sP, me_I_nx, me_P_sI, me_P_sP, me_P_nx, me_N_sI, me_N_sP, me_N_nx, me_L_sI, me_L_sP, me_L_nx, show me_P M 2 t 9 = some (15, t) from hT.1.2.2.1]) kz) ?_
  refine jx_of (fun _ _ kz => jw_iload_n 1 d_T_makeBroken_11 rfl rfl kz) ?_
  refine jx_of (fun _ _ kz => jw_iload_n 2 d_T_makeBroken_12 rfl rfl kz) ?_
  refine jx_of (fun _ _ kz => jw_iast d_T_makeBroken_13 rfl rfl (by rw [show me_L _ 15 t = 12 from (by simp [me_I_sI, me_I_sP, me_I_nx, me_P_sI, me_P_sP, me_P_nx, me_N_sI, me_N_sP, me_N_nx, me_L_sI, me_L_sP, me_L_nx, show me_L M 15 t = 12 from hT.1.2.2.2.2.2.1])]; exact (vp_in_nI (by omega) (by omega))) kz) ?_
  rw [nI_clamp (by omega)]
  refine jx_vret d_T_makeBroken_14 rfl ?_
  exact ⟨rfl, tc_sI (tc_sI tc_rf (by omega)) (by omega)⟩
set_option maxRecDepth 20000 in
set_option maxHeartbeats 4000000 in
theorem y_T_follow {G : Gt} {M : Me} (d : Nat) (t : Nat) (p : Nat) (n : Nat) (o : Nat → Nat) (k : Nat) (x : Int32) (hT : tO M t p n o) (hk : k < 12) : sx G yt_T_follow yn_T_follow (d + 3) [.inr (some (2, t)), .inl (nI k), .inl x] M (fun r M' => r = none ∧ tc t M M') := by
  refine sx_of (k := 0) (lc := [some (.inr (some (2, t))), some (.inl (nI k)), some (.inl x)]) mt_T_follow (Nat.le_of_ble_eq_true rfl) rfl ?_
  refine jx_of (fun _ _ kz => jw_aload_n 0 d_T_follow_0 rfl rfl kz) ?_
  refine jx_of (fun _ _ kz => jw_getPe (some (14, t)) fl_T_28 d_T_follow_1 rfl rfl (by simp [me_I_sI, me_I_sP, me_I_nx, me_P_sI, me_P_sP, me_P_nx, me_N_sI, me_N_sP, me_N_nx, me_L_sI, me_L_sP, me_L_nx, show me_P M 2 t 8 = some (14, t) from hT.1.2.1]) kz) ?_
  refine jx_of (fun _ _ kz => jw_iload_n 1 d_T_follow_4 rfl rfl kz) ?_
  refine jx_of (fun _ _ kz => jw_aload_n 0 d_T_follow_5 rfl rfl kz) ?_
  refine jx_of (fun _ _ kz => jw_iload_n 2 d_T_follow_6 rfl rfl kz) ?_
  refine jx_callV (y_T_phaseOf d t p n o x hT) mt_T_phaseOf cf_T rfl rfl ml_T_54 im_T_phaseOf se_T_phaseOf d_T_follow_7 rfl rfl (Nat.le_of_ble_eq_true rfl) ?_
  rintro _ _ ⟨⟨v1, rfl⟩, rfl⟩
  refine jx_eq (st2 := [.inl v1, .inl (nI k), .inr (some (14, t))]) rfl rfl rfl ?_
  refine jx_of (fun _ _ kz => jw_iast d_T_follow_10 rfl rfl (by rw [show me_L _ 14 t = 12 from (by simp [me_I_sI, me_I_sP, me_I_nx, me_P_sI, me_P_sP, me_P_nx, me_N_sI, me_N_sP, me_N_nx, me_L_sI, me_L_sP, me_L_nx, show me_L M 14 t = 12 from hT.1.2.2.2.2.1])]; exact (vp_in_nI (by omega) (by omega))) kz) ?_
  rw [nI_clamp (by omega)]
  refine jx_of (fun _ _ kz => jw_aload_n 0 d_T_follow_11 rfl rfl kz) ?_
  refine jx_of (fun _ _ kz => jw_getPe (some (15, t)) fl_T_32 d_T_follow_12 rfl rfl (by simp [me_I_sI, me_I_sP, me_I_nx, me_P_sI, me_P_sP, me_P_nx, me_N_sI, me_N_sP, me_N_nx, me_L_sI, me_L_sP, me_L_nx, show me_P M 2 t 9 = some (15, t) from hT.1.2.2.1]) kz) ?_
  refine jx_of (fun _ _ kz => jw_iload_n 1 d_T_follow_15 rfl rfl kz) ?_
  refine jx_of (fun _ _ kz => jw_aload_n 0 d_T_follow_16 rfl rfl kz) ?_
  refine jx_of (fun _ _ kz => jw_iload_n 2 d_T_follow_17 rfl rfl kz) ?_
  refine jx_callV (y_T_resultOf d t p n o x (tO_tc hT (tc_sI tc_rf (by omega)))) mt_T_resultOf cf_T rfl rfl ml_T_58 im_T_resultOf se_T_resultOf d_T_follow_18 rfl rfl (Nat.le_of_ble_eq_true rfl) ?_
  rintro _ _ ⟨⟨v2, rfl⟩, rfl⟩
  refine jx_eq (st2 := [.inl v2, .inl (nI k), .inr (some (15, t))]) rfl rfl rfl ?_
  refine jx_of (fun _ _ kz => jw_iast d_T_follow_21 rfl rfl (by rw [show me_L _ 15 t = 12 from (by simp [me_I_sI, me_I_sP, me_I_nx, me_P_sI, me_P_sP, me_P_nx, me_N_sI, me_N_sP, me_N_nx, me_L_sI, me_L_sP, me_L_nx, show me_L M 15 t = 12 from hT.1.2.2.2.2.2.1])]; exact (vp_in_nI (by omega) (by omega))) kz) ?_
  rw [nI_clamp (by omega)]
  refine jx_vret d_T_follow_22 rfl ?_
  exact ⟨rfl, tc_sI (tc_sI tc_rf (by omega)) (by omega)⟩
set_option maxRecDepth 20000 in
set_option maxHeartbeats 4000000 in
theorem y_T_end {G : Gt} {M : Me} (d : Nat) (t : Nat) (p : Nat) (n : Nat) (o : Nat → Nat) (hT : tO M t p n o) : sx G yt_T_end yn_T_end (d + 3) [.inr (some (2, t))] M (fun r M' => r = none ∧ tc t M M') := by
  refine sx_of (k := 0) (lc := [some (.inr (some (2, t)))]) mt_T_end (Nat.le_of_ble_eq_true rfl) rfl ?_
  refine jx_of (fun _ _ kz => jw_aload_n 0 d_T_end_0 rfl rfl kz) ?_
  refine jx_of (fun _ _ kz => jw_aload_n 0 d_T_end_1 rfl rfl kz) ?_
  refine jx_of (fun _ _ kz => jw_iconst 0 d_T_end_2 (by decide) kz) ?_
  refine jx_callV (y_T_phaseOf d t p n o 0 hT) mt_T_phaseOf cf_T rfl rfl ml_T_54 im_T_phaseOf se_T_phaseOf d_T_end_3 rfl rfl (Nat.le_of_ble_eq_true rfl) ?_
  rintro _ _ ⟨⟨v1, rfl⟩, rfl⟩
  refine jx_eq (st2 := [.inl v1, .inr (some (2, t))]) rfl rfl rfl ?_
  refine jx_of (fun _ _ kz => jw_iconst 2 d_T_end_6 (by decide) kz) ?_
  refine jx_icmp_ne 14 d_T_end_7 (by decide) (fun b_7 => ?_) (fun b_7 => ?_)
  · skip
    refine jx_of (fun _ _ kz => jw_iconst 3 d_T_end_14 (by decide) kz) ?_
    refine jx_of (fun _ _ kz => jw_putI fl_T_9 (Or.inl rfl) rfl rfl d_T_end_15 rfl rfl kz) ?_
    refine jx_of (fun _ _ kz => jw_aload_n 0 d_T_end_18 rfl rfl kz) ?_
    refine jx_of (fun _ _ kz => jw_aload_n 0 d_T_end_19 rfl rfl kz) ?_
    refine jx_of (fun _ _ kz => jw_iconst 0 d_T_end_20 (by decide) kz) ?_
    refine jx_callV (y_T_resultOf d t p n o 0 (tO_tc hT (tc_sI tc_rf (by omega)))) mt_T_resultOf cf_T rfl rfl ml_T_58 im_T_resultOf se_T_resultOf d_T_end_21 rfl rfl (Nat.le_of_ble_eq_true rfl) ?_
    rintro _ _ ⟨⟨v2, rfl⟩, rfl⟩
    refine jx_eq (st2 := [.inl v2, .inr (some (2, t))]) rfl rfl rfl ?_
    refine jx_of (fun _ _ kz => jw_putI fl_T_15 (Or.inl rfl) rfl rfl d_T_end_24 rfl rfl kz) ?_
    refine jx_vret d_T_end_27 rfl ?_
    exact ⟨rfl, tc_sI (tc_sI tc_rf (by omega)) (by omega)⟩
  · skip
    refine jx_of (fun _ _ kz => jw_iconst 2 d_T_end_10 (by decide) kz) ?_
    refine jx_of (fun _ _ kz => jw_goto 15 d_T_end_11 (by decide) kz) ?_
    refine jx_of (fun _ _ kz => jw_putI fl_T_9 (Or.inl rfl) rfl rfl d_T_end_15 rfl rfl kz) ?_
    refine jx_of (fun _ _ kz => jw_aload_n 0 d_T_end_18 rfl rfl kz) ?_
    refine jx_of (fun _ _ kz => jw_aload_n 0 d_T_end_19 rfl rfl kz) ?_
    refine jx_of (fun _ _ kz => jw_iconst 0 d_T_end_20 (by decide) kz) ?_
    refine jx_callV (y_T_resultOf d t p n o 0 (tO_tc hT (tc_sI tc_rf (by omega)))) mt_T_resultOf cf_T rfl rfl ml_T_58 im_T_resultOf se_T_resultOf d_T_end_21 rfl rfl (Nat.le_of_ble_eq_true rfl) ?_
    rintro _ _ ⟨⟨v2, rfl⟩, rfl⟩
    refine jx_eq (st2 := [.inl v2, .inr (some (2, t))]) rfl rfl rfl ?_
    refine jx_of (fun _ _ kz => jw_putI fl_T_15 (Or.inl rfl) rfl rfl d_T_end_24 rfl rfl kz) ?_
    refine jx_vret d_T_end_27 rfl ?_
    exact ⟨rfl, tc_sI (tc_sI tc_rf (by omega)) (by omega)⟩
set_option maxRecDepth 20000 in
set_option maxHeartbeats 4000000 in
theorem y_T_hasEnded {G : Gt} {M : Me} (d : Nat) (t : Nat) (p : Nat) (n : Nat) (o : Nat → Nat) (hT : tO M t p n o) : sx G yt_T_hasEnded yn_T_hasEnded (d + 1) [.inr (some (2, t))] M (fun r M' => (r = some (.inl 0) ∨ r = some (.inl 1)) ∧ M = M') := by
  refine sx_of (k := 0) (lc := [some (.inr (some (2, t)))]) mt_T_hasEnded (Nat.le_of_ble_eq_true rfl) rfl ?_
  refine jx_of (fun _ _ kz => jw_aload_n 0 d_T_hasEnded_0 rfl rfl kz) ?_
  refine jx_of (fun _ _ kz => jw_getIe (me_I M 2 t 3) fl_T_9 d_T_hasEnded_1 rfl rfl rfl kz) ?_
  refine jx_of (fun _ _ kz => jw_iconst 2 d_T_hasEnded_4 (by decide) kz) ?_
  refine jx_icmp_eq 24 d_T_hasEnded_5 (by decide) (fun b_5 => ?_) (fun b_5 => ?_)
  · skip
    refine jx_of (fun _ _ kz => jw_iconst 1 d_T_hasEnded_24 (by decide) kz) ?_
    refine jx_of (fun _ _ kz => jw_goto 29 d_T_hasEnded_25 (by decide) kz) ?_
    refine jx_zret d_T_hasEnded_29 rfl (by decide) ?_
    exact ⟨by first | exact Or.inl rfl | exact Or.inr rfl, rfl⟩
  · skip
    refine jx_of (fun _ _ kz => jw_aload_n 0 d_T_hasEnded_8 rfl rfl kz) ?_
    refine jx_of (fun _ _ kz => jw_getIe (me_I M 2 t 3) fl_T_9 d_T_hasEnded_9 rfl rfl rfl kz) ?_
    refine jx_of (fun _ _ kz => jw_iconst 3 d_T_hasEnded_12 (by decide) kz) ?_
    refine jx_icmp_eq 24 d_T_hasEnded_13 (by decide) (fun b_13 => ?_) (fun b_13 => ?_)
    · skip
      refine jx_of (fun _ _ kz => jw_iconst 1 d_T_hasEnded_24 (by decide) kz) ?_
      refine jx_of (fun _ _ kz => jw_goto 29 d_T_hasEnded_25 (by decide) kz) ?_
      refine jx_zret d_T_hasEnded_29 rfl (by decide) ?_
      exact ⟨by first | exact Or.inl rfl | exact Or.inr rfl, rfl⟩
    · skip
      refine jx_of (fun _ _ kz => jw_aload_n 0 d_T_hasEnded_16 rfl rfl kz) ?_
      refine jx_of (fun _ _ kz => jw_getIe (me_I M 2 t 3) fl_T_9 d_T_hasEnded_17 rfl rfl rfl kz) ?_
      refine jx_of (fun _ _ kz => jw_iconst 4 d_T_hasEnded_20 (by decide) kz) ?_
      refine jx_icmp_ne 28 d_T_hasEnded_21 (by decide) (fun b_21 => ?_) (fun b_21 => ?_)
      · skip
        refine jx_of (fun _ _ kz => jw_iconst 0 d_T_hasEnded_28 (by decide) kz) ?_
        refine jx_zret d_T_hasEnded_29 rfl (by decide) ?_
        exact ⟨by first | exact Or.inl rfl | exact Or.inr rfl, rfl⟩
      · skip
        refine jx_of (fun _ _ kz => jw_iconst 1 d_T_hasEnded_24 (by decide) kz) ?_
        refine jx_of (fun _ _ kz => jw_goto 29 d_T_hasEnded_25 (by decide) kz) ?_
        refine jx_zret d_T_hasEnded_29 rfl (by decide) ?_
        exact ⟨by first | exact Or.inl rfl | exact Or.inr rfl, rfl⟩
set_option maxRecDepth 20000 in
set_option maxHeartbeats 4000000 in
theorem y_T_placeOf {G : Gt} {M : Me} (d : Nat) (t : Nat) (p : Nat) (n : Nat) (o : Nat → Nat) (x : Int32) (hT : tO M t p n o) : sx G yt_T_placeOf yn_T_placeOf (d + 1) [.inr (some (2, t)), .inl x] M (fun r M' => (∃ v : Int32, r = some (.inl v)) ∧ M = M') := by
  refine sx_of (k := 0) (lc := [some (.inr (some (2, t))), some (.inl x)]) mt_T_placeOf (Nat.le_of_ble_eq_true rfl) rfl ?_
  refine jx_of (fun _ _ kz => jw_aload_n 0 d_T_placeOf_0 rfl rfl kz) ?_
  refine jx_of (fun _ _ kz => jw_getIe (me_I M 2 t 0) fl_T_38 d_T_placeOf_1 rfl rfl rfl kz) ?_
  refine jx_of (fun _ _ kz => jw_bipush 12 d_T_placeOf_4 (by decide) kz) ?_
  refine jx_of (fun _ _ kz => jw_imul d_T_placeOf_6 kz) ?_
  refine jx_of (fun _ _ kz => jw_iload_n 1 d_T_placeOf_7 rfl rfl kz) ?_
  refine jx_of (fun _ _ kz => jw_iadd d_T_placeOf_8 kz) ?_
  refine jx_iret d_T_placeOf_9 rfl ?_
  exact ⟨⟨_, rfl⟩, rfl⟩
set_option maxRecDepth 20000 in
set_option maxHeartbeats 4000000 in
theorem y_T_reaps_l {G : Gt} {M : Me} (d t p n : Nat) (o : Nat → Nat) (x : Int32) (hT : tO M t p n o) (c0 s0 : Nat) : ∀ (m k : Nat) (o3 : Option AV), k + m = n → jx G yt_T_reaps (d + 3) c0 s0 M 2 [some (.inr (some (2, t))), some (.inl x), some (.inl (nI k)), o3] [] (fun r M' => (r = some (.inl 0) ∨ r = some (.inl 1)) ∧ M = M') := by
  have h12 := hT.2.2.1
  intro m
  induction m with
  | zero =>
    intro k o3 hk
    refine jx_of (fun _ _ kz => jw_iload_n 2 d_T_reaps_2 rfl rfl kz) ?_
    refine jx_of (fun _ _ kz => jw_aload_n 0 d_T_reaps_3 rfl rfl kz) ?_
    refine jx_of (fun _ _ kz => jw_getPe (some (1, p)) fl_T_44 d_T_reaps_4 rfl rfl (by simp [me_I_sI, me_I_sP, me_I_nx, me_P_sI, me_P_sP, me_P_nx, me_N_sI, me_N_sP, me_N_nx, me_L_sI, me_L_sP, me_L_nx, show me_P M 2 t 2 = some (1, p) from hT.1.1]) kz) ?_
    refine jx_of (fun _ _ kz => jw_getIe (nI n) fl_T_61 d_T_reaps_7 rfl rfl hT.2.2.2.1 kz) ?_
    refine jx_icmp_ge 77 d_T_reaps_10 (by decide) (fun _ => ?_) (fun h => absurd (nI_le (by omega) (by omega)) h)
    refine jx_of (fun _ _ kz => jw_iconst 0 d_T_reaps_77 (by decide) kz) ?_
    refine jx_zret d_T_reaps_78 rfl (by decide) ?_
    exact ⟨by first | exact Or.inl rfl | exact Or.inr rfl, rfl⟩
  | succ m ih =>
    intro k o3 hk
    refine jx_of (fun _ _ kz => jw_iload_n 2 d_T_reaps_2 rfl rfl kz) ?_
    refine jx_of (fun _ _ kz => jw_aload_n 0 d_T_reaps_3 rfl rfl kz) ?_
    refine jx_of (fun _ _ kz => jw_getPe (some (1, p)) fl_T_44 d_T_reaps_4 rfl rfl (by simp [me_I_sI, me_I_sP, me_I_nx, me_P_sI, me_P_sP, me_P_nx, me_N_sI, me_N_sP, me_N_nx, me_L_sI, me_L_sP, me_L_nx, show me_P M 2 t 2 = some (1, p) from hT.1.1]) kz) ?_
    refine jx_of (fun _ _ kz => jw_getIe (nI n) fl_T_61 d_T_reaps_7 rfl rfl hT.2.2.2.1 kz) ?_
    refine jx_icmp_ge 77 d_T_reaps_10 (by decide) (fun h => absurd h (nI_ge (by omega) (by omega))) (fun _ => ?_)
    refine jx_of (fun _ _ kz => jw_aload_n 0 d_T_reaps_13 rfl rfl kz) ?_
    refine jx_of (fun _ _ kz => jw_getPe (some (1, p)) fl_T_44 d_T_reaps_14 rfl rfl (by simp [me_I_sI, me_I_sP, me_I_nx, me_P_sI, me_P_sP, me_P_nx, me_N_sI, me_N_sP, me_N_nx, me_L_sI, me_L_sP, me_L_nx, show me_P M 2 t 2 = some (1, p) from hT.1.1]) kz) ?_
    refine jx_of (fun _ _ kz => jw_getPe (some (11, p)) fl_T_64 d_T_reaps_17 rfl rfl (by simp [me_I_sI, me_I_sP, me_I_nx, me_P_sI, me_P_sP, me_P_nx, me_N_sI, me_N_sP, me_N_nx, me_L_sI, me_L_sP, me_L_nx, show me_P M 1 p 0 = some (11, p) from hT.2.1.1]) kz) ?_
    refine jx_of (fun _ _ kz => jw_iload_n 2 d_T_reaps_20 rfl rfl kz) ?_
    refine jx_of (fun _ _ kz => jw_ialde (_) d_T_reaps_21 rfl rfl (by rw [show me_L _ 11 p = 12 from (by simp [me_I_sI, me_I_sP, me_I_nx, me_P_sI, me_P_sP, me_P_nx, me_N_sI, me_N_sP, me_N_nx, me_L_sI, me_L_sP, me_L_nx, show me_L M 11 p = 12 from hT.2.1.2.2.2.1])]; exact (vp_in_nI (by omega) (by omega))) rfl kz) ?_
    refine jx_of (fun _ _ kz => jw_bipush 8 d_T_reaps_22 (by decide) kz) ?_
    refine jx_icmp_ne 52 d_T_reaps_24 (by decide) (fun b_24 => ?_) (fun b_24 => ?_)
    · skip
      refine jx_of (fun _ _ kz => jw_iconst 0 d_T_reaps_52 (by decide) kz) ?_
      refine jx_of (fun _ _ kz => jw_istore_n 3 d_T_reaps_53 rfl (Nat.le_of_ble_eq_true rfl) kz) ?_
      dsimp only [List.set]
      refine jx_of (fun _ _ kz => jw_iload_n 3 d_T_reaps_54 rfl rfl kz) ?_
      refine jx_if_eq 71 d_T_reaps_55 (by decide) (fun _ => ?_) (fun h => absurd h (by decide))
      refine jx_of (fun _ _ kz => jw_iincc 1 d_T_reaps_71 (by decide) rfl (Nat.le_of_ble_eq_true rfl) kz) ?_
      dsimp only [List.set]
      refine jx_of (fun _ _ kz => jw_goto 2 d_T_reaps_74 (by decide) kz) ?_
      rw [nI_1]
      exact ih (k + 1) _ (by omega)
    · skip
      refine jx_of (fun _ _ kz => jw_aload_n 0 d_T_reaps_27 rfl rfl kz) ?_
      refine jx_of (fun _ _ kz => jw_getPe (some (14, t)) fl_T_28 d_T_reaps_28 rfl rfl (by simp [me_I_sI, me_I_sP, me_I_nx, me_P_sI, me_P_sP, me_P_nx, me_N_sI, me_N_sP, me_N_nx, me_L_sI, me_L_sP, me_L_nx, show me_P M 2 t 8 = some (14, t) from hT.1.2.1]) kz) ?_
      refine jx_of (fun _ _ kz => jw_iload_n 2 d_T_reaps_31 rfl rfl kz) ?_
      refine jx_of (fun _ _ kz => jw_ialde (_) d_T_reaps_32 rfl rfl (by rw [show me_L _ 14 t = 12 from (by simp [me_I_sI, me_I_sP, me_I_nx, me_P_sI, me_P_sP, me_P_nx, me_N_sI, me_N_sP, me_N_nx, me_L_sI, me_L_sP, me_L_nx, show me_L M 14 t = 12 from hT.1.2.2.2.2.1])]; exact (vp_in_nI (by omega) (by omega))) rfl kz) ?_
      refine jx_of (fun _ _ kz => jw_iconst 1 d_T_reaps_33 (by decide) kz) ?_
      refine jx_icmp_ne 52 d_T_reaps_34 (by decide) (fun b_34 => ?_) (fun b_34 => ?_)
      · skip
        refine jx_of (fun _ _ kz => jw_iconst 0 d_T_reaps_52 (by decide) kz) ?_
        refine jx_of (fun _ _ kz => jw_istore_n 3 d_T_reaps_53 rfl (Nat.le_of_ble_eq_true rfl) kz) ?_
        dsimp only [List.set]
        refine jx_of (fun _ _ kz => jw_iload_n 3 d_T_reaps_54 rfl rfl kz) ?_
        refine jx_if_eq 71 d_T_reaps_55 (by decide) (fun _ => ?_) (fun h => absurd h (by decide))
        refine jx_of (fun _ _ kz => jw_iincc 1 d_T_reaps_71 (by decide) rfl (Nat.le_of_ble_eq_true rfl) kz) ?_
        dsimp only [List.set]
        refine jx_of (fun _ _ kz => jw_goto 2 d_T_reaps_74 (by decide) kz) ?_
        rw [nI_1]
        exact ih (k + 1) _ (by omega)
      · skip
        refine jx_of (fun _ _ kz => jw_aload_n 0 d_T_reaps_37 rfl rfl kz) ?_
        refine jx_of (fun _ _ kz => jw_iload_n 2 d_T_reaps_38 rfl rfl kz) ?_
        refine jx_of (fun _ _ kz => jw_iconst 1 d_T_reaps_39 (by decide) kz) ?_
        refine jx_of (fun _ _ kz => jw_iadd d_T_reaps_40 kz) ?_
        refine jx_callV (y_T_phaseOf d t p n o (((nI k) + 1)) hT) mt_T_phaseOf cf_T rfl rfl ml_T_54 im_T_phaseOf se_T_phaseOf d_T_reaps_41 rfl rfl (Nat.le_of_ble_eq_true rfl) ?_
        rintro _ _ ⟨⟨v1, rfl⟩, rfl⟩
        refine jx_eq (st2 := [.inl v1]) rfl rfl rfl ?_
        refine jx_of (fun _ _ kz => jw_iconst 2 d_T_reaps_44 (by decide) kz) ?_
        refine jx_icmp_ne 52 d_T_reaps_45 (by decide) (fun b_45 => ?_) (fun b_45 => ?_)
        · skip
          refine jx_of (fun _ _ kz => jw_iconst 0 d_T_reaps_52 (by decide) kz) ?_
          refine jx_of (fun _ _ kz => jw_istore_n 3 d_T_reaps_53 rfl (Nat.le_of_ble_eq_true rfl) kz) ?_
          dsimp only [List.set]
          refine jx_of (fun _ _ kz => jw_iload_n 3 d_T_reaps_54 rfl rfl kz) ?_
          refine jx_if_eq 71 d_T_reaps_55 (by decide) (fun _ => ?_) (fun h => absurd h (by decide))
          refine jx_of (fun _ _ kz => jw_iincc 1 d_T_reaps_71 (by decide) rfl (Nat.le_of_ble_eq_true rfl) kz) ?_
          dsimp only [List.set]
          refine jx_of (fun _ _ kz => jw_goto 2 d_T_reaps_74 (by decide) kz) ?_
          rw [nI_1]
          exact ih (k + 1) _ (by omega)
        · skip
          refine jx_of (fun _ _ kz => jw_iconst 1 d_T_reaps_48 (by decide) kz) ?_
          refine jx_of (fun _ _ kz => jw_goto 53 d_T_reaps_49 (by decide) kz) ?_
          refine jx_of (fun _ _ kz => jw_istore_n 3 d_T_reaps_53 rfl (Nat.le_of_ble_eq_true rfl) kz) ?_
          dsimp only [List.set]
          refine jx_of (fun _ _ kz => jw_iload_n 3 d_T_reaps_54 rfl rfl kz) ?_
          refine jx_if_eq 71 d_T_reaps_55 (by decide) (fun h => absurd h (by decide)) (fun _ => ?_)
          refine jx_of (fun _ _ kz => jw_aload_n 0 d_T_reaps_58 rfl rfl kz) ?_
          refine jx_of (fun _ _ kz => jw_iload_n 2 d_T_reaps_59 rfl rfl kz) ?_
          refine jx_of (fun _ _ kz => jw_iconst 1 d_T_reaps_60 (by decide) kz) ?_
          refine jx_of (fun _ _ kz => jw_iadd d_T_reaps_61 kz) ?_
          refine jx_callV (y_T_resultOf d t p n o (((nI k) + 1)) hT) mt_T_resultOf cf_T rfl rfl ml_T_58 im_T_resultOf se_T_resultOf d_T_reaps_62 rfl rfl (Nat.le_of_ble_eq_true rfl) ?_
          rintro _ _ ⟨⟨v2, rfl⟩, rfl⟩
          refine jx_eq (st2 := [.inl v2]) rfl rfl rfl ?_
          refine jx_of (fun _ _ kz => jw_iload_n 1 d_T_reaps_65 rfl rfl kz) ?_
          refine jx_icmp_ne 71 d_T_reaps_66 (by decide) (fun b_66 => ?_) (fun b_66 => ?_)
          · skip
            refine jx_of (fun _ _ kz => jw_iincc 1 d_T_reaps_71 (by decide) rfl (Nat.le_of_ble_eq_true rfl) kz) ?_
            dsimp only [List.set]
            refine jx_of (fun _ _ kz => jw_goto 2 d_T_reaps_74 (by decide) kz) ?_
            rw [nI_1]
            exact ih (k + 1) _ (by omega)
          · skip
            refine jx_of (fun _ _ kz => jw_iconst 1 d_T_reaps_69 (by decide) kz) ?_
            refine jx_zret d_T_reaps_70 rfl (by decide) ?_
            exact ⟨by first | exact Or.inl rfl | exact Or.inr rfl, rfl⟩
set_option maxRecDepth 20000 in
set_option maxHeartbeats 4000000 in
theorem y_T_reaps {G : Gt} {M : Me} (d : Nat) (t : Nat) (p : Nat) (n : Nat) (o : Nat → Nat) (x : Int32) (hT : tO M t p n o) : sx G yt_T_reaps yn_T_reaps (d + 3) [.inr (some (2, t)), .inl x] M (fun r M' => (r = some (.inl 0) ∨ r = some (.inl 1)) ∧ M = M') := by
  refine sx_of (k := 2) (lc := [some (.inr (some (2, t))), some (.inl x), none, none]) mt_T_reaps (Nat.le_of_ble_eq_true rfl) rfl ?_
  refine jx_of (fun _ _ kz => jw_iconst 0 d_T_reaps_0 (by decide) kz) ?_
  refine jx_of (fun _ _ kz => jw_istore_n 2 d_T_reaps_1 rfl (Nat.le_of_ble_eq_true rfl) kz) ?_
  dsimp only [List.set]
  exact y_T_reaps_l d t p n o x hT _ _ n 0 none (by omega)
set_option maxRecDepth 20000 in
set_option maxHeartbeats 4000000 in
theorem y_T_isDueAt_l {G : Gt} {M : Me} (d t p n : Nat) (o : Nat → Nat) (x : Int32) (hT : tO M t p n o) (c0 s0 : Nat) : ∀ (m k : Nat) (o3 o4 : Option AV), k + m = n → jx G yt_T_isDueAt (d + 3) c0 s0 M 2 [some (.inr (some (2, t))), some (.inl x), some (.inl (nI k)), o3, o4] [] (fun r M' => (r = some (.inl 0) ∨ r = some (.inl 1)) ∧ M = M') := by
  have h12 := hT.2.2.1
  intro m
  induction m with
  | zero =>
    intro k o3 o4 hk
    refine jx_of (fun _ _ kz => jw_iload_n 2 d_T_isDueAt_2 rfl rfl kz) ?_
    refine jx_of (fun _ _ kz => jw_aload_n 0 d_T_isDueAt_3 rfl rfl kz) ?_
    refine jx_of (fun _ _ kz => jw_getPe (some (1, p)) fl_T_44 d_T_isDueAt_4 rfl rfl (by simp [me_I_sI, me_I_sP, me_I_nx, me_P_sI, me_P_sP, me_P_nx, me_N_sI, me_N_sP, me_N_nx, me_L_sI, me_L_sP, me_L_nx, show me_P M 2 t 2 = some (1, p) from hT.1.1]) kz) ?_
    refine jx_of (fun _ _ kz => jw_getIe (nI n) fl_T_61 d_T_isDueAt_7 rfl rfl hT.2.2.2.1 kz) ?_
    refine jx_icmp_ge 120 d_T_isDueAt_10 (by decide) (fun _ => ?_) (fun h => absurd (nI_le (by omega) (by omega)) h)
    refine jx_of (fun _ _ kz => jw_iconst 0 d_T_isDueAt_120 (by decide) kz) ?_
    refine jx_zret d_T_isDueAt_121 rfl (by decide) ?_
    exact ⟨by first | exact Or.inl rfl | exact Or.inr rfl, rfl⟩
  | succ m ih =>
    intro k o3 o4 hk
    refine jx_of (fun _ _ kz => jw_iload_n 2 d_T_isDueAt_2 rfl rfl kz) ?_
    refine jx_of (fun _ _ kz => jw_aload_n 0 d_T_isDueAt_3 rfl rfl kz) ?_
    refine jx_of (fun _ _ kz => jw_getPe (some (1, p)) fl_T_44 d_T_isDueAt_4 rfl rfl (by simp [me_I_sI, me_I_sP, me_I_nx, me_P_sI, me_P_sP, me_P_nx, me_N_sI, me_N_sP, me_N_nx, me_L_sI, me_L_sP, me_L_nx, show me_P M 2 t 2 = some (1, p) from hT.1.1]) kz) ?_
    refine jx_of (fun _ _ kz => jw_getIe (nI n) fl_T_61 d_T_isDueAt_7 rfl rfl hT.2.2.2.1 kz) ?_
    refine jx_icmp_ge 120 d_T_isDueAt_10 (by decide) (fun h => absurd h (nI_ge (by omega) (by omega))) (fun _ => ?_)
    refine jx_of (fun _ _ kz => jw_aload_n 0 d_T_isDueAt_13 rfl rfl kz) ?_
    refine jx_of (fun _ _ kz => jw_getPe (some (1, p)) fl_T_44 d_T_isDueAt_14 rfl rfl (by simp [me_I_sI, me_I_sP, me_I_nx, me_P_sI, me_P_sP, me_P_nx, me_N_sI, me_N_sP, me_N_nx, me_L_sI, me_L_sP, me_L_nx, show me_P M 2 t 2 = some (1, p) from hT.1.1]) kz) ?_
    refine jx_of (fun _ _ kz => jw_getPe (some (11, p)) fl_T_64 d_T_isDueAt_17 rfl rfl (by simp [me_I_sI, me_I_sP, me_I_nx, me_P_sI, me_P_sP, me_P_nx, me_N_sI, me_N_sP, me_N_nx, me_L_sI, me_L_sP, me_L_nx, show me_P M 1 p 0 = some (11, p) from hT.2.1.1]) kz) ?_
    refine jx_of (fun _ _ kz => jw_iload_n 2 d_T_isDueAt_20 rfl rfl kz) ?_
    refine jx_of (fun _ _ kz => jw_ialde (_) d_T_isDueAt_21 rfl rfl (by rw [show me_L _ 11 p = 12 from (by simp [me_I_sI, me_I_sP, me_I_nx, me_P_sI, me_P_sP, me_P_nx, me_N_sI, me_N_sP, me_N_nx, me_L_sI, me_L_sP, me_L_nx, show me_L M 11 p = 12 from hT.2.1.2.2.2.1])]; exact (vp_in_nI (by omega) (by omega))) rfl kz) ?_
    refine jx_of (fun _ _ kz => jw_iconst 2 d_T_isDueAt_22 (by decide) kz) ?_
    refine jx_icmp_eq 40 d_T_isDueAt_23 (by decide) (fun b_23 => ?_) (fun b_23 => ?_)
    · skip
      refine jx_of (fun _ _ kz => jw_iconst 1 d_T_isDueAt_40 (by decide) kz) ?_
      refine jx_of (fun _ _ kz => jw_goto 45 d_T_isDueAt_41 (by decide) kz) ?_
      refine jx_of (fun _ _ kz => jw_istore_n 3 d_T_isDueAt_45 rfl (Nat.le_of_ble_eq_true rfl) kz) ?_
      dsimp only [List.set]
      refine jx_of (fun _ _ kz => jw_aload_n 0 d_T_isDueAt_46 rfl rfl kz) ?_
      refine jx_of (fun _ _ kz => jw_getPe (some (16, t)) fl_T_35 d_T_isDueAt_47 rfl rfl (by simp [me_I_sI, me_I_sP, me_I_nx, me_P_sI, me_P_sP, me_P_nx, me_N_sI, me_N_sP, me_N_nx, me_L_sI, me_L_sP, me_L_nx, show me_P M 2 t 10 = some (16, t) from hT.1.2.2.2.1]) kz) ?_
      refine jx_of (fun _ _ kz => jw_iload_n 2 d_T_isDueAt_50 rfl rfl kz) ?_
      refine jx_of (fun _ _ kz => jw_ialde (_) d_T_isDueAt_51 rfl rfl (by rw [show me_L _ 16 t = 12 from (by simp [me_I_sI, me_I_sP, me_I_nx, me_P_sI, me_P_sP, me_P_nx, me_N_sI, me_N_sP, me_N_nx, me_L_sI, me_L_sP, me_L_nx, show me_L M 16 t = 12 from hT.1.2.2.2.2.2.2])]; exact (vp_in_nI (by omega) (by omega))) rfl kz) ?_
      refine jx_of (fun _ _ kz => jw_iconst (-1) d_T_isDueAt_52 (by decide) kz) ?_
      refine jx_icmp_eq 80 d_T_isDueAt_53 (by decide) (fun b_53 => ?_) (fun b_53 => ?_)
      · skip
        refine jx_of (fun _ _ kz => jw_iconst 0 d_T_isDueAt_80 (by decide) kz) ?_
        refine jx_of (fun _ _ kz => jw_istore d_T_isDueAt_81 (Nat.le_of_ble_eq_true rfl) kz) ?_
        dsimp only [List.set]
        refine jx_of (fun _ _ kz => jw_iload_n 3 d_T_isDueAt_83 rfl rfl kz) ?_
        refine jx_if_eq 114 d_T_isDueAt_84 (by decide) (fun h => absurd h (by decide)) (fun _ => ?_)
        refine jx_of (fun _ _ kz => jw_iload d_T_isDueAt_87 rfl kz) ?_
        refine jx_if_eq 114 d_T_isDueAt_89 (by decide) (fun _ => ?_) (fun h => absurd h (by decide))
        refine jx_of (fun _ _ kz => jw_iincc 1 d_T_isDueAt_114 (by decide) rfl (Nat.le_of_ble_eq_true rfl) kz) ?_
        dsimp only [List.set]
        refine jx_of (fun _ _ kz => jw_goto 2 d_T_isDueAt_117 (by decide) kz) ?_
        rw [nI_1]
        exact ih (k + 1) _ _ (by omega)
      · skip
        refine jx_of (fun _ _ kz => jw_aload_n 0 d_T_isDueAt_56 rfl rfl kz) ?_
        refine jx_of (fun _ _ kz => jw_getPe (some (14, t)) fl_T_28 d_T_isDueAt_57 rfl rfl (by simp [me_I_sI, me_I_sP, me_I_nx, me_P_sI, me_P_sP, me_P_nx, me_N_sI, me_N_sP, me_N_nx, me_L_sI, me_L_sP, me_L_nx, show me_P M 2 t 8 = some (14, t) from hT.1.2.1]) kz) ?_
        refine jx_of (fun _ _ kz => jw_iload_n 2 d_T_isDueAt_60 rfl rfl kz) ?_
        refine jx_of (fun _ _ kz => jw_ialde (_) d_T_isDueAt_61 rfl rfl (by rw [show me_L _ 14 t = 12 from (by simp [me_I_sI, me_I_sP, me_I_nx, me_P_sI, me_P_sP, me_P_nx, me_N_sI, me_N_sP, me_N_nx, me_L_sI, me_L_sP, me_L_nx, show me_L M 14 t = 12 from hT.1.2.2.2.2.1])]; exact (vp_in_nI (by omega) (by omega))) rfl kz) ?_
        refine jx_of (fun _ _ kz => jw_iconst 2 d_T_isDueAt_62 (by decide) kz) ?_
        refine jx_icmp_eq 80 d_T_isDueAt_63 (by decide) (fun b_63 => ?_) (fun b_63 => ?_)
        · skip
          refine jx_of (fun _ _ kz => jw_iconst 0 d_T_isDueAt_80 (by decide) kz) ?_
          refine jx_of (fun _ _ kz => jw_istore d_T_isDueAt_81 (Nat.le_of_ble_eq_true rfl) kz) ?_
          dsimp only [List.set]
          refine jx_of (fun _ _ kz => jw_iload_n 3 d_T_isDueAt_83 rfl rfl kz) ?_
          refine jx_if_eq 114 d_T_isDueAt_84 (by decide) (fun h => absurd h (by decide)) (fun _ => ?_)
          refine jx_of (fun _ _ kz => jw_iload d_T_isDueAt_87 rfl kz) ?_
          refine jx_if_eq 114 d_T_isDueAt_89 (by decide) (fun _ => ?_) (fun h => absurd h (by decide))
          refine jx_of (fun _ _ kz => jw_iincc 1 d_T_isDueAt_114 (by decide) rfl (Nat.le_of_ble_eq_true rfl) kz) ?_
          dsimp only [List.set]
          refine jx_of (fun _ _ kz => jw_goto 2 d_T_isDueAt_117 (by decide) kz) ?_
          rw [nI_1]
          exact ih (k + 1) _ _ (by omega)
        · skip
          refine jx_of (fun _ _ kz => jw_aload_n 0 d_T_isDueAt_66 rfl rfl kz) ?_
          refine jx_of (fun _ _ kz => jw_getPe (some (14, t)) fl_T_28 d_T_isDueAt_67 rfl rfl (by simp [me_I_sI, me_I_sP, me_I_nx, me_P_sI, me_P_sP, me_P_nx, me_N_sI, me_N_sP, me_N_nx, me_L_sI, me_L_sP, me_L_nx, show me_P M 2 t 8 = some (14, t) from hT.1.2.1]) kz) ?_
          refine jx_of (fun _ _ kz => jw_iload_n 2 d_T_isDueAt_70 rfl rfl kz) ?_
          refine jx_of (fun _ _ kz => jw_ialde (_) d_T_isDueAt_71 rfl rfl (by rw [show me_L _ 14 t = 12 from (by simp [me_I_sI, me_I_sP, me_I_nx, me_P_sI, me_P_sP, me_P_nx, me_N_sI, me_N_sP, me_N_nx, me_L_sI, me_L_sP, me_L_nx, show me_L M 14 t = 12 from hT.1.2.2.2.2.1])]; exact (vp_in_nI (by omega) (by omega))) rfl kz) ?_
          refine jx_of (fun _ _ kz => jw_iconst 4 d_T_isDueAt_72 (by decide) kz) ?_
          refine jx_icmp_eq 80 d_T_isDueAt_73 (by decide) (fun b_73 => ?_) (fun b_73 => ?_)
          · skip
            refine jx_of (fun _ _ kz => jw_iconst 0 d_T_isDueAt_80 (by decide) kz) ?_
            refine jx_of (fun _ _ kz => jw_istore d_T_isDueAt_81 (Nat.le_of_ble_eq_true rfl) kz) ?_
            dsimp only [List.set]
            refine jx_of (fun _ _ kz => jw_iload_n 3 d_T_isDueAt_83 rfl rfl kz) ?_
            refine jx_if_eq 114 d_T_isDueAt_84 (by decide) (fun h => absurd h (by decide)) (fun _ => ?_)
            refine jx_of (fun _ _ kz => jw_iload d_T_isDueAt_87 rfl kz) ?_
            refine jx_if_eq 114 d_T_isDueAt_89 (by decide) (fun _ => ?_) (fun h => absurd h (by decide))
            refine jx_of (fun _ _ kz => jw_iincc 1 d_T_isDueAt_114 (by decide) rfl (Nat.le_of_ble_eq_true rfl) kz) ?_
            dsimp only [List.set]
            refine jx_of (fun _ _ kz => jw_goto 2 d_T_isDueAt_117 (by decide) kz) ?_
            rw [nI_1]
            exact ih (k + 1) _ _ (by omega)
          · skip
            refine jx_of (fun _ _ kz => jw_iconst 1 d_T_isDueAt_76 (by decide) kz) ?_
            refine jx_of (fun _ _ kz => jw_goto 81 d_T_isDueAt_77 (by decide) kz) ?_
            refine jx_of (fun _ _ kz => jw_istore d_T_isDueAt_81 (Nat.le_of_ble_eq_true rfl) kz) ?_
            dsimp only [List.set]
            refine jx_of (fun _ _ kz => jw_iload_n 3 d_T_isDueAt_83 rfl rfl kz) ?_
            refine jx_if_eq 114 d_T_isDueAt_84 (by decide) (fun h => absurd h (by decide)) (fun _ => ?_)
            refine jx_of (fun _ _ kz => jw_iload d_T_isDueAt_87 rfl kz) ?_
            refine jx_if_eq 114 d_T_isDueAt_89 (by decide) (fun h => absurd h (by decide)) (fun _ => ?_)
            refine jx_of (fun _ _ kz => jw_iload_n 1 d_T_isDueAt_92 rfl rfl kz) ?_
            refine jx_of (fun _ _ kz => jw_aload_n 0 d_T_isDueAt_93 rfl rfl kz) ?_
            refine jx_of (fun _ _ kz => jw_getPe (some (16, t)) fl_T_35 d_T_isDueAt_94 rfl rfl (by simp [me_I_sI, me_I_sP, me_I_nx, me_P_sI, me_P_sP, me_P_nx, me_N_sI, me_N_sP, me_N_nx, me_L_sI, me_L_sP, me_L_nx, show me_P M 2 t 10 = some (16, t) from hT.1.2.2.2.1]) kz) ?_
            refine jx_of (fun _ _ kz => jw_iload_n 2 d_T_isDueAt_97 rfl rfl kz) ?_
            refine jx_of (fun _ _ kz => jw_ialde (_) d_T_isDueAt_98 rfl rfl (by rw [show me_L _ 16 t = 12 from (by simp [me_I_sI, me_I_sP, me_I_nx, me_P_sI, me_P_sP, me_P_nx, me_N_sI, me_N_sP, me_N_nx, me_L_sI, me_L_sP, me_L_nx, show me_L M 16 t = 12 from hT.1.2.2.2.2.2.2])]; exact (vp_in_nI (by omega) (by omega))) rfl kz) ?_
            refine jx_of (fun _ _ kz => jw_isub d_T_isDueAt_99 kz) ?_
            refine jx_of (fun _ _ kz => jw_aload_n 0 d_T_isDueAt_100 rfl rfl kz) ?_
            refine jx_of (fun _ _ kz => jw_getPe (some (1, p)) fl_T_44 d_T_isDueAt_101 rfl rfl (by simp [me_I_sI, me_I_sP, me_I_nx, me_P_sI, me_P_sP, me_P_nx, me_N_sI, me_N_sP, me_N_nx, me_L_sI, me_L_sP, me_L_nx, show me_P M 2 t 2 = some (1, p) from hT.1.1]) kz) ?_
            refine jx_of (fun _ _ kz => jw_getPe (some (12, p)) fl_T_67 d_T_isDueAt_104 rfl rfl (by simp [me_I_sI, me_I_sP, me_I_nx, me_P_sI, me_P_sP, me_P_nx, me_N_sI, me_N_sP, me_N_nx, me_L_sI, me_L_sP, me_L_nx, show me_P M 1 p 1 = some (12, p) from hT.2.1.2.1]) kz) ?_
            refine jx_of (fun _ _ kz => jw_iload_n 2 d_T_isDueAt_107 rfl rfl kz) ?_
            refine jx_of (fun _ _ kz => jw_ialde (_) d_T_isDueAt_108 rfl rfl (by rw [show me_L _ 12 p = 12 from (by simp [me_I_sI, me_I_sP, me_I_nx, me_P_sI, me_P_sP, me_P_nx, me_N_sI, me_N_sP, me_N_nx, me_L_sI, me_L_sP, me_L_nx, show me_L M 12 p = 12 from hT.2.1.2.2.2.2.1])]; exact (vp_in_nI (by omega) (by omega))) rfl kz) ?_
            refine jx_icmp_ne 114 d_T_isDueAt_109 (by decide) (fun b_109 => ?_) (fun b_109 => ?_)
            · skip
              refine jx_of (fun _ _ kz => jw_iincc 1 d_T_isDueAt_114 (by decide) rfl (Nat.le_of_ble_eq_true rfl) kz) ?_
              dsimp only [List.set]
              refine jx_of (fun _ _ kz => jw_goto 2 d_T_isDueAt_117 (by decide) kz) ?_
              rw [nI_1]
              exact ih (k + 1) _ _ (by omega)
            · skip
              refine jx_of (fun _ _ kz => jw_iconst 1 d_T_isDueAt_112 (by decide) kz) ?_
              refine jx_zret d_T_isDueAt_113 rfl (by decide) ?_
              exact ⟨by first | exact Or.inl rfl | exact Or.inr rfl, rfl⟩
    · skip
      refine jx_of (fun _ _ kz => jw_aload_n 0 d_T_isDueAt_26 rfl rfl kz) ?_
      refine jx_of (fun _ _ kz => jw_getPe (some (1, p)) fl_T_44 d_T_isDueAt_27 rfl rfl (by simp [me_I_sI, me_I_sP, me_I_nx, me_P_sI, me_P_sP, me_P_nx, me_N_sI, me_N_sP, me_N_nx, me_L_sI, me_L_sP, me_L_nx, show me_P M 2 t 2 = some (1, p) from hT.1.1]) kz) ?_
      refine jx_of (fun _ _ kz => jw_getPe (some (11, p)) fl_T_64 d_T_isDueAt_30 rfl rfl (by simp [me_I_sI, me_I_sP, me_I_nx, me_P_sI, me_P_sP, me_P_nx, me_N_sI, me_N_sP, me_N_nx, me_L_sI, me_L_sP, me_L_nx, show me_P M 1 p 0 = some (11, p) from hT.2.1.1]) kz) ?_
      refine jx_of (fun _ _ kz => jw_iload_n 2 d_T_isDueAt_33 rfl rfl kz) ?_
      refine jx_of (fun _ _ kz => jw_ialde (_) d_T_isDueAt_34 rfl rfl (by rw [show me_L _ 11 p = 12 from (by simp [me_I_sI, me_I_sP, me_I_nx, me_P_sI, me_P_sP, me_P_nx, me_N_sI, me_N_sP, me_N_nx, me_L_sI, me_L_sP, me_L_nx, show me_L M 11 p = 12 from hT.2.1.2.2.2.1])]; exact (vp_in_nI (by omega) (by omega))) rfl kz) ?_
      refine jx_of (fun _ _ kz => jw_bipush 13 d_T_isDueAt_35 (by decide) kz) ?_
      refine jx_icmp_ne 44 d_T_isDueAt_37 (by decide) (fun b_37 => ?_) (fun b_37 => ?_)
      · skip
        refine jx_of (fun _ _ kz => jw_iconst 0 d_T_isDueAt_44 (by decide) kz) ?_
        refine jx_of (fun _ _ kz => jw_istore_n 3 d_T_isDueAt_45 rfl (Nat.le_of_ble_eq_true rfl) kz) ?_
        dsimp only [List.set]
        refine jx_of (fun _ _ kz => jw_aload_n 0 d_T_isDueAt_46 rfl rfl kz) ?_
        refine jx_of (fun _ _ kz => jw_getPe (some (16, t)) fl_T_35 d_T_isDueAt_47 rfl rfl (by simp [me_I_sI, me_I_sP, me_I_nx, me_P_sI, me_P_sP, me_P_nx, me_N_sI, me_N_sP, me_N_nx, me_L_sI, me_L_sP, me_L_nx, show me_P M 2 t 10 = some (16, t) from hT.1.2.2.2.1]) kz) ?_
        refine jx_of (fun _ _ kz => jw_iload_n 2 d_T_isDueAt_50 rfl rfl kz) ?_
        refine jx_of (fun _ _ kz => jw_ialde (_) d_T_isDueAt_51 rfl rfl (by rw [show me_L _ 16 t = 12 from (by simp [me_I_sI, me_I_sP, me_I_nx, me_P_sI, me_P_sP, me_P_nx, me_N_sI, me_N_sP, me_N_nx, me_L_sI, me_L_sP, me_L_nx, show me_L M 16 t = 12 from hT.1.2.2.2.2.2.2])]; exact (vp_in_nI (by omega) (by omega))) rfl kz) ?_
        refine jx_of (fun _ _ kz => jw_iconst (-1) d_T_isDueAt_52 (by decide) kz) ?_
        refine jx_icmp_eq 80 d_T_isDueAt_53 (by decide) (fun b_53 => ?_) (fun b_53 => ?_)
        · skip
          refine jx_of (fun _ _ kz => jw_iconst 0 d_T_isDueAt_80 (by decide) kz) ?_
          refine jx_of (fun _ _ kz => jw_istore d_T_isDueAt_81 (Nat.le_of_ble_eq_true rfl) kz) ?_
          dsimp only [List.set]
          refine jx_of (fun _ _ kz => jw_iload_n 3 d_T_isDueAt_83 rfl rfl kz) ?_
          refine jx_if_eq 114 d_T_isDueAt_84 (by decide) (fun _ => ?_) (fun h => absurd h (by decide))
          refine jx_of (fun _ _ kz => jw_iincc 1 d_T_isDueAt_114 (by decide) rfl (Nat.le_of_ble_eq_true rfl) kz) ?_
          dsimp only [List.set]
          refine jx_of (fun _ _ kz => jw_goto 2 d_T_isDueAt_117 (by decide) kz) ?_
          rw [nI_1]
          exact ih (k + 1) _ _ (by omega)
        · skip
          refine jx_of (fun _ _ kz => jw_aload_n 0 d_T_isDueAt_56 rfl rfl kz) ?_
          refine jx_of (fun _ _ kz => jw_getPe (some (14, t)) fl_T_28 d_T_isDueAt_57 rfl rfl (by simp [me_I_sI, me_I_sP, me_I_nx, me_P_sI, me_P_sP, me_P_nx, me_N_sI, me_N_sP, me_N_nx, me_L_sI, me_L_sP, me_L_nx, show me_P M 2 t 8 = some (14, t) from hT.1.2.1]) kz) ?_
          refine jx_of (fun _ _ kz => jw_iload_n 2 d_T_isDueAt_60 rfl rfl kz) ?_
          refine jx_of (fun _ _ kz => jw_ialde (_) d_T_isDueAt_61 rfl rfl (by rw [show me_L _ 14 t = 12 from (by simp [me_I_sI, me_I_sP, me_I_nx, me_P_sI, me_P_sP, me_P_nx, me_N_sI, me_N_sP, me_N_nx, me_L_sI, me_L_sP, me_L_nx, show me_L M 14 t = 12 from hT.1.2.2.2.2.1])]; exact (vp_in_nI (by omega) (by omega))) rfl kz) ?_
          refine jx_of (fun _ _ kz => jw_iconst 2 d_T_isDueAt_62 (by decide) kz) ?_
          refine jx_icmp_eq 80 d_T_isDueAt_63 (by decide) (fun b_63 => ?_) (fun b_63 => ?_)
          · skip
            refine jx_of (fun _ _ kz => jw_iconst 0 d_T_isDueAt_80 (by decide) kz) ?_
            refine jx_of (fun _ _ kz => jw_istore d_T_isDueAt_81 (Nat.le_of_ble_eq_true rfl) kz) ?_
            dsimp only [List.set]
            refine jx_of (fun _ _ kz => jw_iload_n 3 d_T_isDueAt_83 rfl rfl kz) ?_
            refine jx_if_eq 114 d_T_isDueAt_84 (by decide) (fun _ => ?_) (fun h => absurd h (by decide))
            refine jx_of (fun _ _ kz => jw_iincc 1 d_T_isDueAt_114 (by decide) rfl (Nat.le_of_ble_eq_true rfl) kz) ?_
            dsimp only [List.set]
            refine jx_of (fun _ _ kz => jw_goto 2 d_T_isDueAt_117 (by decide) kz) ?_
            rw [nI_1]
            exact ih (k + 1) _ _ (by omega)
          · skip
            refine jx_of (fun _ _ kz => jw_aload_n 0 d_T_isDueAt_66 rfl rfl kz) ?_
            refine jx_of (fun _ _ kz => jw_getPe (some (14, t)) fl_T_28 d_T_isDueAt_67 rfl rfl (by simp [me_I_sI, me_I_sP, me_I_nx, me_P_sI, me_P_sP, me_P_nx, me_N_sI, me_N_sP, me_N_nx, me_L_sI, me_L_sP, me_L_nx, show me_P M 2 t 8 = some (14, t) from hT.1.2.1]) kz) ?_
            refine jx_of (fun _ _ kz => jw_iload_n 2 d_T_isDueAt_70 rfl rfl kz) ?_
            refine jx_of (fun _ _ kz => jw_ialde (_) d_T_isDueAt_71 rfl rfl (by rw [show me_L _ 14 t = 12 from (by simp [me_I_sI, me_I_sP, me_I_nx, me_P_sI, me_P_sP, me_P_nx, me_N_sI, me_N_sP, me_N_nx, me_L_sI, me_L_sP, me_L_nx, show me_L M 14 t = 12 from hT.1.2.2.2.2.1])]; exact (vp_in_nI (by omega) (by omega))) rfl kz) ?_
            refine jx_of (fun _ _ kz => jw_iconst 4 d_T_isDueAt_72 (by decide) kz) ?_
            refine jx_icmp_eq 80 d_T_isDueAt_73 (by decide) (fun b_73 => ?_) (fun b_73 => ?_)
            · skip
              refine jx_of (fun _ _ kz => jw_iconst 0 d_T_isDueAt_80 (by decide) kz) ?_
              refine jx_of (fun _ _ kz => jw_istore d_T_isDueAt_81 (Nat.le_of_ble_eq_true rfl) kz) ?_
              dsimp only [List.set]
              refine jx_of (fun _ _ kz => jw_iload_n 3 d_T_isDueAt_83 rfl rfl kz) ?_
              refine jx_if_eq 114 d_T_isDueAt_84 (by decide) (fun _ => ?_) (fun h => absurd h (by decide))
              refine jx_of (fun _ _ kz => jw_iincc 1 d_T_isDueAt_114 (by decide) rfl (Nat.le_of_ble_eq_true rfl) kz) ?_
              dsimp only [List.set]
              refine jx_of (fun _ _ kz => jw_goto 2 d_T_isDueAt_117 (by decide) kz) ?_
              rw [nI_1]
              exact ih (k + 1) _ _ (by omega)
            · skip
              refine jx_of (fun _ _ kz => jw_iconst 1 d_T_isDueAt_76 (by decide) kz) ?_
              refine jx_of (fun _ _ kz => jw_goto 81 d_T_isDueAt_77 (by decide) kz) ?_
              refine jx_of (fun _ _ kz => jw_istore d_T_isDueAt_81 (Nat.le_of_ble_eq_true rfl) kz) ?_
              dsimp only [List.set]
              refine jx_of (fun _ _ kz => jw_iload_n 3 d_T_isDueAt_83 rfl rfl kz) ?_
              refine jx_if_eq 114 d_T_isDueAt_84 (by decide) (fun _ => ?_) (fun h => absurd h (by decide))
              refine jx_of (fun _ _ kz => jw_iincc 1 d_T_isDueAt_114 (by decide) rfl (Nat.le_of_ble_eq_true rfl) kz) ?_
              dsimp only [List.set]
              refine jx_of (fun _ _ kz => jw_goto 2 d_T_isDueAt_117 (by decide) kz) ?_
              rw [nI_1]
              exact ih (k + 1) _ _ (by omega)
      · skip
        refine jx_of (fun _ _ kz => jw_iconst 1 d_T_isDueAt_40 (by decide) kz) ?_
        refine jx_of (fun _ _ kz => jw_goto 45 d_T_isDueAt_41 (by decide) kz) ?_
        refine jx_of (fun _ _ kz => jw_istore_n 3 d_T_isDueAt_45 rfl (Nat.le_of_ble_eq_true rfl) kz) ?_
        dsimp only [List.set]
        refine jx_of (fun _ _ kz => jw_aload_n 0 d_T_isDueAt_46 rfl rfl kz) ?_
        refine jx_of (fun _ _ kz => jw_getPe (some (16, t)) fl_T_35 d_T_isDueAt_47 rfl rfl (by simp [me_I_sI, me_I_sP, me_I_nx, me_P_sI, me_P_sP, me_P_nx, me_N_sI, me_N_sP, me_N_nx, me_L_sI, me_L_sP, me_L_nx, show me_P M 2 t 10 = some (16, t) from hT.1.2.2.2.1]) kz) ?_
        refine jx_of (fun _ _ kz => jw_iload_n 2 d_T_isDueAt_50 rfl rfl kz) ?_
        refine jx_of (fun _ _ kz => jw_ialde (_) d_T_isDueAt_51 rfl rfl (by rw [show me_L _ 16 t = 12 from (by simp [me_I_sI, me_I_sP, me_I_nx, me_P_sI, me_P_sP, me_P_nx, me_N_sI, me_N_sP, me_N_nx, me_L_sI, me_L_sP, me_L_nx, show me_L M 16 t = 12 from hT.1.2.2.2.2.2.2])]; exact (vp_in_nI (by omega) (by omega))) rfl kz) ?_
        refine jx_of (fun _ _ kz => jw_iconst (-1) d_T_isDueAt_52 (by decide) kz) ?_
        refine jx_icmp_eq 80 d_T_isDueAt_53 (by decide) (fun b_53 => ?_) (fun b_53 => ?_)
        · skip
          refine jx_of (fun _ _ kz => jw_iconst 0 d_T_isDueAt_80 (by decide) kz) ?_
          refine jx_of (fun _ _ kz => jw_istore d_T_isDueAt_81 (Nat.le_of_ble_eq_true rfl) kz) ?_
          dsimp only [List.set]
          refine jx_of (fun _ _ kz => jw_iload_n 3 d_T_isDueAt_83 rfl rfl kz) ?_
          refine jx_if_eq 114 d_T_isDueAt_84 (by decide) (fun h => absurd h (by decide)) (fun _ => ?_)
          refine jx_of (fun _ _ kz => jw_iload d_T_isDueAt_87 rfl kz) ?_
          refine jx_if_eq 114 d_T_isDueAt_89 (by decide) (fun _ => ?_) (fun h => absurd h (by decide))
          refine jx_of (fun _ _ kz => jw_iincc 1 d_T_isDueAt_114 (by decide) rfl (Nat.le_of_ble_eq_true rfl) kz) ?_
          dsimp only [List.set]
          refine jx_of (fun _ _ kz => jw_goto 2 d_T_isDueAt_117 (by decide) kz) ?_
          rw [nI_1]
          exact ih (k + 1) _ _ (by omega)
        · skip
          refine jx_of (fun _ _ kz => jw_aload_n 0 d_T_isDueAt_56 rfl rfl kz) ?_
          refine jx_of (fun _ _ kz => jw_getPe (some (14, t)) fl_T_28 d_T_isDueAt_57 rfl rfl (by simp [me_I_sI, me_I_sP, me_I_nx, me_P_sI, me_P_sP, me_P_nx, me_N_sI, me_N_sP, me_N_nx, me_L_sI, me_L_sP, me_L_nx, show me_P M 2 t 8 = some (14, t) from hT.1.2.1]) kz) ?_
          refine jx_of (fun _ _ kz => jw_iload_n 2 d_T_isDueAt_60 rfl rfl kz) ?_
          refine jx_of (fun _ _ kz => jw_ialde (_) d_T_isDueAt_61 rfl rfl (by rw [show me_L _ 14 t = 12 from (by simp [me_I_sI, me_I_sP, me_I_nx, me_P_sI, me_P_sP, me_P_nx, me_N_sI, me_N_sP, me_N_nx, me_L_sI, me_L_sP, me_L_nx, show me_L M 14 t = 12 from hT.1.2.2.2.2.1])]; exact (vp_in_nI (by omega) (by omega))) rfl kz) ?_
          refine jx_of (fun _ _ kz => jw_iconst 2 d_T_isDueAt_62 (by decide) kz) ?_
          refine jx_icmp_eq 80 d_T_isDueAt_63 (by decide) (fun b_63 => ?_) (fun b_63 => ?_)
          · skip
            refine jx_of (fun _ _ kz => jw_iconst 0 d_T_isDueAt_80 (by decide) kz) ?_
            refine jx_of (fun _ _ kz => jw_istore d_T_isDueAt_81 (Nat.le_of_ble_eq_true rfl) kz) ?_
            dsimp only [List.set]
            refine jx_of (fun _ _ kz => jw_iload_n 3 d_T_isDueAt_83 rfl rfl kz) ?_
            refine jx_if_eq 114 d_T_isDueAt_84 (by decide) (fun h => absurd h (by decide)) (fun _ => ?_)
            refine jx_of (fun _ _ kz => jw_iload d_T_isDueAt_87 rfl kz) ?_
            refine jx_if_eq 114 d_T_isDueAt_89 (by decide) (fun _ => ?_) (fun h => absurd h (by decide))
            refine jx_of (fun _ _ kz => jw_iincc 1 d_T_isDueAt_114 (by decide) rfl (Nat.le_of_ble_eq_true rfl) kz) ?_
            dsimp only [List.set]
            refine jx_of (fun _ _ kz => jw_goto 2 d_T_isDueAt_117 (by decide) kz) ?_
            rw [nI_1]
            exact ih (k + 1) _ _ (by omega)
          · skip
            refine jx_of (fun _ _ kz => jw_aload_n 0 d_T_isDueAt_66 rfl rfl kz) ?_
            refine jx_of (fun _ _ kz => jw_getPe (some (14, t)) fl_T_28 d_T_isDueAt_67 rfl rfl (by simp [me_I_sI, me_I_sP, me_I_nx, me_P_sI, me_P_sP, me_P_nx, me_N_sI, me_N_sP, me_N_nx, me_L_sI, me_L_sP, me_L_nx, show me_P M 2 t 8 = some (14, t) from hT.1.2.1]) kz) ?_
            refine jx_of (fun _ _ kz => jw_iload_n 2 d_T_isDueAt_70 rfl rfl kz) ?_
            refine jx_of (fun _ _ kz => jw_ialde (_) d_T_isDueAt_71 rfl rfl (by rw [show me_L _ 14 t = 12 from (by simp [me_I_sI, me_I_sP, me_I_nx, me_P_sI, me_P_sP, me_P_nx, me_N_sI, me_N_sP, me_N_nx, me_L_sI, me_L_sP, me_L_nx, show me_L M 14 t = 12 from hT.1.2.2.2.2.1])]; exact (vp_in_nI (by omega) (by omega))) rfl kz) ?_
            refine jx_of (fun _ _ kz => jw_iconst 4 d_T_isDueAt_72 (by decide) kz) ?_
            refine jx_icmp_eq 80 d_T_isDueAt_73 (by decide) (fun b_73 => ?_) (fun b_73 => ?_)
            · skip
              refine jx_of (fun _ _ kz => jw_iconst 0 d_T_isDueAt_80 (by decide) kz) ?_
              refine jx_of (fun _ _ kz => jw_istore d_T_isDueAt_81 (Nat.le_of_ble_eq_true rfl) kz) ?_
              dsimp only [List.set]
              refine jx_of (fun _ _ kz => jw_iload_n 3 d_T_isDueAt_83 rfl rfl kz) ?_
              refine jx_if_eq 114 d_T_isDueAt_84 (by decide) (fun h => absurd h (by decide)) (fun _ => ?_)
              refine jx_of (fun _ _ kz => jw_iload d_T_isDueAt_87 rfl kz) ?_
              refine jx_if_eq 114 d_T_isDueAt_89 (by decide) (fun _ => ?_) (fun h => absurd h (by decide))
              refine jx_of (fun _ _ kz => jw_iincc 1 d_T_isDueAt_114 (by decide) rfl (Nat.le_of_ble_eq_true rfl) kz) ?_
              dsimp only [List.set]
              refine jx_of (fun _ _ kz => jw_goto 2 d_T_isDueAt_117 (by decide) kz) ?_
              rw [nI_1]
              exact ih (k + 1) _ _ (by omega)
            · skip
              refine jx_of (fun _ _ kz => jw_iconst 1 d_T_isDueAt_76 (by decide) kz) ?_
              refine jx_of (fun _ _ kz => jw_goto 81 d_T_isDueAt_77 (by decide) kz) ?_
              refine jx_of (fun _ _ kz => jw_istore d_T_isDueAt_81 (Nat.le_of_ble_eq_true rfl) kz) ?_
              dsimp only [List.set]
              refine jx_of (fun _ _ kz => jw_iload_n 3 d_T_isDueAt_83 rfl rfl kz) ?_
              refine jx_if_eq 114 d_T_isDueAt_84 (by decide) (fun h => absurd h (by decide)) (fun _ => ?_)
              refine jx_of (fun _ _ kz => jw_iload d_T_isDueAt_87 rfl kz) ?_
              refine jx_if_eq 114 d_T_isDueAt_89 (by decide) (fun h => absurd h (by decide)) (fun _ => ?_)
              refine jx_of (fun _ _ kz => jw_iload_n 1 d_T_isDueAt_92 rfl rfl kz) ?_
              refine jx_of (fun _ _ kz => jw_aload_n 0 d_T_isDueAt_93 rfl rfl kz) ?_
              refine jx_of (fun _ _ kz => jw_getPe (some (16, t)) fl_T_35 d_T_isDueAt_94 rfl rfl (by simp [me_I_sI, me_I_sP, me_I_nx, me_P_sI, me_P_sP, me_P_nx, me_N_sI, me_N_sP, me_N_nx, me_L_sI, me_L_sP, me_L_nx, show me_P M 2 t 10 = some (16, t) from hT.1.2.2.2.1]) kz) ?_
              refine jx_of (fun _ _ kz => jw_iload_n 2 d_T_isDueAt_97 rfl rfl kz) ?_
              refine jx_of (fun _ _ kz => jw_ialde (_) d_T_isDueAt_98 rfl rfl (by rw [show me_L _ 16 t = 12 from (by simp [me_I_sI, me_I_sP, me_I_nx, me_P_sI, me_P_sP, me_P_nx, me_N_sI, me_N_sP, me_N_nx, me_L_sI, me_L_sP, me_L_nx, show me_L M 16 t = 12 from hT.1.2.2.2.2.2.2])]; exact (vp_in_nI (by omega) (by omega))) rfl kz) ?_
              refine jx_of (fun _ _ kz => jw_isub d_T_isDueAt_99 kz) ?_
              refine jx_of (fun _ _ kz => jw_aload_n 0 d_T_isDueAt_100 rfl rfl kz) ?_
              refine jx_of (fun _ _ kz => jw_getPe (some (1, p)) fl_T_44 d_T_isDueAt_101 rfl rfl (by simp [me_I_sI, me_I_sP, me_I_nx, me_P_sI, me_P_sP, me_P_nx, me_N_sI, me_N_sP, me_N_nx, me_L_sI, me_L_sP, me_L_nx, show me_P M 2 t 2 = some (1, p) from hT.1.1]) kz) ?_
              refine jx_of (fun _ _ kz => jw_getPe (some (12, p)) fl_T_67 d_T_isDueAt_104 rfl rfl (by simp [me_I_sI, me_I_sP, me_I_nx, me_P_sI, me_P_sP, me_P_nx, me_N_sI, me_N_sP, me_N_nx, me_L_sI, me_L_sP, me_L_nx, show me_P M 1 p 1 = some (12, p) from hT.2.1.2.1]) kz) ?_
              refine jx_of (fun _ _ kz => jw_iload_n 2 d_T_isDueAt_107 rfl rfl kz) ?_
              refine jx_of (fun _ _ kz => jw_ialde (_) d_T_isDueAt_108 rfl rfl (by rw [show me_L _ 12 p = 12 from (by simp [me_I_sI, me_I_sP, me_I_nx, me_P_sI, me_P_sP, me_P_nx, me_N_sI, me_N_sP, me_N_nx, me_L_sI, me_L_sP, me_L_nx, show me_L M 12 p = 12 from hT.2.1.2.2.2.2.1])]; exact (vp_in_nI (by omega) (by omega))) rfl kz) ?_
              refine jx_icmp_ne 114 d_T_isDueAt_109 (by decide) (fun b_109 => ?_) (fun b_109 => ?_)
              · skip
                refine jx_of (fun _ _ kz => jw_iincc 1 d_T_isDueAt_114 (by decide) rfl (Nat.le_of_ble_eq_true rfl) kz) ?_
                dsimp only [List.set]
                refine jx_of (fun _ _ kz => jw_goto 2 d_T_isDueAt_117 (by decide) kz) ?_
                rw [nI_1]
                exact ih (k + 1) _ _ (by omega)
              · skip
                refine jx_of (fun _ _ kz => jw_iconst 1 d_T_isDueAt_112 (by decide) kz) ?_
                refine jx_zret d_T_isDueAt_113 rfl (by decide) ?_
                exact ⟨by first | exact Or.inl rfl | exact Or.inr rfl, rfl⟩
set_option maxRecDepth 20000 in
set_option maxHeartbeats 4000000 in
theorem y_T_isDueAt {G : Gt} {M : Me} (d : Nat) (t : Nat) (p : Nat) (n : Nat) (o : Nat → Nat) (x : Int32) (hT : tO M t p n o) : sx G yt_T_isDueAt yn_T_isDueAt (d + 3) [.inr (some (2, t)), .inl x] M (fun r M' => (r = some (.inl 0) ∨ r = some (.inl 1)) ∧ M = M') := by
  refine sx_of (k := 3) (lc := [some (.inr (some (2, t))), some (.inl x), none, none, none]) mt_T_isDueAt (Nat.le_of_ble_eq_true rfl) rfl ?_
  refine jx_of (fun _ _ kz => jw_iconst 0 d_T_isDueAt_0 (by decide) kz) ?_
  refine jx_of (fun _ _ kz => jw_istore_n 2 d_T_isDueAt_1 rfl (Nat.le_of_ble_eq_true rfl) kz) ?_
  dsimp only [List.set]
  exact y_T_isDueAt_l d t p n o x hT _ _ n 0 none none (by omega)
