theorem yw {M : Me} {np nt w : Nat} (h : yI M np nt) (hw : w < 3) : me_P M 3 w 1 = some (4, w) := by
  rcases w3 hw with rfl | rfl | rfl
  · exact h.1.1 (3, 0, 1, 4, 0) (by decide)
  · exact h.1.1 (3, 1, 1, 4, 1) (by decide)
  · exact h.1.1 (3, 2, 1, 4, 2) (by decide)
theorem rc4 {i : Nat} {M M' : Me} (h : rc i M M') (hi : i ≠ 4) : me_I M' 4 4 1 = me_I M 4 4 1 := h.2 4 4 1 (by omega) (by omega)
theorem rO_k {i s j k : Nat} {v : Int32} {M : Me} (h : rO M i) (hs : s ≠ 4) : rO (me_sI M s j k v) i := ⟨h.1, h.2.1, by rw [me_I_sI, if_neg (by omega)]; exact h.2.2⟩
theorem yI_k {M : Me} {np nt s j k : Nat} {v : Int32} (h : yI M np nt) (hs : (s = 3 ∧ k ≠ 0) ∨ s = 5 ∨ s = 6 ∨ (s = 0 ∧ (k = 11 ∨ k = 12))) : yI (me_sI M s j k v) np nt := yI_yk h (yk_sI yk_rf hs) (fun i hi => rO_k (h.1.2.2 i hi) (by omega))
set_option maxRecDepth 20000 in
set_option maxHeartbeats 4000000 in
theorem y_Y_pushToRing {G : Gt} {M : Me} (d : Nat) (w : Nat) (x : Int32) (np : Nat) (nt : Nat) (hY : yI M np nt) (hw : w < 3) : sx G yt_Y_pushToRing yn_Y_pushToRing (d + 3) [.inr (some (0, 0)), .inr (some (3, w)), .inl x] M (fun r M' => r = none ∧ yI M' np nt ∧ yk M M' ∧ me_I M' 4 4 1 = me_I M 4 4 1) := by
  refine sx_of (k := 0) (lc := [some (.inr (some (0, 0))), some (.inr (some (3, w))), some (.inl x)]) mt_Y_pushToRing (Nat.le_of_ble_eq_true rfl) rfl ?_
  refine jx_of (fun _ _ kz => jw_aload_n 1 d_Y_pushToRing_0 rfl rfl kz) ?_
  refine jx_of (fun _ _ kz => jw_getPe (some (4, w)) fl_Y_165 d_Y_pushToRing_1 rfl rfl (by simp [me_I_sI, me_I_sP, me_I_nx, me_P_sI, me_P_sP, me_P_nx, me_N_sI, me_N_sP, me_N_nx, me_L_sI, me_L_sP, me_L_nx, show me_P M 3 w 1 = some (4, w) from yw hY hw]) kz) ?_
  refine jx_of (fun _ _ kz => jw_getIe (me_I M 4 w 1) fl_Y_168 d_Y_pushToRing_4 rfl rfl rfl kz) ?_
  refine jx_of (fun _ _ kz => jw_iconst 4 d_Y_pushToRing_7 (by decide) kz) ?_
  refine jx_icmp_ge 20 d_Y_pushToRing_8 (by decide) (fun b_8 => ?_) (fun b_8 => ?_)
  · skip
    refine jx_of (fun _ _ kz => jw_aload_n 0 d_Y_pushToRing_20 rfl rfl kz) ?_
    refine jx_of (fun _ _ kz => jw_getPe (some (4, 3)) fl_Y_45 d_Y_pushToRing_21 rfl rfl (by simp [me_I_sI, me_I_sP, me_I_nx, me_P_sI, me_P_sP, me_P_nx, me_N_sI, me_N_sP, me_N_nx, me_L_sI, me_L_sP, me_L_nx, show me_P M 0 0 6 = some (4, 3) from hY.1.1 (0, 0, 6, 4, 3) (by decide)]) kz) ?_
    refine jx_of (fun _ _ kz => jw_aload_n 1 d_Y_pushToRing_24 rfl rfl kz) ?_
    refine jx_of (fun _ _ kz => jw_getPe (some (4, w)) fl_Y_165 d_Y_pushToRing_25 rfl rfl (by simp [me_I_sI, me_I_sP, me_I_nx, me_P_sI, me_P_sP, me_P_nx, me_N_sI, me_N_sP, me_N_nx, me_L_sI, me_L_sP, me_L_nx, show me_P M 3 w 1 = some (4, w) from yw hY hw]) kz) ?_
    refine jx_callV (y_R_takeFirst d w (hY.1.2.2 w (by omega))) mt_R_takeFirst cf_R rfl rfl ml_Y_231 im_R_takeFirst se_R_takeFirst d_Y_pushToRing_28 rfl rfl (Nat.le_of_ble_eq_true rfl) ?_
    rintro _ M1 ⟨⟨v1, rfl⟩, rM1, cM1⟩
    have h1 := yI_rc hY cM1 rM1
    refine jx_eq (st2 := [.inl v1, .inr (some (4, 3))]) rfl rfl rfl ?_
    refine jx_callV (y_R_add (d + 1) 3 v1 (h1.1.2.2 3 (by omega))) mt_R_add cf_R rfl rfl ml_Y_210 im_R_add se_R_add d_Y_pushToRing_31 rfl rfl (Nat.le_of_ble_eq_true rfl) ?_
    rintro _ M2 ⟨rfl, rM2, cM2⟩
    have h2 := yI_rc h1 cM2 rM2
    refine jx_eq (st2 := []) rfl rfl rfl ?_
    refine jx_of (fun _ _ kz => jw_aload_n 0 d_Y_pushToRing_34 rfl rfl kz) ?_
    refine jx_of (fun _ _ kz => jw_getPe (some (4, 3)) fl_Y_45 d_Y_pushToRing_35 rfl rfl (by simp [me_I_sI, me_I_sP, me_I_nx, me_P_sI, me_P_sP, me_P_nx, me_N_sI, me_N_sP, me_N_nx, me_L_sI, me_L_sP, me_L_nx, show me_P M2 0 0 6 = some (4, 3) from h2.1.1 (0, 0, 6, 4, 3) (by decide)]) kz) ?_
    refine jx_of (fun _ _ kz => jw_aload_n 1 d_Y_pushToRing_38 rfl rfl kz) ?_
    refine jx_of (fun _ _ kz => jw_getPe (some (4, w)) fl_Y_165 d_Y_pushToRing_39 rfl rfl (by simp [me_I_sI, me_I_sP, me_I_nx, me_P_sI, me_P_sP, me_P_nx, me_N_sI, me_N_sP, me_N_nx, me_L_sI, me_L_sP, me_L_nx, show me_P M2 3 w 1 = some (4, w) from yw h2 hw]) kz) ?_
    refine jx_callV (y_R_takeFirst d w (h2.1.2.2 w (by omega))) mt_R_takeFirst cf_R rfl rfl ml_Y_231 im_R_takeFirst se_R_takeFirst d_Y_pushToRing_42 rfl rfl (Nat.le_of_ble_eq_true rfl) ?_
    rintro _ M3 ⟨⟨v3, rfl⟩, rM3, cM3⟩
    have h3 := yI_rc h2 cM3 rM3
    refine jx_eq (st2 := [.inl v3, .inr (some (4, 3))]) rfl rfl rfl ?_
    refine jx_callV (y_R_add (d + 1) 3 v3 (h3.1.2.2 3 (by omega))) mt_R_add cf_R rfl rfl ml_Y_210 im_R_add se_R_add d_Y_pushToRing_45 rfl rfl (Nat.le_of_ble_eq_true rfl) ?_
    rintro _ M4 ⟨rfl, rM4, cM4⟩
    have h4 := yI_rc h3 cM4 rM4
    refine jx_eq (st2 := []) rfl rfl rfl ?_
    refine jx_of (fun _ _ kz => jw_aload_n 0 d_Y_pushToRing_48 rfl rfl kz) ?_
    refine jx_of (fun _ _ kz => jw_getPe (some (4, 3)) fl_Y_45 d_Y_pushToRing_49 rfl rfl (by simp [me_I_sI, me_I_sP, me_I_nx, me_P_sI, me_P_sP, me_P_nx, me_N_sI, me_N_sP, me_N_nx, me_L_sI, me_L_sP, me_L_nx, show me_P M4 0 0 6 = some (4, 3) from h4.1.1 (0, 0, 6, 4, 3) (by decide)]) kz) ?_
    refine jx_of (fun _ _ kz => jw_iload_n 2 d_Y_pushToRing_52 rfl rfl kz) ?_
    refine jx_callV (y_R_add (d + 1) 3 x (h4.1.2.2 3 (by omega))) mt_R_add cf_R rfl rfl ml_Y_210 im_R_add se_R_add d_Y_pushToRing_53 rfl rfl (Nat.le_of_ble_eq_true rfl) ?_
    rintro _ M5 ⟨rfl, rM5, cM5⟩
    have h5 := yI_rc h4 cM5 rM5
    refine jx_eq (st2 := []) rfl rfl rfl ?_
    refine jx_vret d_Y_pushToRing_56 rfl ?_
    exact ⟨rfl, h5, yk_tr (yk_tr (yk_tr (yk_tr (yk_rc cM1) (yk_rc cM2)) (yk_rc cM3)) (yk_rc cM4)) (yk_rc cM5), (rc4 cM5 (by omega)).trans ((rc4 cM4 (by omega)).trans ((rc4 cM3 (by omega)).trans ((rc4 cM2 (by omega)).trans (rc4 cM1 (by omega)))))⟩
  · skip
    refine jx_of (fun _ _ kz => jw_aload_n 1 d_Y_pushToRing_11 rfl rfl kz) ?_
    refine jx_of (fun _ _ kz => jw_getPe (some (4, w)) fl_Y_165 d_Y_pushToRing_12 rfl rfl (by simp [me_I_sI, me_I_sP, me_I_nx, me_P_sI, me_P_sP, me_P_nx, me_N_sI, me_N_sP, me_N_nx, me_L_sI, me_L_sP, me_L_nx, show me_P M 3 w 1 = some (4, w) from yw hY hw]) kz) ?_
    refine jx_of (fun _ _ kz => jw_iload_n 2 d_Y_pushToRing_15 rfl rfl kz) ?_
    refine jx_callV (y_R_add (d + 1) w x (hY.1.2.2 w (by omega))) mt_R_add cf_R rfl rfl ml_Y_210 im_R_add se_R_add d_Y_pushToRing_16 rfl rfl (Nat.le_of_ble_eq_true rfl) ?_
    rintro _ M1 ⟨rfl, rM1, cM1⟩
    have h1 := yI_rc hY cM1 rM1
    refine jx_eq (st2 := []) rfl rfl rfl ?_
    refine jx_vret d_Y_pushToRing_19 rfl ?_
    exact ⟨rfl, h1, yk_rc cM1, rc4 cM1 (by omega)⟩
set_option maxRecDepth 20000 in
set_option maxHeartbeats 4000000 in
theorem y_Y_sw_l {G : Gt} {M : Me} (d n w np nt : Nat) (h12 : n ≤ 144) (hw : w < 3) (c0 s0 : Nat) : ∀ (m k : Nat) (M1 : Me), k + m = n → yI M1 np nt → yk M M1 → me_I M1 4 4 1 = nI n → jx G yt_Y_slotWoken (d + 4) c0 s0 M1 2 [some (.inr (some (0, 0))), some (.inr (some (3, w))), some (.inl (nI k))] [] (fun r M' => r = none ∧ yI M' np nt ∧ yk M M') := by
  intro m
  induction m with
  | zero =>
    intro k M1 hk hY1 hk1 hs
    refine jx_of (fun _ _ kz => jw_iload_n 2 d_Y_slotWoken_2 rfl rfl kz) ?_
    refine jx_of (fun _ _ kz => jw_aload_n 0 d_Y_slotWoken_3 rfl rfl kz) ?_
    refine jx_of (fun _ _ kz => jw_getPe (some (4, 4)) fl_Y_49 d_Y_slotWoken_4 rfl rfl (by simp [me_I_sI, me_I_sP, me_I_nx, me_P_sI, me_P_sP, me_P_nx, me_N_sI, me_N_sP, me_N_nx, me_L_sI, me_L_sP, me_L_nx, show me_P M1 0 0 7 = some (4, 4) from hY1.1.1 (0, 0, 7, 4, 4) (by decide)]) kz) ?_
    refine jx_of (fun _ _ kz => jw_getIe (nI n) fl_Y_168 d_Y_slotWoken_7 rfl rfl hs kz) ?_
    refine jx_icmp_ge 48 d_Y_slotWoken_10 (by decide) (fun _ => ?_) (fun h => absurd (nI_le (by omega) (by omega)) h)
    refine jx_of (fun _ _ kz => jw_aload_n 0 d_Y_slotWoken_48 rfl rfl kz) ?_
    refine jx_of (fun _ _ kz => jw_getPe (some (4, 4)) fl_Y_49 d_Y_slotWoken_49 rfl rfl (by simp [me_I_sI, me_I_sP, me_I_nx, me_P_sI, me_P_sP, me_P_nx, me_N_sI, me_N_sP, me_N_nx, me_L_sI, me_L_sP, me_L_nx, show me_P M1 0 0 7 = some (4, 4) from hY1.1.1 (0, 0, 7, 4, 4) (by decide)]) kz) ?_
    refine jx_of (fun _ _ kz => jw_iconst 0 d_Y_slotWoken_52 (by decide) kz) ?_
    refine jx_of (fun _ _ kz => jw_putI fl_Y_168 (Or.inl rfl) rfl rfl d_Y_slotWoken_53 rfl rfl kz) ?_
    refine jx_vret d_Y_slotWoken_56 rfl ?_
    exact ⟨rfl, yI_rc hY1 (rc_n rc_rf) (rO_n (n := 0) (hY1.1.2.2 4 (by omega)) (Nat.zero_le _)), yk_tr hk1 (yk_rc (rc_n rc_rf))⟩
  | succ m ih =>
    intro k M1 hk hY1 hk1 hs
    refine jx_of (fun _ _ kz => jw_iload_n 2 d_Y_slotWoken_2 rfl rfl kz) ?_
    refine jx_of (fun _ _ kz => jw_aload_n 0 d_Y_slotWoken_3 rfl rfl kz) ?_
    refine jx_of (fun _ _ kz => jw_getPe (some (4, 4)) fl_Y_49 d_Y_slotWoken_4 rfl rfl (by simp [me_I_sI, me_I_sP, me_I_nx, me_P_sI, me_P_sP, me_P_nx, me_N_sI, me_N_sP, me_N_nx, me_L_sI, me_L_sP, me_L_nx, show me_P M1 0 0 7 = some (4, 4) from hY1.1.1 (0, 0, 7, 4, 4) (by decide)]) kz) ?_
    refine jx_of (fun _ _ kz => jw_getIe (nI n) fl_Y_168 d_Y_slotWoken_7 rfl rfl hs kz) ?_
    refine jx_icmp_ge 48 d_Y_slotWoken_10 (by decide) (fun h => absurd h (nI_ge (by omega) (by omega))) (fun _ => ?_)
    refine jx_of (fun _ _ kz => jw_aload_n 1 d_Y_slotWoken_13 rfl rfl kz) ?_
    refine jx_of (fun _ _ kz => jw_getIe (me_I M1 3 w 2) fl_Y_159 d_Y_slotWoken_14 rfl rfl rfl kz) ?_
    refine jx_of (fun _ _ kz => jw_iconst (-1) d_Y_slotWoken_17 (by decide) kz) ?_
    refine jx_icmp_eq 30 d_Y_slotWoken_18 (by decide) (fun b_18 => ?_) (fun b_18 => ?_)
    · skip
      refine jx_of (fun _ _ kz => jw_aload_n 1 d_Y_slotWoken_30 rfl rfl kz) ?_
      refine jx_of (fun _ _ kz => jw_aload_n 0 d_Y_slotWoken_31 rfl rfl kz) ?_
      refine jx_of (fun _ _ kz => jw_getPe (some (4, 4)) fl_Y_49 d_Y_slotWoken_32 rfl rfl (by simp [me_I_sI, me_I_sP, me_I_nx, me_P_sI, me_P_sP, me_P_nx, me_N_sI, me_N_sP, me_N_nx, me_L_sI, me_L_sP, me_L_nx, show me_P M1 0 0 7 = some (4, 4) from hY1.1.1 (0, 0, 7, 4, 4) (by decide)]) kz) ?_
      refine jx_of (fun _ _ kz => jw_iload_n 2 d_Y_slotWoken_35 rfl rfl kz) ?_
      refine jx_callV (y_R_at (d + 2) 4 ((nI k)) (by first | exact h2.1.2.2 4 (by omega) | exact hY1.1.2.2 4 (by omega))) mt_R_at cf_R rfl rfl ml_Y_169 im_R_at se_R_at d_Y_slotWoken_36 rfl rfl (Nat.le_of_ble_eq_true rfl) ?_
      rintro _ _ ⟨⟨v, rfl⟩, rfl⟩
      refine jx_eq (st2 := [.inl v, .inr (some (3, w))]) rfl rfl rfl ?_
      refine jx_of (fun _ _ kz => jw_putI fl_Y_159 (Or.inl rfl) rfl rfl d_Y_slotWoken_39 rfl rfl kz) ?_
      refine jx_of (fun _ _ kz => jw_iincc 1 d_Y_slotWoken_42 (by decide) rfl (Nat.le_of_ble_eq_true rfl) kz) ?_
      dsimp only [List.set]
      refine jx_of (fun _ _ kz => jw_goto 2 d_Y_slotWoken_45 (by decide) kz) ?_
      rw [nI_1]
      first | exact ih (k + 1) _ (by omega) (yI_k h2 (by omega)) (yk_sI (yk_tr hk1 k2) (by omega)) (by rw [me_I_sI, if_neg (by omega), e2]; exact hs) | exact ih (k + 1) _ (by omega) (yI_k hY1 (by omega)) (yk_sI hk1 (by omega)) (by rw [me_I_sI, if_neg (by omega)]; exact hs)
    · skip
      refine jx_of (fun _ _ kz => jw_aload_n 0 d_Y_slotWoken_21 rfl rfl kz) ?_
      refine jx_of (fun _ _ kz => jw_aload_n 1 d_Y_slotWoken_22 rfl rfl kz) ?_
      refine jx_of (fun _ _ kz => jw_aload_n 1 d_Y_slotWoken_23 rfl rfl kz) ?_
      refine jx_of (fun _ _ kz => jw_getIe (me_I M1 3 w 2) fl_Y_159 d_Y_slotWoken_24 rfl rfl rfl kz) ?_
      refine jx_callV (y_Y_pushToRing d w ((me_I M1 3 w 2)) np nt hY1  hw) mt_Y_pushToRing cf_Y rfl rfl ml_Y_227 im_Y_pushToRing se_Y_pushToRing d_Y_slotWoken_27 rfl rfl (Nat.le_of_ble_eq_true rfl) ?_
      rintro _ M2 ⟨rfl, h2, k2, e2⟩
      refine jx_eq (st2 := []) rfl rfl rfl ?_
      refine jx_of (fun _ _ kz => jw_aload_n 1 d_Y_slotWoken_30 rfl rfl kz) ?_
      refine jx_of (fun _ _ kz => jw_aload_n 0 d_Y_slotWoken_31 rfl rfl kz) ?_
      refine jx_of (fun _ _ kz => jw_getPe (some (4, 4)) fl_Y_49 d_Y_slotWoken_32 rfl rfl (by simp [me_I_sI, me_I_sP, me_I_nx, me_P_sI, me_P_sP, me_P_nx, me_N_sI, me_N_sP, me_N_nx, me_L_sI, me_L_sP, me_L_nx, show me_P M2 0 0 7 = some (4, 4) from h2.1.1 (0, 0, 7, 4, 4) (by decide)]) kz) ?_
      refine jx_of (fun _ _ kz => jw_iload_n 2 d_Y_slotWoken_35 rfl rfl kz) ?_
      refine jx_callV (y_R_at (d + 2) 4 ((nI k)) (by first | exact h2.1.2.2 4 (by omega) | exact hY1.1.2.2 4 (by omega))) mt_R_at cf_R rfl rfl ml_Y_169 im_R_at se_R_at d_Y_slotWoken_36 rfl rfl (Nat.le_of_ble_eq_true rfl) ?_
      rintro _ _ ⟨⟨v, rfl⟩, rfl⟩
      refine jx_eq (st2 := [.inl v, .inr (some (3, w))]) rfl rfl rfl ?_
      refine jx_of (fun _ _ kz => jw_putI fl_Y_159 (Or.inl rfl) rfl rfl d_Y_slotWoken_39 rfl rfl kz) ?_
      refine jx_of (fun _ _ kz => jw_iincc 1 d_Y_slotWoken_42 (by decide) rfl (Nat.le_of_ble_eq_true rfl) kz) ?_
      dsimp only [List.set]
      refine jx_of (fun _ _ kz => jw_goto 2 d_Y_slotWoken_45 (by decide) kz) ?_
      rw [nI_1]
      first | exact ih (k + 1) _ (by omega) (yI_k h2 (by omega)) (yk_sI (yk_tr hk1 k2) (by omega)) (by rw [me_I_sI, if_neg (by omega), e2]; exact hs) | exact ih (k + 1) _ (by omega) (yI_k hY1 (by omega)) (yk_sI hk1 (by omega)) (by rw [me_I_sI, if_neg (by omega)]; exact hs)
set_option maxRecDepth 20000 in
set_option maxHeartbeats 4000000 in
theorem y_Y_slotWoken {G : Gt} {M : Me} (d : Nat) (w : Nat) (np : Nat) (nt : Nat) (hY : yI M np nt) (hw : w < 3) : sx G yt_Y_slotWoken yn_Y_slotWoken (d + 4) [.inr (some (0, 0)), .inr (some (3, w))] M (fun r M' => r = none ∧ yI M' np nt ∧ yk M M') := by
  refine sx_of (k := 1) (lc := [some (.inr (some (0, 0))), some (.inr (some (3, w))), none]) mt_Y_slotWoken (Nat.le_of_ble_eq_true rfl) rfl ?_
  refine jx_of (fun _ _ kz => jw_iconst 0 d_Y_slotWoken_0 (by decide) kz) ?_
  refine jx_of (fun _ _ kz => jw_istore_n 2 d_Y_slotWoken_1 rfl (Nat.le_of_ble_eq_true rfl) kz) ?_
  dsimp only [List.set]
  obtain ⟨n, h1, h2⟩ := (hY.1.2.2 4 (by omega)).2.2
  have h3 := (hY.1.2.2 4 (by omega)).2.1
  exact y_Y_sw_l d n w np nt (by omega) hw _ _ n 0 M (by omega) hY yk_rf h2
