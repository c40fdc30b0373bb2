def kpM (M M' : Me) : Prop := (∀ k, me_I M' 7 0 k = me_I M 7 0 k) ∧ (∀ s k, 30 ≤ s → me_I M' s 0 k = me_I M s 0 k) ∧ (∀ k, me_P M' 7 0 k = me_P M 7 0 k) ∧ (∀ s, 30 ≤ s → me_L M' s 0 = me_L M s 0) ∧ (me_C M' = me_C M ∧ me_S M' = me_S M)
def nC (M M' : Me) : Prop := me_C M' = me_C M ∧ me_S M' = me_S M
theorem kp_rf {M : Me} : kpM M M := ⟨fun _ => rfl, fun _ _ _ => rfl, fun _ => rfl, fun _ _ => rfl, rfl, rfl⟩
theorem kp_sI {M M1 : Me} {s i k : Nat} {v : Int32} (h : kpM M M1) (hs : s ≠ 7 ∧ s < 30) : kpM M (me_sI M1 s i k v) := by
  refine ⟨fun k' => ?_, fun s' k' h' => ?_, h.2.2.1, h.2.2.2⟩
  · rw [me_I_sI, if_neg (fun q => hs.1 q.1.symm)]; exact h.1 k'
  · rw [me_I_sI, if_neg (fun q => by omega)]; exact h.2.1 s' k' h'
theorem kp_tr {M M1 M2 : Me} (h : kpM M M1) (h2 : kpM M1 M2) : kpM M M2 := ⟨fun k => (h2.1 k).trans (h.1 k), fun s k hs => (h2.2.1 s k hs).trans (h.2.1 s k hs), fun k => (h2.2.2.1 k).trans (h.2.2.1 k), fun s hs => (h2.2.2.2.1 s hs).trans (h.2.2.2.1 s hs), h2.2.2.2.2.1.trans h.2.2.2.2.1, h2.2.2.2.2.2.trans h.2.2.2.2.2⟩
theorem tk_in {x : Int32} (h1 : ¬ x < 0) (h2 : ¬ 16 ≤ x) : vp_in x 16 := by
  rcases pk_ix x (n := 16) (by decide) with h | h | ⟨j, h, rfl⟩
  · exact absurd h h1
  · exact absurd h h2
  · exact vp_in_nI h (by decide)
def tkv (x y : Int32) : Int32 := if x < 0 then -1 else if 16 ≤ x then -1 else if y < sv_LOWEST.getD x.toNatClampNeg 0 then -1 else if y ≤ sv_HIGHEST.getD x.toNatClampNeg 0 then 1 else -1
theorem sw_lt {x : Int32} (h : x.toInt < 0) : x < 0 := Int32.lt_iff_toInt_lt.mpr (by simpa using h)
theorem sw_ge {x : Int32} {n : Nat} (h : (n : Int) - 1 < x.toInt) (hn : n < 2 ^ 31 := by decide) : nI n ≤ x := Int32.le_iff_toInt_le.mpr (by rw [nI_toInt hn]; omega)
theorem sw_out {x c : Int32} {n : Nat} (h : x.toInt < 0 ∨ (n : Int) - 1 < x.toInt) (hc : nI n = c ∧ n < 2 ^ 31) : x < 0 ∨ c ≤ x := by
  rcases h with h | h
  · exact Or.inl (sw_lt h)
  · rw [← hc.1]; exact Or.inr (sw_ge h hc.2)
theorem sw_res {x c z : Int32} (h : x < 0 ∨ c ≤ x) : (if x < 0 then (-1) else if c ≤ x then (-1) else z) = (-1 : Int32) := by
  by_cases h0 : x < 0
  · rw [if_pos h0]
  · rw [if_neg h0, if_pos (h.resolve_left h0)]
set_option maxRecDepth 20000 in
set_option maxHeartbeats 4000000 in
theorem x_P_append {G : Gt} {M : Me} (d : Nat) (i : Nat) (x : Int32) (y : Int32) (f0 : me_I M 1 i 3 = 0) (f1 : me_P M 1 i 0 = (some (11, i))) (f2 : me_P M 1 i 1 = (some (12, i))) (f3 : me_L M 11 i = 12) (f4 : me_L M 12 i = 12) : sx G yt_P_append yn_P_append (d + 1) [.inr (some (1, i)), .inl x, .inl y] M (fun r M' => r = some (.inl 1) ∧ (me_sI (me_sI (me_sI M 11 i 0 (x)) 12 i 0 (y)) 1 i 3 (1)) = M') := by
  refine sx_of (k := 0) (lc := [some (.inr (some (1, i))), some (.inl x), some (.inl y)]) mt_P_append (Nat.le_of_ble_eq_true rfl) rfl ?_
  refine jx_of (fun _ _ kz => jw_aload_n 0 d_P_append_0 rfl rfl kz) ?_
  refine jx_of (fun _ _ kz => jw_getIe (0) fl_P_21 d_P_append_1 rfl rfl (by simp [me_I_sI, me_I_sP, me_I_nx, me_P_sI, me_P_sP, me_P_nx, me_N_sI, me_N_sP, me_N_nx, me_L_sI, me_L_sP, me_L_nx, f0, f1, f2, f3, f4]) kz) ?_
  refine jx_of (fun _ _ kz => jw_bipush 12 d_P_append_4 (by decide) kz) ?_
  refine jx_icmp_lt 11 d_P_append_6 (by decide) (fun _ => ?_) (fun h => absurd h (by decide))
  refine jx_of (fun _ _ kz => jw_aload_n 0 d_P_append_11 rfl rfl kz) ?_
  refine jx_of (fun _ _ kz => jw_getPe (some (11, i)) fl_P_9 d_P_append_12 rfl rfl (by simp [me_I_sI, me_I_sP, me_I_nx, me_P_sI, me_P_sP, me_P_nx, me_N_sI, me_N_sP, me_N_nx, me_L_sI, me_L_sP, me_L_nx, f0, f1, f2, f3, f4]) kz) ?_
  refine jx_of (fun _ _ kz => jw_aload_n 0 d_P_append_15 rfl rfl kz) ?_
  refine jx_of (fun _ _ kz => jw_getIe (0) fl_P_21 d_P_append_16 rfl rfl (by simp [me_I_sI, me_I_sP, me_I_nx, me_P_sI, me_P_sP, me_P_nx, me_N_sI, me_N_sP, me_N_nx, me_L_sI, me_L_sP, me_L_nx, f0, f1, f2, f3, f4]) kz) ?_
  refine jx_of (fun _ _ kz => jw_iload_n 1 d_P_append_19 rfl rfl kz) ?_
  refine jx_of (fun _ _ kz => jw_iast d_P_append_20 rfl rfl (by rw [show me_L _ 11 i = 12 from (by simp [me_I_sI, me_I_sP, me_I_nx, me_P_sI, me_P_sP, me_P_nx, me_N_sI, me_N_sP, me_N_nx, me_L_sI, me_L_sP, me_L_nx, f0, f1, f2, f3, f4])]; unfold vp_in; decide) kz) ?_
  rw [show Int32.toNatClampNeg 0 = 0 from by decide]
  refine jx_of (fun _ _ kz => jw_aload_n 0 d_P_append_21 rfl rfl kz) ?_
  refine jx_of (fun _ _ kz => jw_getPe (some (12, i)) fl_P_15 d_P_append_22 rfl rfl (by simp [me_I_sI, me_I_sP, me_I_nx, me_P_sI, me_P_sP, me_P_nx, me_N_sI, me_N_sP, me_N_nx, me_L_sI, me_L_sP, me_L_nx, f0, f1, f2, f3, f4]) kz) ?_
  refine jx_of (fun _ _ kz => jw_aload_n 0 d_P_append_25 rfl rfl kz) ?_
  refine jx_of (fun _ _ kz => jw_getIe (0) fl_P_21 d_P_append_26 rfl rfl (by simp [me_I_sI, me_I_sP, me_I_nx, me_P_sI, me_P_sP, me_P_nx, me_N_sI, me_N_sP, me_N_nx, me_L_sI, me_L_sP, me_L_nx, f0, f1, f2, f3, f4]) kz) ?_
  refine jx_of (fun _ _ kz => jw_iload_n 2 d_P_append_29 rfl rfl kz) ?_
  refine jx_of (fun _ _ kz => jw_iast d_P_append_30 rfl rfl (by rw [show me_L _ 12 i = 12 from (by simp [me_I_sI, me_I_sP, me_I_nx, me_P_sI, me_P_sP, me_P_nx, me_N_sI, me_N_sP, me_N_nx, me_L_sI, me_L_sP, me_L_nx, f0, f1, f2, f3, f4])]; unfold vp_in; decide) kz) ?_
  rw [show Int32.toNatClampNeg 0 = 0 from by decide]
  refine jx_of (fun _ _ kz => jw_aload_n 0 d_P_append_31 rfl rfl kz) ?_
  refine jx_of (fun _ _ kz => jw_dup d_P_append_32 kz) ?_
  refine jx_of (fun _ _ kz => jw_getIe (0) fl_P_21 d_P_append_33 rfl rfl (by simp [me_I_sI, me_I_sP, me_I_nx, me_P_sI, me_P_sP, me_P_nx, me_N_sI, me_N_sP, me_N_nx, me_L_sI, me_L_sP, me_L_nx, f0, f1, f2, f3, f4]) kz) ?_
  refine jx_of (fun _ _ kz => jw_iconst 1 d_P_append_36 (by decide) kz) ?_
  refine jx_of (fun _ _ kz => jw_iadd d_P_append_37 kz) ?_
  rw [show (0 + 1 : Int32) = 1 from by decide]
  refine jx_of (fun _ _ kz => jw_putI fl_P_21 (Or.inl rfl) rfl rfl d_P_append_38 rfl rfl kz) ?_
  refine jx_of (fun _ _ kz => jw_iconst 1 d_P_append_41 (by decide) kz) ?_
  refine jx_zret d_P_append_42 rfl (by decide) ?_
  exact ⟨rfl, rfl⟩
set_option maxRecDepth 20000 in
set_option maxHeartbeats 4000000 in
theorem x_Y_token {G : Gt} {M : Me} (d : Nat) (x : Int32) (y : Int32) (hm : cfr M) : sx G yt_Y_token yn_Y_token (d + 2) [.inr (some (0, 0)), .inl x, .inl y] M (fun r M' => r = some (.inl (tkv x y)) ∧ kpM M M') := by
  refine sx_of (k := 0) (lc := [some (.inr (some (0, 0))), some (.inl x), some (.inl y)]) mt_Y_token (Nat.le_of_ble_eq_true rfl) rfl ?_
  refine jx_of (fun _ _ kz => jw_iload_n 1 d_Y_token_0 rfl rfl kz) ?_
  refine jx_if_lt 28 d_Y_token_1 (by decide) (fun b_1 => ?_) (fun b_1 => ?_)
  · skip
    refine jx_of (fun _ _ kz => jw_iconst (-1) d_Y_token_28 (by decide) kz) ?_
    refine jx_iret d_Y_token_29 rfl ?_
    exact ⟨by simp_all [tkv], kp_rf⟩
  · skip
    refine jx_of (fun _ _ kz => jw_iload_n 1 d_Y_token_4 rfl rfl kz) ?_
    refine jx_of (fun _ _ kz => jw_bipush 16 d_Y_token_5 (by decide) kz) ?_
    refine jx_icmp_ge 28 d_Y_token_7 (by decide) (fun b_7 => ?_) (fun b_7 => ?_)
    · skip
      refine jx_of (fun _ _ kz => jw_iconst (-1) d_Y_token_28 (by decide) kz) ?_
      refine jx_iret d_Y_token_29 rfl ?_
      exact ⟨by simp_all [tkv], kp_rf⟩
    · skip
      refine jx_of (fun _ _ kz => jw_iload_n 2 d_Y_token_10 rfl rfl kz) ?_
      refine jx_of (fun _ _ kz => jw_gets (q := (23, "LOWEST", sv_LOWEST)) (by decide) fs_Y_78 d_Y_token_11 kz) ?_
      refine jx_of (fun _ _ kz => jw_iload_n 1 d_Y_token_14 rfl rfl kz) ?_
      refine jx_of (fun _ _ kz => jw_ialdS (q := (23, "LOWEST", sv_LOWEST)) (by decide) d_Y_token_15 (tk_in b_1 b_7) kz) ?_
      refine jx_icmp_lt 28 d_Y_token_16 (by decide) (fun b_16 => ?_) (fun b_16 => ?_)
      · skip
        refine jx_of (fun _ _ kz => jw_iconst (-1) d_Y_token_28 (by decide) kz) ?_
        refine jx_iret d_Y_token_29 rfl ?_
        exact ⟨by simp_all [tkv], kp_rf⟩
      · skip
        refine jx_of (fun _ _ kz => jw_iload_n 2 d_Y_token_19 rfl rfl kz) ?_
        refine jx_of (fun _ _ kz => jw_gets (q := (24, "HIGHEST", sv_HIGHEST)) (by decide) fs_Y_82 d_Y_token_20 kz) ?_
        refine jx_of (fun _ _ kz => jw_iload_n 1 d_Y_token_23 rfl rfl kz) ?_
        refine jx_of (fun _ _ kz => jw_ialdS (q := (24, "HIGHEST", sv_HIGHEST)) (by decide) d_Y_token_24 (tk_in b_1 b_7) kz) ?_
        refine jx_icmp_le 30 d_Y_token_25 (by decide) (fun b_25 => ?_) (fun b_25 => ?_)
        · skip
          refine jx_of (fun _ _ kz => jw_aload_n 0 d_Y_token_30 rfl rfl kz) ?_
          refine jx_of (fun _ _ kz => jw_getPe (some (1, 0)) fl_Y_12 d_Y_token_31 rfl rfl (by simp [me_I_sI, me_I_sP, me_I_nx, me_P_sI, me_P_sP, me_P_nx, me_N_sI, me_N_sP, me_N_nx, me_L_sI, me_L_sP, me_L_nx, show me_P M 0 0 0 = some (1, 0) from hm.1 (0, 0, 0, 1, 0) (by decide)]) kz) ?_
          refine jx_of (fun _ _ kz => jw_iload_n 1 d_Y_token_34 rfl rfl kz) ?_
          refine jx_of (fun _ _ kz => jw_iload_n 2 d_Y_token_35 rfl rfl kz) ?_
          refine jx_callV (x_P_append _ 0 x y (by simp [me_I_sI, me_I_sP, me_I_nx, me_P_sI, me_P_sP, me_P_nx, me_N_sI, me_N_sP, me_N_nx, me_L_sI, me_L_sP, me_L_nx, show me_I M 1 0 3 = 0 from hm.2.2 (1, 0, 3, 0) (by decide)]) (by simp [me_I_sI, me_I_sP, me_I_nx, me_P_sI, me_P_sP, me_P_nx, me_N_sI, me_N_sP, me_N_nx, me_L_sI, me_L_sP, me_L_nx, show me_P M 1 0 0 = some (11, 0) from hm.1 (1, 0, 0, 11, 0) (by decide)]) (by simp [me_I_sI, me_I_sP, me_I_nx, me_P_sI, me_P_sP, me_P_nx, me_N_sI, me_N_sP, me_N_nx, me_L_sI, me_L_sP, me_L_nx, show me_P M 1 0 1 = some (12, 0) from hm.1 (1, 0, 1, 12, 0) (by decide)]) (by simp [me_I_sI, me_I_sP, me_I_nx, me_P_sI, me_P_sP, me_P_nx, me_N_sI, me_N_sP, me_N_nx, me_L_sI, me_L_sP, me_L_nx, show me_L M 11 0 = 12 from hm.2.1 (11, 0, 12) (by decide)]) (by simp [me_I_sI, me_I_sP, me_I_nx, me_P_sI, me_P_sP, me_P_nx, me_N_sI, me_N_sP, me_N_nx, me_L_sI, me_L_sP, me_L_nx, show me_L M 12 0 = 12 from hm.2.1 (12, 0, 12) (by decide)])) mt_P_append cf_P rfl rfl ml_Y_85 im_P_append se_P_append d_Y_token_36 rfl rfl (Nat.le_of_ble_eq_true rfl) ?_
          rintro _ _ ⟨rfl, rfl⟩
          refine jx_eq (st2 := [.inl 1]) rfl rfl rfl ?_
          refine jx_if_eq 52 d_Y_token_39 (by decide) (fun h => absurd h (by decide)) (fun _ => ?_)
          refine jx_of (fun _ _ kz => jw_aload_n 0 d_Y_token_42 rfl rfl kz) ?_
          refine jx_of (fun _ _ kz => jw_getPe (some (1, 0)) fl_Y_12 d_Y_token_43 rfl rfl (by simp [me_I_sI, me_I_sP, me_I_nx, me_P_sI, me_P_sP, me_P_nx, me_N_sI, me_N_sP, me_N_nx, me_L_sI, me_L_sP, me_L_nx, show me_P M 0 0 0 = some (1, 0) from hm.1 (0, 0, 0, 1, 0) (by decide)]) kz) ?_
          refine jx_of (fun _ _ kz => jw_getIe (1) fl_Y_89 d_Y_token_46 rfl rfl (by simp [me_I_sI, me_I_sP, me_I_nx, me_P_sI, me_P_sP, me_P_nx, me_N_sI, me_N_sP, me_N_nx, me_L_sI, me_L_sP, me_L_nx]) kz) ?_
          refine jx_of (fun _ _ kz => jw_goto 54 d_Y_token_49 (by decide) kz) ?_
          refine jx_iret d_Y_token_54 rfl ?_
          exact ⟨by rw [tkv, if_neg b_1, if_neg b_7, if_neg b_16, if_pos b_25], by repeat (first | exact kp_rf | refine kp_sI ?_ (by decide))⟩
        · skip
          refine jx_of (fun _ _ kz => jw_iconst (-1) d_Y_token_28 (by decide) kz) ?_
          refine jx_iret d_Y_token_29 rfl ?_
          exact ⟨by simp_all [tkv], kp_rf⟩
set_option maxRecDepth 20000 in
set_option maxHeartbeats 4000000 in
theorem x_Y_tasksNotEnded {G : Gt} {M : Me} (d : Nat) (hm : cfr M) : sx G yt_Y_tasksNotEnded yn_Y_tasksNotEnded (d + 1) [.inr (some (0, 0))] M (fun r M' => r = some (.inl 0) ∧ M = M') := by
  refine sx_of (k := 3) (lc := [some (.inr (some (0, 0))), none, none, none]) mt_Y_tasksNotEnded (Nat.le_of_ble_eq_true rfl) rfl ?_
  refine jx_of (fun _ _ kz => jw_iconst 0 d_Y_tasksNotEnded_0 (by decide) kz) ?_
  refine jx_of (fun _ _ kz => jw_istore_n 1 d_Y_tasksNotEnded_1 rfl (Nat.le_of_ble_eq_true rfl) kz) ?_
  dsimp only [List.set]
  refine jx_of (fun _ _ kz => jw_iconst 0 d_Y_tasksNotEnded_2 (by decide) kz) ?_
  refine jx_of (fun _ _ kz => jw_istore_n 2 d_Y_tasksNotEnded_3 rfl (Nat.le_of_ble_eq_true rfl) kz) ?_
  dsimp only [List.set]
  refine jx_of (fun _ _ kz => jw_iload_n 2 d_Y_tasksNotEnded_4 rfl rfl kz) ?_
  refine jx_of (fun _ _ kz => jw_aload_n 0 d_Y_tasksNotEnded_5 rfl rfl kz) ?_
  refine jx_of (fun _ _ kz => jw_getIe (0) fl_Y_30 d_Y_tasksNotEnded_6 rfl rfl (by simp [me_I_sI, me_I_sP, me_I_nx, me_P_sI, me_P_sP, me_P_nx, me_N_sI, me_N_sP, me_N_nx, me_L_sI, me_L_sP, me_L_nx, show me_I M 0 0 4 = 0 from hm.2.2 (0, 0, 4, 0) (by decide)]) kz) ?_
  refine jx_icmp_ge 38 d_Y_tasksNotEnded_9 (by decide) (fun _ => ?_) (fun h => absurd h (by decide))
  refine jx_of (fun _ _ kz => jw_iload_n 1 d_Y_tasksNotEnded_38 rfl rfl kz) ?_
  refine jx_iret d_Y_tasksNotEnded_39 rfl ?_
  exact ⟨rfl, rfl⟩
set_option maxRecDepth 20000 in
set_option maxHeartbeats 4000000 in
theorem x_Y_count {G : Gt} {M : Me} (d : Nat) (x : Int32) (hm : cfr M) : sx G yt_Y_count yn_Y_count (d + 2) [.inr (some (0, 0)), .inl x] M (fun r M' => r = some (.inl (if x < 0 then -1 else if 8 ≤ x then -1 else 0)) ∧ kpM M M') := by
  refine sx_of (k := 0) (lc := [some (.inr (some (0, 0))), some (.inl x)]) mt_Y_count (Nat.le_of_ble_eq_true rfl) rfl ?_
  refine jx_of (fun _ _ kz => jw_iload_n 1 d_Y_count_0 rfl rfl kz) ?_
  rcases sw_cases (x) 8 (by decide) with t_1 | t_1
  · skip
    refine jx_of (fun _ _ kz => jw_tabOut 94 d_Y_count_1 (by simpa using t_1) (by decide) kz) ?_
    refine jx_of (fun _ _ kz => jw_iconst (-1) d_Y_count_94 (by decide) kz) ?_
    refine jx_iret d_Y_count_95 rfl ?_
    exact ⟨by first | (subst_vars; decide) | (rw [sw_res (sw_out t_1 (c := 8) (by decide))]), kp_rf⟩
  · skip
    obtain ⟨j_1, t_1, e_1⟩ := t_1
    rcases (show j_1 = 0 ∨ j_1 = 1 ∨ j_1 = 2 ∨ j_1 = 3 ∨ j_1 = 4 ∨ j_1 = 5 ∨ j_1 = 6 ∨ j_1 = 7 by omega) with rfl | rfl | rfl | rfl | rfl | rfl | rfl | rfl
    · skip
      refine jx_of (fun _ _ kz => jw_tabIn 48 d_Y_count_1 (by rw [e_1]; decide) (by rw [e_1]; decide) (by rw [e_1]; rfl) (by decide) kz) ?_
      refine jx_of (fun _ _ kz => jw_aload_n 0 d_Y_count_48 rfl rfl kz) ?_
      refine jx_of (fun _ _ kz => jw_getIe (0) fl_Y_20 d_Y_count_49 rfl rfl (by simp [me_I_sI, me_I_sP, me_I_nx, me_P_sI, me_P_sP, me_P_nx, me_N_sI, me_N_sP, me_N_nx, me_L_sI, me_L_sP, me_L_nx, show me_I M 0 0 2 = 0 from hm.2.2 (0, 0, 2, 0) (by decide)]) kz) ?_
      refine jx_iret d_Y_count_52 rfl ?_
      exact ⟨by first | (subst_vars; decide) | (rw [sw_res (sw_out t_1 (c := 8) (by decide))]), kp_rf⟩
    · skip
      refine jx_of (fun _ _ kz => jw_tabIn 53 d_Y_count_1 (by rw [e_1]; decide) (by rw [e_1]; decide) (by rw [e_1]; rfl) (by decide) kz) ?_
      refine jx_of (fun _ _ kz => jw_aload_n 0 d_Y_count_53 rfl rfl kz) ?_
      refine jx_of (fun _ _ kz => jw_getIe (0) fl_Y_30 d_Y_count_54 rfl rfl (by simp [me_I_sI, me_I_sP, me_I_nx, me_P_sI, me_P_sP, me_P_nx, me_N_sI, me_N_sP, me_N_nx, me_L_sI, me_L_sP, me_L_nx, show me_I M 0 0 4 = 0 from hm.2.2 (0, 0, 4, 0) (by decide)]) kz) ?_
      refine jx_iret d_Y_count_57 rfl ?_
      exact ⟨by first | (subst_vars; decide) | (rw [sw_res (sw_out t_1 (c := 8) (by decide))]), kp_rf⟩
    · skip
      refine jx_of (fun _ _ kz => jw_tabIn 58 d_Y_count_1 (by rw [e_1]; decide) (by rw [e_1]; decide) (by rw [e_1]; rfl) (by decide) kz) ?_
      refine jx_of (fun _ _ kz => jw_aload_n 0 d_Y_count_58 rfl rfl kz) ?_
      refine jx_callV (x_Y_tasksNotEnded _  hm) mt_Y_tasksNotEnded cf_Y rfl rfl ml_Y_187 im_Y_tasksNotEnded se_Y_tasksNotEnded d_Y_count_59 rfl rfl (Nat.le_of_ble_eq_true rfl) ?_
      rintro _ _ ⟨rfl, rfl⟩
      refine jx_eq (st2 := [.inl 0]) rfl rfl rfl ?_
      refine jx_iret d_Y_count_62 rfl ?_
      exact ⟨by first | (subst_vars; decide) | (rw [sw_res (sw_out t_1 (c := 8) (by decide))]), kp_rf⟩
    · skip
      refine jx_of (fun _ _ kz => jw_tabIn 63 d_Y_count_1 (by rw [e_1]; decide) (by rw [e_1]; decide) (by rw [e_1]; rfl) (by decide) kz) ?_
      refine jx_of (fun _ _ kz => jw_aload_n 0 d_Y_count_63 rfl rfl kz) ?_
      refine jx_of (fun _ _ kz => jw_getIe (0) fl_Y_66 d_Y_count_64 rfl rfl (by simp [me_I_sI, me_I_sP, me_I_nx, me_P_sI, me_P_sP, me_P_nx, me_N_sI, me_N_sP, me_N_nx, me_L_sI, me_L_sP, me_L_nx, show me_I M 0 0 10 = 0 from hm.2.2 (0, 0, 10, 0) (by decide)]) kz) ?_
      refine jx_iret d_Y_count_67 rfl ?_
      exact ⟨by first | (subst_vars; decide) | (rw [sw_res (sw_out t_1 (c := 8) (by decide))]), kp_rf⟩
    · skip
      refine jx_of (fun _ _ kz => jw_tabIn 68 d_Y_count_1 (by rw [e_1]; decide) (by rw [e_1]; decide) (by rw [e_1]; rfl) (by decide) kz) ?_
      refine jx_of (fun _ _ kz => jw_aload_n 0 d_Y_count_68 rfl rfl kz) ?_
      refine jx_of (fun _ _ kz => jw_getIe (0) fl_Y_69 d_Y_count_69 rfl rfl (by simp [me_I_sI, me_I_sP, me_I_nx, me_P_sI, me_P_sP, me_P_nx, me_N_sI, me_N_sP, me_N_nx, me_L_sI, me_L_sP, me_L_nx, show me_I M 0 0 11 = 0 from hm.2.2 (0, 0, 11, 0) (by decide)]) kz) ?_
      refine jx_iret d_Y_count_72 rfl ?_
      exact ⟨by first | (subst_vars; decide) | (rw [sw_res (sw_out t_1 (c := 8) (by decide))]), kp_rf⟩
    · skip
      refine jx_of (fun _ _ kz => jw_tabIn 73 d_Y_count_1 (by rw [e_1]; decide) (by rw [e_1]; decide) (by rw [e_1]; rfl) (by decide) kz) ?_
      refine jx_of (fun _ _ kz => jw_aload_n 0 d_Y_count_73 rfl rfl kz) ?_
      refine jx_of (fun _ _ kz => jw_getPe (some (4, 3)) fl_Y_45 d_Y_count_74 rfl rfl (by simp [me_I_sI, me_I_sP, me_I_nx, me_P_sI, me_P_sP, me_P_nx, me_N_sI, me_N_sP, me_N_nx, me_L_sI, me_L_sP, me_L_nx, show me_P M 0 0 6 = some (4, 3) from hm.1 (0, 0, 6, 4, 3) (by decide)]) kz) ?_
      refine jx_of (fun _ _ kz => jw_getIe (0) fl_Y_168 d_Y_count_77 rfl rfl (by simp [me_I_sI, me_I_sP, me_I_nx, me_P_sI, me_P_sP, me_P_nx, me_N_sI, me_N_sP, me_N_nx, me_L_sI, me_L_sP, me_L_nx, show me_I M 4 3 1 = 0 from hm.2.2 (4, 3, 1, 0) (by decide)]) kz) ?_
      refine jx_iret d_Y_count_80 rfl ?_
      exact ⟨by first | (subst_vars; decide) | (rw [sw_res (sw_out t_1 (c := 8) (by decide))]), kp_rf⟩
    · skip
      refine jx_of (fun _ _ kz => jw_tabIn 81 d_Y_count_1 (by rw [e_1]; decide) (by rw [e_1]; decide) (by rw [e_1]; rfl) (by decide) kz) ?_
      refine jx_of (fun _ _ kz => jw_aload_n 0 d_Y_count_81 rfl rfl kz) ?_
      refine jx_of (fun _ _ kz => jw_getIe (0) fl_Y_72 d_Y_count_82 rfl rfl (by simp [me_I_sI, me_I_sP, me_I_nx, me_P_sI, me_P_sP, me_P_nx, me_N_sI, me_N_sP, me_N_nx, me_L_sI, me_L_sP, me_L_nx, show me_I M 0 0 12 = 0 from hm.2.2 (0, 0, 12, 0) (by decide)]) kz) ?_
      refine jx_iret d_Y_count_85 rfl ?_
      exact ⟨by first | (subst_vars; decide) | (rw [sw_res (sw_out t_1 (c := 8) (by decide))]), kp_rf⟩
    · skip
      refine jx_of (fun _ _ kz => jw_tabIn 86 d_Y_count_1 (by rw [e_1]; decide) (by rw [e_1]; decide) (by rw [e_1]; rfl) (by decide) kz) ?_
      refine jx_of (fun _ _ kz => jw_aload_n 0 d_Y_count_86 rfl rfl kz) ?_
      refine jx_of (fun _ _ kz => jw_getPe (some (1, 0)) fl_Y_12 d_Y_count_87 rfl rfl (by simp [me_I_sI, me_I_sP, me_I_nx, me_P_sI, me_P_sP, me_P_nx, me_N_sI, me_N_sP, me_N_nx, me_L_sI, me_L_sP, me_L_nx, show me_P M 0 0 0 = some (1, 0) from hm.1 (0, 0, 0, 1, 0) (by decide)]) kz) ?_
      refine jx_of (fun _ _ kz => jw_getIe (0) fl_Y_89 d_Y_count_90 rfl rfl (by simp [me_I_sI, me_I_sP, me_I_nx, me_P_sI, me_P_sP, me_P_nx, me_N_sI, me_N_sP, me_N_nx, me_L_sI, me_L_sP, me_L_nx, show me_I M 1 0 3 = 0 from hm.2.2 (1, 0, 3, 0) (by decide)]) kz) ?_
      refine jx_iret d_Y_count_93 rfl ?_
      exact ⟨by first | (subst_vars; decide) | (rw [sw_res (sw_out t_1 (c := 8) (by decide))]), kp_rf⟩
set_option maxRecDepth 20000 in
set_option maxHeartbeats 4000000 in
theorem x_Y_gotByFirst_0 {G : Gt} {M : Me} (d : Nat) (hm : cfr M) : sx G yt_Y_gotByFirst yn_Y_gotByFirst (d + 2) [.inr (some (0, 0)), .inr (some (5, 0))] M (fun r M' => r = some (.inl 0) ∧ M = M') := by
  refine sx_of (k := 2) (lc := [some (.inr (some (0, 0))), some (.inr (some (5, 0))), none, none]) mt_Y_gotByFirst (Nat.le_of_ble_eq_true rfl) rfl ?_
  refine jx_of (fun _ _ kz => jw_aload_n 1 d_Y_gotByFirst_0 rfl rfl kz) ?_
  refine jx_of (fun _ _ kz => jw_getPe (some (4, 5)) fl_Y_175 d_Y_gotByFirst_1 rfl rfl (by simp [me_I_sI, me_I_sP, me_I_nx, me_P_sI, me_P_sP, me_P_nx, me_N_sI, me_N_sP, me_N_nx, me_L_sI, me_L_sP, me_L_nx, show me_P M 5 0 0 = some (4, 5) from hm.1 (5, 0, 0, 4, 5) (by decide)]) kz) ?_
  refine jx_callV (x_R_isEmpty _ 5 (by simp [me_I_sI, me_I_sP, me_I_nx, me_P_sI, me_P_sP, me_P_nx, me_N_sI, me_N_sP, me_N_nx, me_L_sI, me_L_sP, me_L_nx, show me_I M 4 5 1 = 0 from hm.2.2 (4, 5, 1, 0) (by decide)])) mt_R_isEmpty cf_R rfl rfl ml_Y_198 im_R_isEmpty se_R_isEmpty d_Y_gotByFirst_4 rfl rfl (Nat.le_of_ble_eq_true rfl) ?_
  rintro _ _ ⟨rfl, rfl⟩
  refine jx_eq (st2 := [.inl 1]) rfl rfl rfl ?_
  refine jx_if_eq 12 d_Y_gotByFirst_7 (by decide) (fun h => absurd h (by decide)) (fun _ => ?_)
  refine jx_of (fun _ _ kz => jw_iconst 0 d_Y_gotByFirst_10 (by decide) kz) ?_
  refine jx_iret d_Y_gotByFirst_11 rfl ?_
  exact ⟨rfl, rfl⟩
set_option maxRecDepth 20000 in
set_option maxHeartbeats 4000000 in
theorem x_Y_gate_0 {G : Gt} {M : Me} (d : Nat) (y : Int32) (hm : cfr M) : sx G yt_Y_gate yn_Y_gate (d + 3) [.inr (some (0, 0)), .inl 0, .inl y] M (fun r M' => r = some (.inl (if y < 0 then -1 else if 5 ≤ y then -1 else if y = 0 then 1 else 0)) ∧ kpM M M') := by
  refine sx_of (k := 0) (lc := [some (.inr (some (0, 0))), some (.inl 0), some (.inl y)]) mt_Y_gate (Nat.le_of_ble_eq_true rfl) rfl ?_
  refine jx_of (fun _ _ kz => jw_iload_n 1 d_Y_gate_0 rfl rfl kz) ?_
  refine jx_if_lt 9 d_Y_gate_1 (by decide) (fun h => absurd h (by decide)) (fun _ => ?_)
  refine jx_of (fun _ _ kz => jw_iload_n 1 d_Y_gate_4 rfl rfl kz) ?_
  refine jx_of (fun _ _ kz => jw_iconst 1 d_Y_gate_5 (by decide) kz) ?_
  refine jx_icmp_le 11 d_Y_gate_6 (by decide) (fun _ => ?_) (fun h => absurd h (by decide))
  refine jx_of (fun _ _ kz => jw_iload_n 2 d_Y_gate_11 rfl rfl kz) ?_
  rcases sw_cases (y) 5 (by decide) with t_12 | t_12
  · skip
    refine jx_of (fun _ _ kz => jw_tabOut 113 d_Y_gate_12 (by simpa using t_12) (by decide) kz) ?_
    refine jx_of (fun _ _ kz => jw_iconst (-1) d_Y_gate_113 (by decide) kz) ?_
    refine jx_iret d_Y_gate_114 rfl ?_
    exact ⟨by first | (subst_vars; decide) | (rw [sw_res (sw_out t_12 (c := 5) (by decide))]), kp_rf⟩
  · skip
    obtain ⟨j_12, t_12, e_12⟩ := t_12
    rcases (show j_12 = 0 ∨ j_12 = 1 ∨ j_12 = 2 ∨ j_12 = 3 ∨ j_12 = 4 by omega) with rfl | rfl | rfl | rfl | rfl
    · skip
      refine jx_of (fun _ _ kz => jw_tabIn 48 d_Y_gate_12 (by rw [e_12]; decide) (by rw [e_12]; decide) (by rw [e_12]; rfl) (by decide) kz) ?_
      refine jx_of (fun _ _ kz => jw_aload_n 0 d_Y_gate_48 rfl rfl kz) ?_
      refine jx_of (fun _ _ kz => jw_getPe (some (20, 0)) fl_Y_55 d_Y_gate_49 rfl rfl (by simp [me_I_sI, me_I_sP, me_I_nx, me_P_sI, me_P_sP, me_P_nx, me_N_sI, me_N_sP, me_N_nx, me_L_sI, me_L_sP, me_L_nx, show me_P M 0 0 8 = some (20, 0) from hm.1 (0, 0, 8, 20, 0) (by decide)]) kz) ?_
      refine jx_of (fun _ _ kz => jw_iload_n 1 d_Y_gate_52 rfl rfl kz) ?_
      refine jx_of (fun _ _ kz => jw_aalde (some (5, 0)) d_Y_gate_53 rfl rfl (by rw [show me_L _ 20 0 = 2 from (by simp [me_I_sI, me_I_sP, me_I_nx, me_P_sI, me_P_sP, me_P_nx, me_N_sI, me_N_sP, me_N_nx, me_L_sI, me_L_sP, me_L_nx, show me_L M 20 0 = 2 from hm.2.1 (20, 0, 2) (by decide)])]; unfold vp_in; decide) (by simp [me_I_sI, me_I_sP, me_I_nx, me_P_sI, me_P_sP, me_P_nx, me_N_sI, me_N_sP, me_N_nx, me_L_sI, me_L_sP, me_L_nx, show me_P M 20 0 0 = some (5, 0) from hm.1 (20, 0, 0, 5, 0) (by decide)]) kz) ?_
      refine jx_of (fun _ _ kz => jw_getIe (1) fl_Y_137 d_Y_gate_54 rfl rfl (by simp [me_I_sI, me_I_sP, me_I_nx, me_P_sI, me_P_sP, me_P_nx, me_N_sI, me_N_sP, me_N_nx, me_L_sI, me_L_sP, me_L_nx, show me_I M 5 0 1 = 1 from hm.2.2 (5, 0, 1, 1) (by decide)]) kz) ?_
      refine jx_iret d_Y_gate_57 rfl ?_
      exact ⟨by first | (subst_vars; decide) | (rw [sw_res (sw_out t_12 (c := 5) (by decide))]), kp_rf⟩
    · skip
      refine jx_of (fun _ _ kz => jw_tabIn 58 d_Y_gate_12 (by rw [e_12]; decide) (by rw [e_12]; decide) (by rw [e_12]; rfl) (by decide) kz) ?_
      refine jx_of (fun _ _ kz => jw_aload_n 0 d_Y_gate_58 rfl rfl kz) ?_
      refine jx_of (fun _ _ kz => jw_getPe (some (20, 0)) fl_Y_55 d_Y_gate_59 rfl rfl (by simp [me_I_sI, me_I_sP, me_I_nx, me_P_sI, me_P_sP, me_P_nx, me_N_sI, me_N_sP, me_N_nx, me_L_sI, me_L_sP, me_L_nx, show me_P M 0 0 8 = some (20, 0) from hm.1 (0, 0, 8, 20, 0) (by decide)]) kz) ?_
      refine jx_of (fun _ _ kz => jw_iload_n 1 d_Y_gate_62 rfl rfl kz) ?_
      refine jx_of (fun _ _ kz => jw_aalde (some (5, 0)) d_Y_gate_63 rfl rfl (by rw [show me_L _ 20 0 = 2 from (by simp [me_I_sI, me_I_sP, me_I_nx, me_P_sI, me_P_sP, me_P_nx, me_N_sI, me_N_sP, me_N_nx, me_L_sI, me_L_sP, me_L_nx, show me_L M 20 0 = 2 from hm.2.1 (20, 0, 2) (by decide)])]; unfold vp_in; decide) (by simp [me_I_sI, me_I_sP, me_I_nx, me_P_sI, me_P_sP, me_P_nx, me_N_sI, me_N_sP, me_N_nx, me_L_sI, me_L_sP, me_L_nx, show me_P M 20 0 0 = some (5, 0) from hm.1 (20, 0, 0, 5, 0) (by decide)]) kz) ?_
      refine jx_of (fun _ _ kz => jw_getPe (some (4, 5)) fl_Y_175 d_Y_gate_64 rfl rfl (by simp [me_I_sI, me_I_sP, me_I_nx, me_P_sI, me_P_sP, me_P_nx, me_N_sI, me_N_sP, me_N_nx, me_L_sI, me_L_sP, me_L_nx, show me_P M 5 0 0 = some (4, 5) from hm.1 (5, 0, 0, 4, 5) (by decide)]) kz) ?_
      refine jx_of (fun _ _ kz => jw_getIe (0) fl_Y_168 d_Y_gate_67 rfl rfl (by simp [me_I_sI, me_I_sP, me_I_nx, me_P_sI, me_P_sP, me_P_nx, me_N_sI, me_N_sP, me_N_nx, me_L_sI, me_L_sP, me_L_nx, show me_I M 4 5 1 = 0 from hm.2.2 (4, 5, 1, 0) (by decide)]) kz) ?_
      refine jx_iret d_Y_gate_70 rfl ?_
      exact ⟨by first | (subst_vars; decide) | (rw [sw_res (sw_out t_12 (c := 5) (by decide))]), kp_rf⟩
    · skip
      refine jx_of (fun _ _ kz => jw_tabIn 71 d_Y_gate_12 (by rw [e_12]; decide) (by rw [e_12]; decide) (by rw [e_12]; rfl) (by decide) kz) ?_
      refine jx_of (fun _ _ kz => jw_aload_n 0 d_Y_gate_71 rfl rfl kz) ?_
      refine jx_of (fun _ _ kz => jw_aload_n 0 d_Y_gate_72 rfl rfl kz) ?_
      refine jx_of (fun _ _ kz => jw_getPe (some (20, 0)) fl_Y_55 d_Y_gate_73 rfl rfl (by simp [me_I_sI, me_I_sP, me_I_nx, me_P_sI, me_P_sP, me_P_nx, me_N_sI, me_N_sP, me_N_nx, me_L_sI, me_L_sP, me_L_nx, show me_P M 0 0 8 = some (20, 0) from hm.1 (0, 0, 8, 20, 0) (by decide)]) kz) ?_
      refine jx_of (fun _ _ kz => jw_iload_n 1 d_Y_gate_76 rfl rfl kz) ?_
      refine jx_of (fun _ _ kz => jw_aalde (some (5, 0)) d_Y_gate_77 rfl rfl (by rw [show me_L _ 20 0 = 2 from (by simp [me_I_sI, me_I_sP, me_I_nx, me_P_sI, me_P_sP, me_P_nx, me_N_sI, me_N_sP, me_N_nx, me_L_sI, me_L_sP, me_L_nx, show me_L M 20 0 = 2 from hm.2.1 (20, 0, 2) (by decide)])]; unfold vp_in; decide) (by simp [me_I_sI, me_I_sP, me_I_nx, me_P_sI, me_P_sP, me_P_nx, me_N_sI, me_N_sP, me_N_nx, me_L_sI, me_L_sP, me_L_nx, show me_P M 20 0 0 = some (5, 0) from hm.1 (20, 0, 0, 5, 0) (by decide)]) kz) ?_
      refine jx_callV (x_Y_gotByFirst_0 _  hm) mt_Y_gotByFirst cf_Y rfl rfl ml_Y_178 im_Y_gotByFirst se_Y_gotByFirst d_Y_gate_78 rfl rfl (Nat.le_of_ble_eq_true rfl) ?_
      rintro _ _ ⟨rfl, rfl⟩
      refine jx_eq (st2 := [.inl 0]) rfl rfl rfl ?_
      refine jx_iret d_Y_gate_81 rfl ?_
      exact ⟨by first | (subst_vars; decide) | (rw [sw_res (sw_out t_12 (c := 5) (by decide))]), kp_rf⟩
    · skip
      refine jx_of (fun _ _ kz => jw_tabIn 82 d_Y_gate_12 (by rw [e_12]; decide) (by rw [e_12]; decide) (by rw [e_12]; rfl) (by decide) kz) ?_
      refine jx_of (fun _ _ kz => jw_aload_n 0 d_Y_gate_82 rfl rfl kz) ?_
      refine jx_of (fun _ _ kz => jw_getPe (some (21, 0)) fl_Y_62 d_Y_gate_83 rfl rfl (by simp [me_I_sI, me_I_sP, me_I_nx, me_P_sI, me_P_sP, me_P_nx, me_N_sI, me_N_sP, me_N_nx, me_L_sI, me_L_sP, me_L_nx, show me_P M 0 0 9 = some (21, 0) from hm.1 (0, 0, 9, 21, 0) (by decide)]) kz) ?_
      refine jx_of (fun _ _ kz => jw_iload_n 1 d_Y_gate_86 rfl rfl kz) ?_
      refine jx_of (fun _ _ kz => jw_aalde (some (6, 0)) d_Y_gate_87 rfl rfl (by rw [show me_L _ 21 0 = 2 from (by simp [me_I_sI, me_I_sP, me_I_nx, me_P_sI, me_P_sP, me_P_nx, me_N_sI, me_N_sP, me_N_nx, me_L_sI, me_L_sP, me_L_nx, show me_L M 21 0 = 2 from hm.2.1 (21, 0, 2) (by decide)])]; unfold vp_in; decide) (by simp [me_I_sI, me_I_sP, me_I_nx, me_P_sI, me_P_sP, me_P_nx, me_N_sI, me_N_sP, me_N_nx, me_L_sI, me_L_sP, me_L_nx, show me_P M 21 0 0 = some (6, 0) from hm.1 (21, 0, 0, 6, 0) (by decide)]) kz) ?_
      refine jx_of (fun _ _ kz => jw_getIe (0) fl_Y_182 d_Y_gate_88 rfl rfl (by simp [me_I_sI, me_I_sP, me_I_nx, me_P_sI, me_P_sP, me_P_nx, me_N_sI, me_N_sP, me_N_nx, me_L_sI, me_L_sP, me_L_nx, show me_I M 6 0 1 = 0 from hm.2.2 (6, 0, 1, 0) (by decide)]) kz) ?_
      refine jx_if_eq 98 d_Y_gate_91 (by decide) (fun _ => ?_) (fun h => absurd h (by decide))
      refine jx_of (fun _ _ kz => jw_iconst 0 d_Y_gate_98 (by decide) kz) ?_
      refine jx_iret d_Y_gate_99 rfl ?_
      exact ⟨by first | (subst_vars; decide) | (rw [sw_res (sw_out t_12 (c := 5) (by decide))]), kp_rf⟩
    · skip
      refine jx_of (fun _ _ kz => jw_tabIn 100 d_Y_gate_12 (by rw [e_12]; decide) (by rw [e_12]; decide) (by rw [e_12]; rfl) (by decide) kz) ?_
      refine jx_of (fun _ _ kz => jw_aload_n 0 d_Y_gate_100 rfl rfl kz) ?_
      refine jx_of (fun _ _ kz => jw_getPe (some (21, 0)) fl_Y_62 d_Y_gate_101 rfl rfl (by simp [me_I_sI, me_I_sP, me_I_nx, me_P_sI, me_P_sP, me_P_nx, me_N_sI, me_N_sP, me_N_nx, me_L_sI, me_L_sP, me_L_nx, show me_P M 0 0 9 = some (21, 0) from hm.1 (0, 0, 9, 21, 0) (by decide)]) kz) ?_
      refine jx_of (fun _ _ kz => jw_iload_n 1 d_Y_gate_104 rfl rfl kz) ?_
      refine jx_of (fun _ _ kz => jw_aalde (some (6, 0)) d_Y_gate_105 rfl rfl (by rw [show me_L _ 21 0 = 2 from (by simp [me_I_sI, me_I_sP, me_I_nx, me_P_sI, me_P_sP, me_P_nx, me_N_sI, me_N_sP, me_N_nx, me_L_sI, me_L_sP, me_L_nx, show me_L M 21 0 = 2 from hm.2.1 (21, 0, 2) (by decide)])]; unfold vp_in; decide) (by simp [me_I_sI, me_I_sP, me_I_nx, me_P_sI, me_P_sP, me_P_nx, me_N_sI, me_N_sP, me_N_nx, me_L_sI, me_L_sP, me_L_nx, show me_P M 21 0 0 = some (6, 0) from hm.1 (21, 0, 0, 6, 0) (by decide)]) kz) ?_
      refine jx_of (fun _ _ kz => jw_getPe (some (4, 7)) fl_Y_186 d_Y_gate_106 rfl rfl (by simp [me_I_sI, me_I_sP, me_I_nx, me_P_sI, me_P_sP, me_P_nx, me_N_sI, me_N_sP, me_N_nx, me_L_sI, me_L_sP, me_L_nx, show me_P M 6 0 0 = some (4, 7) from hm.1 (6, 0, 0, 4, 7) (by decide)]) kz) ?_
      refine jx_of (fun _ _ kz => jw_getIe (0) fl_Y_168 d_Y_gate_109 rfl rfl (by simp [me_I_sI, me_I_sP, me_I_nx, me_P_sI, me_P_sP, me_P_nx, me_N_sI, me_N_sP, me_N_nx, me_L_sI, me_L_sP, me_L_nx, show me_I M 4 7 1 = 0 from hm.2.2 (4, 7, 1, 0) (by decide)]) kz) ?_
      refine jx_iret d_Y_gate_112 rfl ?_
      exact ⟨by first | (subst_vars; decide) | (rw [sw_res (sw_out t_12 (c := 5) (by decide))]), kp_rf⟩
set_option maxRecDepth 20000 in
set_option maxHeartbeats 4000000 in
theorem x_Y_gotByFirst_1 {G : Gt} {M : Me} (d : Nat) (hm : cfr M) : sx G yt_Y_gotByFirst yn_Y_gotByFirst (d + 2) [.inr (some (0, 0)), .inr (some (5, 1))] M (fun r M' => r = some (.inl 0) ∧ M = M') := by
  refine sx_of (k := 2) (lc := [some (.inr (some (0, 0))), some (.inr (some (5, 1))), none, none]) mt_Y_gotByFirst (Nat.le_of_ble_eq_true rfl) rfl ?_
  refine jx_of (fun _ _ kz => jw_aload_n 1 d_Y_gotByFirst_0 rfl rfl kz) ?_
  refine jx_of (fun _ _ kz => jw_getPe (some (4, 6)) fl_Y_175 d_Y_gotByFirst_1 rfl rfl (by simp [me_I_sI, me_I_sP, me_I_nx, me_P_sI, me_P_sP, me_P_nx, me_N_sI, me_N_sP, me_N_nx, me_L_sI, me_L_sP, me_L_nx, show me_P M 5 1 0 = some (4, 6) from hm.1 (5, 1, 0, 4, 6) (by decide)]) kz) ?_
  refine jx_callV (x_R_isEmpty _ 6 (by simp [me_I_sI, me_I_sP, me_I_nx, me_P_sI, me_P_sP, me_P_nx, me_N_sI, me_N_sP, me_N_nx, me_L_sI, me_L_sP, me_L_nx, show me_I M 4 6 1 = 0 from hm.2.2 (4, 6, 1, 0) (by decide)])) mt_R_isEmpty cf_R rfl rfl ml_Y_198 im_R_isEmpty se_R_isEmpty d_Y_gotByFirst_4 rfl rfl (Nat.le_of_ble_eq_true rfl) ?_
  rintro _ _ ⟨rfl, rfl⟩
  refine jx_eq (st2 := [.inl 1]) rfl rfl rfl ?_
  refine jx_if_eq 12 d_Y_gotByFirst_7 (by decide) (fun h => absurd h (by decide)) (fun _ => ?_)
  refine jx_of (fun _ _ kz => jw_iconst 0 d_Y_gotByFirst_10 (by decide) kz) ?_
  refine jx_iret d_Y_gotByFirst_11 rfl ?_
  exact ⟨rfl, rfl⟩
set_option maxRecDepth 20000 in
set_option maxHeartbeats 4000000 in
theorem x_Y_gate_1 {G : Gt} {M : Me} (d : Nat) (y : Int32) (hm : cfr M) : sx G yt_Y_gate yn_Y_gate (d + 3) [.inr (some (0, 0)), .inl 1, .inl y] M (fun r M' => r = some (.inl (if y < 0 then -1 else if 5 ≤ y then -1 else if y = 0 then 1 else 0)) ∧ kpM M M') := by
  refine sx_of (k := 0) (lc := [some (.inr (some (0, 0))), some (.inl 1), some (.inl y)]) mt_Y_gate (Nat.le_of_ble_eq_true rfl) rfl ?_
  refine jx_of (fun _ _ kz => jw_iload_n 1 d_Y_gate_0 rfl rfl kz) ?_
  refine jx_if_lt 9 d_Y_gate_1 (by decide) (fun h => absurd h (by decide)) (fun _ => ?_)
  refine jx_of (fun _ _ kz => jw_iload_n 1 d_Y_gate_4 rfl rfl kz) ?_
  refine jx_of (fun _ _ kz => jw_iconst 1 d_Y_gate_5 (by decide) kz) ?_
  refine jx_icmp_le 11 d_Y_gate_6 (by decide) (fun _ => ?_) (fun h => absurd h (by decide))
  refine jx_of (fun _ _ kz => jw_iload_n 2 d_Y_gate_11 rfl rfl kz) ?_
  rcases sw_cases (y) 5 (by decide) with t_12 | t_12
  · skip
    refine jx_of (fun _ _ kz => jw_tabOut 113 d_Y_gate_12 (by simpa using t_12) (by decide) kz) ?_
    refine jx_of (fun _ _ kz => jw_iconst (-1) d_Y_gate_113 (by decide) kz) ?_
    refine jx_iret d_Y_gate_114 rfl ?_
    exact ⟨by first | (subst_vars; decide) | (rw [sw_res (sw_out t_12 (c := 5) (by decide))]), kp_rf⟩
  · skip
    obtain ⟨j_12, t_12, e_12⟩ := t_12
    rcases (show j_12 = 0 ∨ j_12 = 1 ∨ j_12 = 2 ∨ j_12 = 3 ∨ j_12 = 4 by omega) with rfl | rfl | rfl | rfl | rfl
    · skip
      refine jx_of (fun _ _ kz => jw_tabIn 48 d_Y_gate_12 (by rw [e_12]; decide) (by rw [e_12]; decide) (by rw [e_12]; rfl) (by decide) kz) ?_
      refine jx_of (fun _ _ kz => jw_aload_n 0 d_Y_gate_48 rfl rfl kz) ?_
      refine jx_of (fun _ _ kz => jw_getPe (some (20, 0)) fl_Y_55 d_Y_gate_49 rfl rfl (by simp [me_I_sI, me_I_sP, me_I_nx, me_P_sI, me_P_sP, me_P_nx, me_N_sI, me_N_sP, me_N_nx, me_L_sI, me_L_sP, me_L_nx, show me_P M 0 0 8 = some (20, 0) from hm.1 (0, 0, 8, 20, 0) (by decide)]) kz) ?_
      refine jx_of (fun _ _ kz => jw_iload_n 1 d_Y_gate_52 rfl rfl kz) ?_
      refine jx_of (fun _ _ kz => jw_aalde (some (5, 1)) d_Y_gate_53 rfl rfl (by rw [show me_L _ 20 0 = 2 from (by simp [me_I_sI, me_I_sP, me_I_nx, me_P_sI, me_P_sP, me_P_nx, me_N_sI, me_N_sP, me_N_nx, me_L_sI, me_L_sP, me_L_nx, show me_L M 20 0 = 2 from hm.2.1 (20, 0, 2) (by decide)])]; unfold vp_in; decide) (by simp [me_I_sI, me_I_sP, me_I_nx, me_P_sI, me_P_sP, me_P_nx, me_N_sI, me_N_sP, me_N_nx, me_L_sI, me_L_sP, me_L_nx, show me_P M 20 0 1 = some (5, 1) from hm.1 (20, 0, 1, 5, 1) (by decide)]) kz) ?_
      refine jx_of (fun _ _ kz => jw_getIe (1) fl_Y_137 d_Y_gate_54 rfl rfl (by simp [me_I_sI, me_I_sP, me_I_nx, me_P_sI, me_P_sP, me_P_nx, me_N_sI, me_N_sP, me_N_nx, me_L_sI, me_L_sP, me_L_nx, show me_I M 5 1 1 = 1 from hm.2.2 (5, 1, 1, 1) (by decide)]) kz) ?_
      refine jx_iret d_Y_gate_57 rfl ?_
      exact ⟨by first | (subst_vars; decide) | (rw [sw_res (sw_out t_12 (c := 5) (by decide))]), kp_rf⟩
    · skip
      refine jx_of (fun _ _ kz => jw_tabIn 58 d_Y_gate_12 (by rw [e_12]; decide) (by rw [e_12]; decide) (by rw [e_12]; rfl) (by decide) kz) ?_
      refine jx_of (fun _ _ kz => jw_aload_n 0 d_Y_gate_58 rfl rfl kz) ?_
      refine jx_of (fun _ _ kz => jw_getPe (some (20, 0)) fl_Y_55 d_Y_gate_59 rfl rfl (by simp [me_I_sI, me_I_sP, me_I_nx, me_P_sI, me_P_sP, me_P_nx, me_N_sI, me_N_sP, me_N_nx, me_L_sI, me_L_sP, me_L_nx, show me_P M 0 0 8 = some (20, 0) from hm.1 (0, 0, 8, 20, 0) (by decide)]) kz) ?_
      refine jx_of (fun _ _ kz => jw_iload_n 1 d_Y_gate_62 rfl rfl kz) ?_
      refine jx_of (fun _ _ kz => jw_aalde (some (5, 1)) d_Y_gate_63 rfl rfl (by rw [show me_L _ 20 0 = 2 from (by simp [me_I_sI, me_I_sP, me_I_nx, me_P_sI, me_P_sP, me_P_nx, me_N_sI, me_N_sP, me_N_nx, me_L_sI, me_L_sP, me_L_nx, show me_L M 20 0 = 2 from hm.2.1 (20, 0, 2) (by decide)])]; unfold vp_in; decide) (by simp [me_I_sI, me_I_sP, me_I_nx, me_P_sI, me_P_sP, me_P_nx, me_N_sI, me_N_sP, me_N_nx, me_L_sI, me_L_sP, me_L_nx, show me_P M 20 0 1 = some (5, 1) from hm.1 (20, 0, 1, 5, 1) (by decide)]) kz) ?_
      refine jx_of (fun _ _ kz => jw_getPe (some (4, 6)) fl_Y_175 d_Y_gate_64 rfl rfl (by simp [me_I_sI, me_I_sP, me_I_nx, me_P_sI, me_P_sP, me_P_nx, me_N_sI, me_N_sP, me_N_nx, me_L_sI, me_L_sP, me_L_nx, show me_P M 5 1 0 = some (4, 6) from hm.1 (5, 1, 0, 4, 6) (by decide)]) kz) ?_
      refine jx_of (fun _ _ kz => jw_getIe (0) fl_Y_168 d_Y_gate_67 rfl rfl (by simp [me_I_sI, me_I_sP, me_I_nx, me_P_sI, me_P_sP, me_P_nx, me_N_sI, me_N_sP, me_N_nx, me_L_sI, me_L_sP, me_L_nx, show me_I M 4 6 1 = 0 from hm.2.2 (4, 6, 1, 0) (by decide)]) kz) ?_
      refine jx_iret d_Y_gate_70 rfl ?_
      exact ⟨by first | (subst_vars; decide) | (rw [sw_res (sw_out t_12 (c := 5) (by decide))]), kp_rf⟩
    · skip
      refine jx_of (fun _ _ kz => jw_tabIn 71 d_Y_gate_12 (by rw [e_12]; decide) (by rw [e_12]; decide) (by rw [e_12]; rfl) (by decide) kz) ?_
      refine jx_of (fun _ _ kz => jw_aload_n 0 d_Y_gate_71 rfl rfl kz) ?_
      refine jx_of (fun _ _ kz => jw_aload_n 0 d_Y_gate_72 rfl rfl kz) ?_
      refine jx_of (fun _ _ kz => jw_getPe (some (20, 0)) fl_Y_55 d_Y_gate_73 rfl rfl (by simp [me_I_sI, me_I_sP, me_I_nx, me_P_sI, me_P_sP, me_P_nx, me_N_sI, me_N_sP, me_N_nx, me_L_sI, me_L_sP, me_L_nx, show me_P M 0 0 8 = some (20, 0) from hm.1 (0, 0, 8, 20, 0) (by decide)]) kz) ?_
      refine jx_of (fun _ _ kz => jw_iload_n 1 d_Y_gate_76 rfl rfl kz) ?_
      refine jx_of (fun _ _ kz => jw_aalde (some (5, 1)) d_Y_gate_77 rfl rfl (by rw [show me_L _ 20 0 = 2 from (by simp [me_I_sI, me_I_sP, me_I_nx, me_P_sI, me_P_sP, me_P_nx, me_N_sI, me_N_sP, me_N_nx, me_L_sI, me_L_sP, me_L_nx, show me_L M 20 0 = 2 from hm.2.1 (20, 0, 2) (by decide)])]; unfold vp_in; decide) (by simp [me_I_sI, me_I_sP, me_I_nx, me_P_sI, me_P_sP, me_P_nx, me_N_sI, me_N_sP, me_N_nx, me_L_sI, me_L_sP, me_L_nx, show me_P M 20 0 1 = some (5, 1) from hm.1 (20, 0, 1, 5, 1) (by decide)]) kz) ?_
      refine jx_callV (x_Y_gotByFirst_1 _  hm) mt_Y_gotByFirst cf_Y rfl rfl ml_Y_178 im_Y_gotByFirst se_Y_gotByFirst d_Y_gate_78 rfl rfl (Nat.le_of_ble_eq_true rfl) ?_
      rintro _ _ ⟨rfl, rfl⟩
      refine jx_eq (st2 := [.inl 0]) rfl rfl rfl ?_
      refine jx_iret d_Y_gate_81 rfl ?_
      exact ⟨by first | (subst_vars; decide) | (rw [sw_res (sw_out t_12 (c := 5) (by decide))]), kp_rf⟩
    · skip
      refine jx_of (fun _ _ kz => jw_tabIn 82 d_Y_gate_12 (by rw [e_12]; decide) (by rw [e_12]; decide) (by rw [e_12]; rfl) (by decide) kz) ?_
      refine jx_of (fun _ _ kz => jw_aload_n 0 d_Y_gate_82 rfl rfl kz) ?_
      refine jx_of (fun _ _ kz => jw_getPe (some (21, 0)) fl_Y_62 d_Y_gate_83 rfl rfl (by simp [me_I_sI, me_I_sP, me_I_nx, me_P_sI, me_P_sP, me_P_nx, me_N_sI, me_N_sP, me_N_nx, me_L_sI, me_L_sP, me_L_nx, show me_P M 0 0 9 = some (21, 0) from hm.1 (0, 0, 9, 21, 0) (by decide)]) kz) ?_
      refine jx_of (fun _ _ kz => jw_iload_n 1 d_Y_gate_86 rfl rfl kz) ?_
      refine jx_of (fun _ _ kz => jw_aalde (some (6, 1)) d_Y_gate_87 rfl rfl (by rw [show me_L _ 21 0 = 2 from (by simp [me_I_sI, me_I_sP, me_I_nx, me_P_sI, me_P_sP, me_P_nx, me_N_sI, me_N_sP, me_N_nx, me_L_sI, me_L_sP, me_L_nx, show me_L M 21 0 = 2 from hm.2.1 (21, 0, 2) (by decide)])]; unfold vp_in; decide) (by simp [me_I_sI, me_I_sP, me_I_nx, me_P_sI, me_P_sP, me_P_nx, me_N_sI, me_N_sP, me_N_nx, me_L_sI, me_L_sP, me_L_nx, show me_P M 21 0 1 = some (6, 1) from hm.1 (21, 0, 1, 6, 1) (by decide)]) kz) ?_
      refine jx_of (fun _ _ kz => jw_getIe (0) fl_Y_182 d_Y_gate_88 rfl rfl (by simp [me_I_sI, me_I_sP, me_I_nx, me_P_sI, me_P_sP, me_P_nx, me_N_sI, me_N_sP, me_N_nx, me_L_sI, me_L_sP, me_L_nx, show me_I M 6 1 1 = 0 from hm.2.2 (6, 1, 1, 0) (by decide)]) kz) ?_
      refine jx_if_eq 98 d_Y_gate_91 (by decide) (fun _ => ?_) (fun h => absurd h (by decide))
      refine jx_of (fun _ _ kz => jw_iconst 0 d_Y_gate_98 (by decide) kz) ?_
      refine jx_iret d_Y_gate_99 rfl ?_
      exact ⟨by first | (subst_vars; decide) | (rw [sw_res (sw_out t_12 (c := 5) (by decide))]), kp_rf⟩
    · skip
      refine jx_of (fun _ _ kz => jw_tabIn 100 d_Y_gate_12 (by rw [e_12]; decide) (by rw [e_12]; decide) (by rw [e_12]; rfl) (by decide) kz) ?_
      refine jx_of (fun _ _ kz => jw_aload_n 0 d_Y_gate_100 rfl rfl kz) ?_
      refine jx_of (fun _ _ kz => jw_getPe (some (21, 0)) fl_Y_62 d_Y_gate_101 rfl rfl (by simp [me_I_sI, me_I_sP, me_I_nx, me_P_sI, me_P_sP, me_P_nx, me_N_sI, me_N_sP, me_N_nx, me_L_sI, me_L_sP, me_L_nx, show me_P M 0 0 9 = some (21, 0) from hm.1 (0, 0, 9, 21, 0) (by decide)]) kz) ?_
      refine jx_of (fun _ _ kz => jw_iload_n 1 d_Y_gate_104 rfl rfl kz) ?_
      refine jx_of (fun _ _ kz => jw_aalde (some (6, 1)) d_Y_gate_105 rfl rfl (by rw [show me_L _ 21 0 = 2 from (by simp [me_I_sI, me_I_sP, me_I_nx, me_P_sI, me_P_sP, me_P_nx, me_N_sI, me_N_sP, me_N_nx, me_L_sI, me_L_sP, me_L_nx, show me_L M 21 0 = 2 from hm.2.1 (21, 0, 2) (by decide)])]; unfold vp_in; decide) (by simp [me_I_sI, me_I_sP, me_I_nx, me_P_sI, me_P_sP, me_P_nx, me_N_sI, me_N_sP, me_N_nx, me_L_sI, me_L_sP, me_L_nx, show me_P M 21 0 1 = some (6, 1) from hm.1 (21, 0, 1, 6, 1) (by decide)]) kz) ?_
      refine jx_of (fun _ _ kz => jw_getPe (some (4, 8)) fl_Y_186 d_Y_gate_106 rfl rfl (by simp [me_I_sI, me_I_sP, me_I_nx, me_P_sI, me_P_sP, me_P_nx, me_N_sI, me_N_sP, me_N_nx, me_L_sI, me_L_sP, me_L_nx, show me_P M 6 1 0 = some (4, 8) from hm.1 (6, 1, 0, 4, 8) (by decide)]) kz) ?_
      refine jx_of (fun _ _ kz => jw_getIe (0) fl_Y_168 d_Y_gate_109 rfl rfl (by simp [me_I_sI, me_I_sP, me_I_nx, me_P_sI, me_P_sP, me_P_nx, me_N_sI, me_N_sP, me_N_nx, me_L_sI, me_L_sP, me_L_nx, show me_I M 4 8 1 = 0 from hm.2.2 (4, 8, 1, 0) (by decide)]) kz) ?_
      refine jx_iret d_Y_gate_112 rfl ?_
      exact ⟨by first | (subst_vars; decide) | (rw [sw_res (sw_out t_12 (c := 5) (by decide))]), kp_rf⟩
set_option maxRecDepth 20000 in
set_option maxHeartbeats 4000000 in
theorem x_Y_gate_x {G : Gt} {M : Me} (d : Nat) (x : Int32) (y : Int32) (hm : cfr M) (hx : x < 0 ∨ 1 < x) : sx G yt_Y_gate yn_Y_gate (d + 3) [.inr (some (0, 0)), .inl x, .inl y] M (fun r M' => r = some (.inl (-1)) ∧ kpM M M') := by
  refine sx_of (k := 0) (lc := [some (.inr (some (0, 0))), some (.inl x), some (.inl y)]) mt_Y_gate (Nat.le_of_ble_eq_true rfl) rfl ?_
  refine jx_of (fun _ _ kz => jw_iload_n 1 d_Y_gate_0 rfl rfl kz) ?_
  refine jx_if_lt 9 d_Y_gate_1 (by decide) (fun b_1 => ?_) (fun b_1 => ?_)
  · skip
    refine jx_of (fun _ _ kz => jw_iconst (-1) d_Y_gate_9 (by decide) kz) ?_
    refine jx_iret d_Y_gate_10 rfl ?_
    exact ⟨rfl, kp_rf⟩
  · skip
    refine jx_of (fun _ _ kz => jw_iload_n 1 d_Y_gate_4 rfl rfl kz) ?_
    refine jx_of (fun _ _ kz => jw_iconst 1 d_Y_gate_5 (by decide) kz) ?_
    refine jx_icmp_le 11 d_Y_gate_6 (by decide) (fun h => absurd h (by rcases hx with q | q; exact absurd q b_1; exact Int32.not_le.mpr q)) (fun _ => ?_)
    refine jx_of (fun _ _ kz => jw_iconst (-1) d_Y_gate_9 (by decide) kz) ?_
    refine jx_iret d_Y_gate_10 rfl ?_
    exact ⟨rfl, kp_rf⟩
set_option maxRecDepth 20000 in
set_option maxHeartbeats 4000000 in
theorem x_Y_worker_0 {G : Gt} {M : Me} (d : Nat) (y : Int32) (hm : cfr M) : sx G yt_Y_worker yn_Y_worker (d + 2) [.inr (some (0, 0)), .inl 0, .inl y] M (fun r M' => r = some (.inl (if y < 0 then -1 else if 8 ≤ y then -1 else if y = 0 then -1 else if y < 3 then 0 else if y < 7 then -1 else 0)) ∧ kpM M M') := by
  refine sx_of (k := 1) (lc := [some (.inr (some (0, 0))), some (.inl 0), some (.inl y), none]) mt_Y_worker (Nat.le_of_ble_eq_true rfl) rfl ?_
  refine jx_of (fun _ _ kz => jw_iload_n 1 d_Y_worker_0 rfl rfl kz) ?_
  refine jx_if_lt 9 d_Y_worker_1 (by decide) (fun h => absurd h (by decide)) (fun _ => ?_)
  refine jx_of (fun _ _ kz => jw_iload_n 1 d_Y_worker_4 rfl rfl kz) ?_
  refine jx_of (fun _ _ kz => jw_iconst 3 d_Y_worker_5 (by decide) kz) ?_
  refine jx_icmp_lt 11 d_Y_worker_6 (by decide) (fun _ => ?_) (fun h => absurd h (by decide))
  refine jx_of (fun _ _ kz => jw_aload_n 0 d_Y_worker_11 rfl rfl kz) ?_
  refine jx_of (fun _ _ kz => jw_getPe (some (19, 0)) fl_Y_38 d_Y_worker_12 rfl rfl (by simp [me_I_sI, me_I_sP, me_I_nx, me_P_sI, me_P_sP, me_P_nx, me_N_sI, me_N_sP, me_N_nx, me_L_sI, me_L_sP, me_L_nx, show me_P M 0 0 5 = some (19, 0) from hm.1 (0, 0, 5, 19, 0) (by decide)]) kz) ?_
  refine jx_of (fun _ _ kz => jw_iload_n 1 d_Y_worker_15 rfl rfl kz) ?_
  refine jx_of (fun _ _ kz => jw_aalde (some (3, 0)) d_Y_worker_16 rfl rfl (by rw [show me_L _ 19 0 = 3 from (by simp [me_I_sI, me_I_sP, me_I_nx, me_P_sI, me_P_sP, me_P_nx, me_N_sI, me_N_sP, me_N_nx, me_L_sI, me_L_sP, me_L_nx, show me_L M 19 0 = 3 from hm.2.1 (19, 0, 3) (by decide)])]; unfold vp_in; decide) (by simp [me_I_sI, me_I_sP, me_I_nx, me_P_sI, me_P_sP, me_P_nx, me_N_sI, me_N_sP, me_N_nx, me_L_sI, me_L_sP, me_L_nx, show me_P M 19 0 0 = some (3, 0) from hm.1 (19, 0, 0, 3, 0) (by decide)]) kz) ?_
  refine jx_of (fun _ _ kz => jw_astore_n 3 d_Y_worker_17 rfl (Nat.le_of_ble_eq_true rfl) kz) ?_
  dsimp only [List.set]
  refine jx_of (fun _ _ kz => jw_iload_n 2 d_Y_worker_18 rfl rfl kz) ?_
  rcases sw_cases (y) 8 (by decide) with t_19 | t_19
  · skip
    refine jx_of (fun _ _ kz => jw_tabOut 98 d_Y_worker_19 (by simpa using t_19) (by decide) kz) ?_
    refine jx_of (fun _ _ kz => jw_iconst (-1) d_Y_worker_98 (by decide) kz) ?_
    refine jx_iret d_Y_worker_99 rfl ?_
    exact ⟨by first | (subst_vars; decide) | (rw [sw_res (sw_out t_19 (c := 8) (by decide))]), kp_rf⟩
  · skip
    obtain ⟨j_19, t_19, e_19⟩ := t_19
    rcases (show j_19 = 0 ∨ j_19 = 1 ∨ j_19 = 2 ∨ j_19 = 3 ∨ j_19 = 4 ∨ j_19 = 5 ∨ j_19 = 6 ∨ j_19 = 7 by omega) with rfl | rfl | rfl | rfl | rfl | rfl | rfl | rfl
    · skip
      refine jx_of (fun _ _ kz => jw_tabIn 64 d_Y_worker_19 (by rw [e_19]; decide) (by rw [e_19]; decide) (by rw [e_19]; rfl) (by decide) kz) ?_
      refine jx_of (fun _ _ kz => jw_aload_n 3 d_Y_worker_64 rfl rfl kz) ?_
      refine jx_of (fun _ _ kz => jw_getIe ((-1)) fl_Y_159 d_Y_worker_65 rfl rfl (by simp [me_I_sI, me_I_sP, me_I_nx, me_P_sI, me_P_sP, me_P_nx, me_N_sI, me_N_sP, me_N_nx, me_L_sI, me_L_sP, me_L_nx, show me_I M 3 0 2 = (-1) from hm.2.2 (3, 0, 2, (-1)) (by decide)]) kz) ?_
      refine jx_iret d_Y_worker_68 rfl ?_
      exact ⟨by first | (subst_vars; decide) | (rw [sw_res (sw_out t_19 (c := 8) (by decide))]), kp_rf⟩
    · skip
      refine jx_of (fun _ _ kz => jw_tabIn 69 d_Y_worker_19 (by rw [e_19]; decide) (by rw [e_19]; decide) (by rw [e_19]; rfl) (by decide) kz) ?_
      refine jx_of (fun _ _ kz => jw_aload_n 3 d_Y_worker_69 rfl rfl kz) ?_
      refine jx_of (fun _ _ kz => jw_getIe (0) fl_Y_162 d_Y_worker_70 rfl rfl (by simp [me_I_sI, me_I_sP, me_I_nx, me_P_sI, me_P_sP, me_P_nx, me_N_sI, me_N_sP, me_N_nx, me_L_sI, me_L_sP, me_L_nx, show me_I M 3 0 3 = 0 from hm.2.2 (3, 0, 3, 0) (by decide)]) kz) ?_
      refine jx_iret d_Y_worker_73 rfl ?_
      exact ⟨by first | (subst_vars; decide) | (rw [sw_res (sw_out t_19 (c := 8) (by decide))]), kp_rf⟩
    · skip
      refine jx_of (fun _ _ kz => jw_tabIn 74 d_Y_worker_19 (by rw [e_19]; decide) (by rw [e_19]; decide) (by rw [e_19]; rfl) (by decide) kz) ?_
      refine jx_of (fun _ _ kz => jw_aload_n 3 d_Y_worker_74 rfl rfl kz) ?_
      refine jx_of (fun _ _ kz => jw_getPe (some (4, 0)) fl_Y_165 d_Y_worker_75 rfl rfl (by simp [me_I_sI, me_I_sP, me_I_nx, me_P_sI, me_P_sP, me_P_nx, me_N_sI, me_N_sP, me_N_nx, me_L_sI, me_L_sP, me_L_nx, show me_P M 3 0 1 = some (4, 0) from hm.1 (3, 0, 1, 4, 0) (by decide)]) kz) ?_
      refine jx_of (fun _ _ kz => jw_getIe (0) fl_Y_168 d_Y_worker_78 rfl rfl (by simp [me_I_sI, me_I_sP, me_I_nx, me_P_sI, me_P_sP, me_P_nx, me_N_sI, me_N_sP, me_N_nx, me_L_sI, me_L_sP, me_L_nx, show me_I M 4 0 1 = 0 from hm.2.2 (4, 0, 1, 0) (by decide)]) kz) ?_
      refine jx_iret d_Y_worker_81 rfl ?_
      exact ⟨by first | (subst_vars; decide) | (rw [sw_res (sw_out t_19 (c := 8) (by decide))]), kp_rf⟩
    · skip
      refine jx_of (fun _ _ kz => jw_tabIn 82 d_Y_worker_19 (by rw [e_19]; decide) (by rw [e_19]; decide) (by rw [e_19]; rfl) (by decide) kz) ?_
      refine jx_of (fun _ _ kz => jw_aload_n 3 d_Y_worker_82 rfl rfl kz) ?_
      refine jx_of (fun _ _ kz => jw_getPe (some (4, 0)) fl_Y_165 d_Y_worker_83 rfl rfl (by simp [me_I_sI, me_I_sP, me_I_nx, me_P_sI, me_P_sP, me_P_nx, me_N_sI, me_N_sP, me_N_nx, me_L_sI, me_L_sP, me_L_nx, show me_P M 3 0 1 = some (4, 0) from hm.1 (3, 0, 1, 4, 0) (by decide)]) kz) ?_
      refine jx_of (fun _ _ kz => jw_iload_n 2 d_Y_worker_86 rfl rfl kz) ?_
      refine jx_of (fun _ _ kz => jw_iconst 3 d_Y_worker_87 (by decide) kz) ?_
      refine jx_of (fun _ _ kz => jw_isub d_Y_worker_88 kz) ?_
      refine jx_callV (x_R_at _ 0 ((y - 3)) (by simp [me_I_sI, me_I_sP, me_I_nx, me_P_sI, me_P_sP, me_P_nx, me_N_sI, me_N_sP, me_N_nx, me_L_sI, me_L_sP, me_L_nx, show me_I M 4 0 1 = 0 from hm.2.2 (4, 0, 1, 0) (by decide)])) mt_R_at cf_R rfl rfl ml_Y_169 im_R_at se_R_at d_Y_worker_89 rfl rfl (Nat.le_of_ble_eq_true rfl) ?_
      rintro _ _ ⟨rfl, rfl⟩
      refine jx_eq (st2 := [.inl ((-1))]) rfl rfl rfl ?_
      refine jx_iret d_Y_worker_92 rfl ?_
      exact ⟨by first | (subst_vars; decide) | (rw [sw_res (sw_out t_19 (c := 8) (by decide))]), kp_rf⟩
    · skip
      refine jx_of (fun _ _ kz => jw_tabIn 82 d_Y_worker_19 (by rw [e_19]; decide) (by rw [e_19]; decide) (by rw [e_19]; rfl) (by decide) kz) ?_
      refine jx_of (fun _ _ kz => jw_aload_n 3 d_Y_worker_82 rfl rfl kz) ?_
      refine jx_of (fun _ _ kz => jw_getPe (some (4, 0)) fl_Y_165 d_Y_worker_83 rfl rfl (by simp [me_I_sI, me_I_sP, me_I_nx, me_P_sI, me_P_sP, me_P_nx, me_N_sI, me_N_sP, me_N_nx, me_L_sI, me_L_sP, me_L_nx, show me_P M 3 0 1 = some (4, 0) from hm.1 (3, 0, 1, 4, 0) (by decide)]) kz) ?_
      refine jx_of (fun _ _ kz => jw_iload_n 2 d_Y_worker_86 rfl rfl kz) ?_
      refine jx_of (fun _ _ kz => jw_iconst 3 d_Y_worker_87 (by decide) kz) ?_
      refine jx_of (fun _ _ kz => jw_isub d_Y_worker_88 kz) ?_
      refine jx_callV (x_R_at _ 0 ((y - 3)) (by simp [me_I_sI, me_I_sP, me_I_nx, me_P_sI, me_P_sP, me_P_nx, me_N_sI, me_N_sP, me_N_nx, me_L_sI, me_L_sP, me_L_nx, show me_I M 4 0 1 = 0 from hm.2.2 (4, 0, 1, 0) (by decide)])) mt_R_at cf_R rfl rfl ml_Y_169 im_R_at se_R_at d_Y_worker_89 rfl rfl (Nat.le_of_ble_eq_true rfl) ?_
      rintro _ _ ⟨rfl, rfl⟩
      refine jx_eq (st2 := [.inl ((-1))]) rfl rfl rfl ?_
      refine jx_iret d_Y_worker_92 rfl ?_
      exact ⟨by first | (subst_vars; decide) | (rw [sw_res (sw_out t_19 (c := 8) (by decide))]), kp_rf⟩
    · skip
      refine jx_of (fun _ _ kz => jw_tabIn 82 d_Y_worker_19 (by rw [e_19]; decide) (by rw [e_19]; decide) (by rw [e_19]; rfl) (by decide) kz) ?_
      refine jx_of (fun _ _ kz => jw_aload_n 3 d_Y_worker_82 rfl rfl kz) ?_
      refine jx_of (fun _ _ kz => jw_getPe (some (4, 0)) fl_Y_165 d_Y_worker_83 rfl rfl (by simp [me_I_sI, me_I_sP, me_I_nx, me_P_sI, me_P_sP, me_P_nx, me_N_sI, me_N_sP, me_N_nx, me_L_sI, me_L_sP, me_L_nx, show me_P M 3 0 1 = some (4, 0) from hm.1 (3, 0, 1, 4, 0) (by decide)]) kz) ?_
      refine jx_of (fun _ _ kz => jw_iload_n 2 d_Y_worker_86 rfl rfl kz) ?_
      refine jx_of (fun _ _ kz => jw_iconst 3 d_Y_worker_87 (by decide) kz) ?_
      refine jx_of (fun _ _ kz => jw_isub d_Y_worker_88 kz) ?_
      refine jx_callV (x_R_at _ 0 ((y - 3)) (by simp [me_I_sI, me_I_sP, me_I_nx, me_P_sI, me_P_sP, me_P_nx, me_N_sI, me_N_sP, me_N_nx, me_L_sI, me_L_sP, me_L_nx, show me_I M 4 0 1 = 0 from hm.2.2 (4, 0, 1, 0) (by decide)])) mt_R_at cf_R rfl rfl ml_Y_169 im_R_at se_R_at d_Y_worker_89 rfl rfl (Nat.le_of_ble_eq_true rfl) ?_
      rintro _ _ ⟨rfl, rfl⟩
      refine jx_eq (st2 := [.inl ((-1))]) rfl rfl rfl ?_
      refine jx_iret d_Y_worker_92 rfl ?_
      exact ⟨by first | (subst_vars; decide) | (rw [sw_res (sw_out t_19 (c := 8) (by decide))]), kp_rf⟩
    · skip
      refine jx_of (fun _ _ kz => jw_tabIn 82 d_Y_worker_19 (by rw [e_19]; decide) (by rw [e_19]; decide) (by rw [e_19]; rfl) (by decide) kz) ?_
      refine jx_of (fun _ _ kz => jw_aload_n 3 d_Y_worker_82 rfl rfl kz) ?_
      refine jx_of (fun _ _ kz => jw_getPe (some (4, 0)) fl_Y_165 d_Y_worker_83 rfl rfl (by simp [me_I_sI, me_I_sP, me_I_nx, me_P_sI, me_P_sP, me_P_nx, me_N_sI, me_N_sP, me_N_nx, me_L_sI, me_L_sP, me_L_nx, show me_P M 3 0 1 = some (4, 0) from hm.1 (3, 0, 1, 4, 0) (by decide)]) kz) ?_
      refine jx_of (fun _ _ kz => jw_iload_n 2 d_Y_worker_86 rfl rfl kz) ?_
      refine jx_of (fun _ _ kz => jw_iconst 3 d_Y_worker_87 (by decide) kz) ?_
      refine jx_of (fun _ _ kz => jw_isub d_Y_worker_88 kz) ?_
      refine jx_callV (x_R_at _ 0 ((y - 3)) (by simp [me_I_sI, me_I_sP, me_I_nx, me_P_sI, me_P_sP, me_P_nx, me_N_sI, me_N_sP, me_N_nx, me_L_sI, me_L_sP, me_L_nx, show me_I M 4 0 1 = 0 from hm.2.2 (4, 0, 1, 0) (by decide)])) mt_R_at cf_R rfl rfl ml_Y_169 im_R_at se_R_at d_Y_worker_89 rfl rfl (Nat.le_of_ble_eq_true rfl) ?_
      rintro _ _ ⟨rfl, rfl⟩
      refine jx_eq (st2 := [.inl ((-1))]) rfl rfl rfl ?_
      refine jx_iret d_Y_worker_92 rfl ?_
      exact ⟨by first | (subst_vars; decide) | (rw [sw_res (sw_out t_19 (c := 8) (by decide))]), kp_rf⟩
    · skip
      refine jx_of (fun _ _ kz => jw_tabIn 93 d_Y_worker_19 (by rw [e_19]; decide) (by rw [e_19]; decide) (by rw [e_19]; rfl) (by decide) kz) ?_
      refine jx_of (fun _ _ kz => jw_aload_n 3 d_Y_worker_93 rfl rfl kz) ?_
      refine jx_of (fun _ _ kz => jw_getIe (0) fl_Y_172 d_Y_worker_94 rfl rfl (by simp [me_I_sI, me_I_sP, me_I_nx, me_P_sI, me_P_sP, me_P_nx, me_N_sI, me_N_sP, me_N_nx, me_L_sI, me_L_sP, me_L_nx, show me_I M 3 0 4 = 0 from hm.2.2 (3, 0, 4, 0) (by decide)]) kz) ?_
      refine jx_iret d_Y_worker_97 rfl ?_
      exact ⟨by first | (subst_vars; decide) | (rw [sw_res (sw_out t_19 (c := 8) (by decide))]), kp_rf⟩
set_option maxRecDepth 20000 in
set_option maxHeartbeats 4000000 in
theorem x_Y_worker_1 {G : Gt} {M : Me} (d : Nat) (y : Int32) (hm : cfr M) : sx G yt_Y_worker yn_Y_worker (d + 2) [.inr (some (0, 0)), .inl 1, .inl y] M (fun r M' => r = some (.inl (if y < 0 then -1 else if 8 ≤ y then -1 else if y = 0 then -1 else if y < 3 then 0 else if y < 7 then -1 else 0)) ∧ kpM M M') := by
  refine sx_of (k := 1) (lc := [some (.inr (some (0, 0))), some (.inl 1), some (.inl y), none]) mt_Y_worker (Nat.le_of_ble_eq_true rfl) rfl ?_
  refine jx_of (fun _ _ kz => jw_iload_n 1 d_Y_worker_0 rfl rfl kz) ?_
  refine jx_if_lt 9 d_Y_worker_1 (by decide) (fun h => absurd h (by decide)) (fun _ => ?_)
  refine jx_of (fun _ _ kz => jw_iload_n 1 d_Y_worker_4 rfl rfl kz) ?_
  refine jx_of (fun _ _ kz => jw_iconst 3 d_Y_worker_5 (by decide) kz) ?_
  refine jx_icmp_lt 11 d_Y_worker_6 (by decide) (fun _ => ?_) (fun h => absurd h (by decide))
  refine jx_of (fun _ _ kz => jw_aload_n 0 d_Y_worker_11 rfl rfl kz) ?_
  refine jx_of (fun _ _ kz => jw_getPe (some (19, 0)) fl_Y_38 d_Y_worker_12 rfl rfl (by simp [me_I_sI, me_I_sP, me_I_nx, me_P_sI, me_P_sP, me_P_nx, me_N_sI, me_N_sP, me_N_nx, me_L_sI, me_L_sP, me_L_nx, show me_P M 0 0 5 = some (19, 0) from hm.1 (0, 0, 5, 19, 0) (by decide)]) kz) ?_
  refine jx_of (fun _ _ kz => jw_iload_n 1 d_Y_worker_15 rfl rfl kz) ?_
  refine jx_of (fun _ _ kz => jw_aalde (some (3, 1)) d_Y_worker_16 rfl rfl (by rw [show me_L _ 19 0 = 3 from (by simp [me_I_sI, me_I_sP, me_I_nx, me_P_sI, me_P_sP, me_P_nx, me_N_sI, me_N_sP, me_N_nx, me_L_sI, me_L_sP, me_L_nx, show me_L M 19 0 = 3 from hm.2.1 (19, 0, 3) (by decide)])]; unfold vp_in; decide) (by simp [me_I_sI, me_I_sP, me_I_nx, me_P_sI, me_P_sP, me_P_nx, me_N_sI, me_N_sP, me_N_nx, me_L_sI, me_L_sP, me_L_nx, show me_P M 19 0 1 = some (3, 1) from hm.1 (19, 0, 1, 3, 1) (by decide)]) kz) ?_
  refine jx_of (fun _ _ kz => jw_astore_n 3 d_Y_worker_17 rfl (Nat.le_of_ble_eq_true rfl) kz) ?_
  dsimp only [List.set]
  refine jx_of (fun _ _ kz => jw_iload_n 2 d_Y_worker_18 rfl rfl kz) ?_
  rcases sw_cases (y) 8 (by decide) with t_19 | t_19
  · skip
    refine jx_of (fun _ _ kz => jw_tabOut 98 d_Y_worker_19 (by simpa using t_19) (by decide) kz) ?_
    refine jx_of (fun _ _ kz => jw_iconst (-1) d_Y_worker_98 (by decide) kz) ?_
    refine jx_iret d_Y_worker_99 rfl ?_
    exact ⟨by first | (subst_vars; decide) | (rw [sw_res (sw_out t_19 (c := 8) (by decide))]), kp_rf⟩
  · skip
    obtain ⟨j_19, t_19, e_19⟩ := t_19
    rcases (show j_19 = 0 ∨ j_19 = 1 ∨ j_19 = 2 ∨ j_19 = 3 ∨ j_19 = 4 ∨ j_19 = 5 ∨ j_19 = 6 ∨ j_19 = 7 by omega) with rfl | rfl | rfl | rfl | rfl | rfl | rfl | rfl
    · skip
      refine jx_of (fun _ _ kz => jw_tabIn 64 d_Y_worker_19 (by rw [e_19]; decide) (by rw [e_19]; decide) (by rw [e_19]; rfl) (by decide) kz) ?_
      refine jx_of (fun _ _ kz => jw_aload_n 3 d_Y_worker_64 rfl rfl kz) ?_
      refine jx_of (fun _ _ kz => jw_getIe ((-1)) fl_Y_159 d_Y_worker_65 rfl rfl (by simp [me_I_sI, me_I_sP, me_I_nx, me_P_sI, me_P_sP, me_P_nx, me_N_sI, me_N_sP, me_N_nx, me_L_sI, me_L_sP, me_L_nx, show me_I M 3 1 2 = (-1) from hm.2.2 (3, 1, 2, (-1)) (by decide)]) kz) ?_
      refine jx_iret d_Y_worker_68 rfl ?_
      exact ⟨by first | (subst_vars; decide) | (rw [sw_res (sw_out t_19 (c := 8) (by decide))]), kp_rf⟩
    · skip
      refine jx_of (fun _ _ kz => jw_tabIn 69 d_Y_worker_19 (by rw [e_19]; decide) (by rw [e_19]; decide) (by rw [e_19]; rfl) (by decide) kz) ?_
      refine jx_of (fun _ _ kz => jw_aload_n 3 d_Y_worker_69 rfl rfl kz) ?_
      refine jx_of (fun _ _ kz => jw_getIe (0) fl_Y_162 d_Y_worker_70 rfl rfl (by simp [me_I_sI, me_I_sP, me_I_nx, me_P_sI, me_P_sP, me_P_nx, me_N_sI, me_N_sP, me_N_nx, me_L_sI, me_L_sP, me_L_nx, show me_I M 3 1 3 = 0 from hm.2.2 (3, 1, 3, 0) (by decide)]) kz) ?_
      refine jx_iret d_Y_worker_73 rfl ?_
      exact ⟨by first | (subst_vars; decide) | (rw [sw_res (sw_out t_19 (c := 8) (by decide))]), kp_rf⟩
    · skip
      refine jx_of (fun _ _ kz => jw_tabIn 74 d_Y_worker_19 (by rw [e_19]; decide) (by rw [e_19]; decide) (by rw [e_19]; rfl) (by decide) kz) ?_
      refine jx_of (fun _ _ kz => jw_aload_n 3 d_Y_worker_74 rfl rfl kz) ?_
      refine jx_of (fun _ _ kz => jw_getPe (some (4, 1)) fl_Y_165 d_Y_worker_75 rfl rfl (by simp [me_I_sI, me_I_sP, me_I_nx, me_P_sI, me_P_sP, me_P_nx, me_N_sI, me_N_sP, me_N_nx, me_L_sI, me_L_sP, me_L_nx, show me_P M 3 1 1 = some (4, 1) from hm.1 (3, 1, 1, 4, 1) (by decide)]) kz) ?_
      refine jx_of (fun _ _ kz => jw_getIe (0) fl_Y_168 d_Y_worker_78 rfl rfl (by simp [me_I_sI, me_I_sP, me_I_nx, me_P_sI, me_P_sP, me_P_nx, me_N_sI, me_N_sP, me_N_nx, me_L_sI, me_L_sP, me_L_nx, show me_I M 4 1 1 = 0 from hm.2.2 (4, 1, 1, 0) (by decide)]) kz) ?_
      refine jx_iret d_Y_worker_81 rfl ?_
      exact ⟨by first | (subst_vars; decide) | (rw [sw_res (sw_out t_19 (c := 8) (by decide))]), kp_rf⟩
    · skip
      refine jx_of (fun _ _ kz => jw_tabIn 82 d_Y_worker_19 (by rw [e_19]; decide) (by rw [e_19]; decide) (by rw [e_19]; rfl) (by decide) kz) ?_
      refine jx_of (fun _ _ kz => jw_aload_n 3 d_Y_worker_82 rfl rfl kz) ?_
      refine jx_of (fun _ _ kz => jw_getPe (some (4, 1)) fl_Y_165 d_Y_worker_83 rfl rfl (by simp [me_I_sI, me_I_sP, me_I_nx, me_P_sI, me_P_sP, me_P_nx, me_N_sI, me_N_sP, me_N_nx, me_L_sI, me_L_sP, me_L_nx, show me_P M 3 1 1 = some (4, 1) from hm.1 (3, 1, 1, 4, 1) (by decide)]) kz) ?_
      refine jx_of (fun _ _ kz => jw_iload_n 2 d_Y_worker_86 rfl rfl kz) ?_
      refine jx_of (fun _ _ kz => jw_iconst 3 d_Y_worker_87 (by decide) kz) ?_
      refine jx_of (fun _ _ kz => jw_isub d_Y_worker_88 kz) ?_
      refine jx_callV (x_R_at _ 1 ((y - 3)) (by simp [me_I_sI, me_I_sP, me_I_nx, me_P_sI, me_P_sP, me_P_nx, me_N_sI, me_N_sP, me_N_nx, me_L_sI, me_L_sP, me_L_nx, show me_I M 4 1 1 = 0 from hm.2.2 (4, 1, 1, 0) (by decide)])) mt_R_at cf_R rfl rfl ml_Y_169 im_R_at se_R_at d_Y_worker_89 rfl rfl (Nat.le_of_ble_eq_true rfl) ?_
      rintro _ _ ⟨rfl, rfl⟩
      refine jx_eq (st2 := [.inl ((-1))]) rfl rfl rfl ?_
      refine jx_iret d_Y_worker_92 rfl ?_
      exact ⟨by first | (subst_vars; decide) | (rw [sw_res (sw_out t_19 (c := 8) (by decide))]), kp_rf⟩
    · skip
      refine jx_of (fun _ _ kz => jw_tabIn 82 d_Y_worker_19 (by rw [e_19]; decide) (by rw [e_19]; decide) (by rw [e_19]; rfl) (by decide) kz) ?_
      refine jx_of (fun _ _ kz => jw_aload_n 3 d_Y_worker_82 rfl rfl kz) ?_
      refine jx_of (fun _ _ kz => jw_getPe (some (4, 1)) fl_Y_165 d_Y_worker_83 rfl rfl (by simp [me_I_sI, me_I_sP, me_I_nx, me_P_sI, me_P_sP, me_P_nx, me_N_sI, me_N_sP, me_N_nx, me_L_sI, me_L_sP, me_L_nx, show me_P M 3 1 1 = some (4, 1) from hm.1 (3, 1, 1, 4, 1) (by decide)]) kz) ?_
      refine jx_of (fun _ _ kz => jw_iload_n 2 d_Y_worker_86 rfl rfl kz) ?_
      refine jx_of (fun _ _ kz => jw_iconst 3 d_Y_worker_87 (by decide) kz) ?_
      refine jx_of (fun _ _ kz => jw_isub d_Y_worker_88 kz) ?_
      refine jx_callV (x_R_at _ 1 ((y - 3)) (by simp [me_I_sI, me_I_sP, me_I_nx, me_P_sI, me_P_sP, me_P_nx, me_N_sI, me_N_sP, me_N_nx, me_L_sI, me_L_sP, me_L_nx, show me_I M 4 1 1 = 0 from hm.2.2 (4, 1, 1, 0) (by decide)])) mt_R_at cf_R rfl rfl ml_Y_169 im_R_at se_R_at d_Y_worker_89 rfl rfl (Nat.le_of_ble_eq_true rfl) ?_
      rintro _ _ ⟨rfl, rfl⟩
      refine jx_eq (st2 := [.inl ((-1))]) rfl rfl rfl ?_
      refine jx_iret d_Y_worker_92 rfl ?_
      exact ⟨by first | (subst_vars; decide) | (rw [sw_res (sw_out t_19 (c := 8) (by decide))]), kp_rf⟩
    · skip
      refine jx_of (fun _ _ kz => jw_tabIn 82 d_Y_worker_19 (by rw [e_19]; decide) (by rw [e_19]; decide) (by rw [e_19]; rfl) (by decide) kz) ?_
      refine jx_of (fun _ _ kz => jw_aload_n 3 d_Y_worker_82 rfl rfl kz) ?_
      refine jx_of (fun _ _ kz => jw_getPe (some (4, 1)) fl_Y_165 d_Y_worker_83 rfl rfl (by simp [me_I_sI, me_I_sP, me_I_nx, me_P_sI, me_P_sP, me_P_nx, me_N_sI, me_N_sP, me_N_nx, me_L_sI, me_L_sP, me_L_nx, show me_P M 3 1 1 = some (4, 1) from hm.1 (3, 1, 1, 4, 1) (by decide)]) kz) ?_
      refine jx_of (fun _ _ kz => jw_iload_n 2 d_Y_worker_86 rfl rfl kz) ?_
      refine jx_of (fun _ _ kz => jw_iconst 3 d_Y_worker_87 (by decide) kz) ?_
      refine jx_of (fun _ _ kz => jw_isub d_Y_worker_88 kz) ?_
      refine jx_callV (x_R_at _ 1 ((y - 3)) (by simp [me_I_sI, me_I_sP, me_I_nx, me_P_sI, me_P_sP, me_P_nx, me_N_sI, me_N_sP, me_N_nx, me_L_sI, me_L_sP, me_L_nx, show me_I M 4 1 1 = 0 from hm.2.2 (4, 1, 1, 0) (by decide)])) mt_R_at cf_R rfl rfl ml_Y_169 im_R_at se_R_at d_Y_worker_89 rfl rfl (Nat.le_of_ble_eq_true rfl) ?_
      rintro _ _ ⟨rfl, rfl⟩
      refine jx_eq (st2 := [.inl ((-1))]) rfl rfl rfl ?_
      refine jx_iret d_Y_worker_92 rfl ?_
      exact ⟨by first | (subst_vars; decide) | (rw [sw_res (sw_out t_19 (c := 8) (by decide))]), kp_rf⟩
    · skip
      refine jx_of (fun _ _ kz => jw_tabIn 82 d_Y_worker_19 (by rw [e_19]; decide) (by rw [e_19]; decide) (by rw [e_19]; rfl) (by decide) kz) ?_
      refine jx_of (fun _ _ kz => jw_aload_n 3 d_Y_worker_82 rfl rfl kz) ?_
      refine jx_of (fun _ _ kz => jw_getPe (some (4, 1)) fl_Y_165 d_Y_worker_83 rfl rfl (by simp [me_I_sI, me_I_sP, me_I_nx, me_P_sI, me_P_sP, me_P_nx, me_N_sI, me_N_sP, me_N_nx, me_L_sI, me_L_sP, me_L_nx, show me_P M 3 1 1 = some (4, 1) from hm.1 (3, 1, 1, 4, 1) (by decide)]) kz) ?_
      refine jx_of (fun _ _ kz => jw_iload_n 2 d_Y_worker_86 rfl rfl kz) ?_
      refine jx_of (fun _ _ kz => jw_iconst 3 d_Y_worker_87 (by decide) kz) ?_
      refine jx_of (fun _ _ kz => jw_isub d_Y_worker_88 kz) ?_
      refine jx_callV (x_R_at _ 1 ((y - 3)) (by simp [me_I_sI, me_I_sP, me_I_nx, me_P_sI, me_P_sP, me_P_nx, me_N_sI, me_N_sP, me_N_nx, me_L_sI, me_L_sP, me_L_nx, show me_I M 4 1 1 = 0 from hm.2.2 (4, 1, 1, 0) (by decide)])) mt_R_at cf_R rfl rfl ml_Y_169 im_R_at se_R_at d_Y_worker_89 rfl rfl (Nat.le_of_ble_eq_true rfl) ?_
      rintro _ _ ⟨rfl, rfl⟩
      refine jx_eq (st2 := [.inl ((-1))]) rfl rfl rfl ?_
      refine jx_iret d_Y_worker_92 rfl ?_
      exact ⟨by first | (subst_vars; decide) | (rw [sw_res (sw_out t_19 (c := 8) (by decide))]), kp_rf⟩
    · skip
      refine jx_of (fun _ _ kz => jw_tabIn 93 d_Y_worker_19 (by rw [e_19]; decide) (by rw [e_19]; decide) (by rw [e_19]; rfl) (by decide) kz) ?_
      refine jx_of (fun _ _ kz => jw_aload_n 3 d_Y_worker_93 rfl rfl kz) ?_
      refine jx_of (fun _ _ kz => jw_getIe (0) fl_Y_172 d_Y_worker_94 rfl rfl (by simp [me_I_sI, me_I_sP, me_I_nx, me_P_sI, me_P_sP, me_P_nx, me_N_sI, me_N_sP, me_N_nx, me_L_sI, me_L_sP, me_L_nx, show me_I M 3 1 4 = 0 from hm.2.2 (3, 1, 4, 0) (by decide)]) kz) ?_
      refine jx_iret d_Y_worker_97 rfl ?_
      exact ⟨by first | (subst_vars; decide) | (rw [sw_res (sw_out t_19 (c := 8) (by decide))]), kp_rf⟩
set_option maxRecDepth 20000 in
set_option maxHeartbeats 4000000 in
theorem x_Y_worker_2 {G : Gt} {M : Me} (d : Nat) (y : Int32) (hm : cfr M) : sx G yt_Y_worker yn_Y_worker (d + 2) [.inr (some (0, 0)), .inl 2, .inl y] M (fun r M' => r = some (.inl (if y < 0 then -1 else if 8 ≤ y then -1 else if y = 0 then -1 else if y < 3 then 0 else if y < 7 then -1 else 0)) ∧ kpM M M') := by
  refine sx_of (k := 1) (lc := [some (.inr (some (0, 0))), some (.inl 2), some (.inl y), none]) mt_Y_worker (Nat.le_of_ble_eq_true rfl) rfl ?_
  refine jx_of (fun _ _ kz => jw_iload_n 1 d_Y_worker_0 rfl rfl kz) ?_
  refine jx_if_lt 9 d_Y_worker_1 (by decide) (fun h => absurd h (by decide)) (fun _ => ?_)
  refine jx_of (fun _ _ kz => jw_iload_n 1 d_Y_worker_4 rfl rfl kz) ?_
  refine jx_of (fun _ _ kz => jw_iconst 3 d_Y_worker_5 (by decide) kz) ?_
  refine jx_icmp_lt 11 d_Y_worker_6 (by decide) (fun _ => ?_) (fun h => absurd h (by decide))
  refine jx_of (fun _ _ kz => jw_aload_n 0 d_Y_worker_11 rfl rfl kz) ?_
  refine jx_of (fun _ _ kz => jw_getPe (some (19, 0)) fl_Y_38 d_Y_worker_12 rfl rfl (by simp [me_I_sI, me_I_sP, me_I_nx, me_P_sI, me_P_sP, me_P_nx, me_N_sI, me_N_sP, me_N_nx, me_L_sI, me_L_sP, me_L_nx, show me_P M 0 0 5 = some (19, 0) from hm.1 (0, 0, 5, 19, 0) (by decide)]) kz) ?_
  refine jx_of (fun _ _ kz => jw_iload_n 1 d_Y_worker_15 rfl rfl kz) ?_
  refine jx_of (fun _ _ kz => jw_aalde (some (3, 2)) d_Y_worker_16 rfl rfl (by rw [show me_L _ 19 0 = 3 from (by simp [me_I_sI, me_I_sP, me_I_nx, me_P_sI, me_P_sP, me_P_nx, me_N_sI, me_N_sP, me_N_nx, me_L_sI, me_L_sP, me_L_nx, show me_L M 19 0 = 3 from hm.2.1 (19, 0, 3) (by decide)])]; unfold vp_in; decide) (by simp [me_I_sI, me_I_sP, me_I_nx, me_P_sI, me_P_sP, me_P_nx, me_N_sI, me_N_sP, me_N_nx, me_L_sI, me_L_sP, me_L_nx, show me_P M 19 0 2 = some (3, 2) from hm.1 (19, 0, 2, 3, 2) (by decide)]) kz) ?_
  refine jx_of (fun _ _ kz => jw_astore_n 3 d_Y_worker_17 rfl (Nat.le_of_ble_eq_true rfl) kz) ?_
  dsimp only [List.set]
  refine jx_of (fun _ _ kz => jw_iload_n 2 d_Y_worker_18 rfl rfl kz) ?_
  rcases sw_cases (y) 8 (by decide) with t_19 | t_19
  · skip
    refine jx_of (fun _ _ kz => jw_tabOut 98 d_Y_worker_19 (by simpa using t_19) (by decide) kz) ?_
    refine jx_of (fun _ _ kz => jw_iconst (-1) d_Y_worker_98 (by decide) kz) ?_
    refine jx_iret d_Y_worker_99 rfl ?_
    exact ⟨by first | (subst_vars; decide) | (rw [sw_res (sw_out t_19 (c := 8) (by decide))]), kp_rf⟩
  · skip
    obtain ⟨j_19, t_19, e_19⟩ := t_19
    rcases (show j_19 = 0 ∨ j_19 = 1 ∨ j_19 = 2 ∨ j_19 = 3 ∨ j_19 = 4 ∨ j_19 = 5 ∨ j_19 = 6 ∨ j_19 = 7 by omega) with rfl | rfl | rfl | rfl | rfl | rfl | rfl | rfl
    · skip
      refine jx_of (fun _ _ kz => jw_tabIn 64 d_Y_worker_19 (by rw [e_19]; decide) (by rw [e_19]; decide) (by rw [e_19]; rfl) (by decide) kz) ?_
      refine jx_of (fun _ _ kz => jw_aload_n 3 d_Y_worker_64 rfl rfl kz) ?_
      refine jx_of (fun _ _ kz => jw_getIe ((-1)) fl_Y_159 d_Y_worker_65 rfl rfl (by simp [me_I_sI, me_I_sP, me_I_nx, me_P_sI, me_P_sP, me_P_nx, me_N_sI, me_N_sP, me_N_nx, me_L_sI, me_L_sP, me_L_nx, show me_I M 3 2 2 = (-1) from hm.2.2 (3, 2, 2, (-1)) (by decide)]) kz) ?_
      refine jx_iret d_Y_worker_68 rfl ?_
      exact ⟨by first | (subst_vars; decide) | (rw [sw_res (sw_out t_19 (c := 8) (by decide))]), kp_rf⟩
    · skip
      refine jx_of (fun _ _ kz => jw_tabIn 69 d_Y_worker_19 (by rw [e_19]; decide) (by rw [e_19]; decide) (by rw [e_19]; rfl) (by decide) kz) ?_
      refine jx_of (fun _ _ kz => jw_aload_n 3 d_Y_worker_69 rfl rfl kz) ?_
      refine jx_of (fun _ _ kz => jw_getIe (0) fl_Y_162 d_Y_worker_70 rfl rfl (by simp [me_I_sI, me_I_sP, me_I_nx, me_P_sI, me_P_sP, me_P_nx, me_N_sI, me_N_sP, me_N_nx, me_L_sI, me_L_sP, me_L_nx, show me_I M 3 2 3 = 0 from hm.2.2 (3, 2, 3, 0) (by decide)]) kz) ?_
      refine jx_iret d_Y_worker_73 rfl ?_
      exact ⟨by first | (subst_vars; decide) | (rw [sw_res (sw_out t_19 (c := 8) (by decide))]), kp_rf⟩
    · skip
      refine jx_of (fun _ _ kz => jw_tabIn 74 d_Y_worker_19 (by rw [e_19]; decide) (by rw [e_19]; decide) (by rw [e_19]; rfl) (by decide) kz) ?_
      refine jx_of (fun _ _ kz => jw_aload_n 3 d_Y_worker_74 rfl rfl kz) ?_
      refine jx_of (fun _ _ kz => jw_getPe (some (4, 2)) fl_Y_165 d_Y_worker_75 rfl rfl (by simp [me_I_sI, me_I_sP, me_I_nx, me_P_sI, me_P_sP, me_P_nx, me_N_sI, me_N_sP, me_N_nx, me_L_sI, me_L_sP, me_L_nx, show me_P M 3 2 1 = some (4, 2) from hm.1 (3, 2, 1, 4, 2) (by decide)]) kz) ?_
      refine jx_of (fun _ _ kz => jw_getIe (0) fl_Y_168 d_Y_worker_78 rfl rfl (by simp [me_I_sI, me_I_sP, me_I_nx, me_P_sI, me_P_sP, me_P_nx, me_N_sI, me_N_sP, me_N_nx, me_L_sI, me_L_sP, me_L_nx, show me_I M 4 2 1 = 0 from hm.2.2 (4, 2, 1, 0) (by decide)]) kz) ?_
      refine jx_iret d_Y_worker_81 rfl ?_
      exact ⟨by first | (subst_vars; decide) | (rw [sw_res (sw_out t_19 (c := 8) (by decide))]), kp_rf⟩
    · skip
      refine jx_of (fun _ _ kz => jw_tabIn 82 d_Y_worker_19 (by rw [e_19]; decide) (by rw [e_19]; decide) (by rw [e_19]; rfl) (by decide) kz) ?_
      refine jx_of (fun _ _ kz => jw_aload_n 3 d_Y_worker_82 rfl rfl kz) ?_
      refine jx_of (fun _ _ kz => jw_getPe (some (4, 2)) fl_Y_165 d_Y_worker_83 rfl rfl (by simp [me_I_sI, me_I_sP, me_I_nx, me_P_sI, me_P_sP, me_P_nx, me_N_sI, me_N_sP, me_N_nx, me_L_sI, me_L_sP, me_L_nx, show me_P M 3 2 1 = some (4, 2) from hm.1 (3, 2, 1, 4, 2) (by decide)]) kz) ?_
      refine jx_of (fun _ _ kz => jw_iload_n 2 d_Y_worker_86 rfl rfl kz) ?_
      refine jx_of (fun _ _ kz => jw_iconst 3 d_Y_worker_87 (by decide) kz) ?_
      refine jx_of (fun _ _ kz => jw_isub d_Y_worker_88 kz) ?_
      refine jx_callV (x_R_at _ 2 ((y - 3)) (by simp [me_I_sI, me_I_sP, me_I_nx, me_P_sI, me_P_sP, me_P_nx, me_N_sI, me_N_sP, me_N_nx, me_L_sI, me_L_sP, me_L_nx, show me_I M 4 2 1 = 0 from hm.2.2 (4, 2, 1, 0) (by decide)])) mt_R_at cf_R rfl rfl ml_Y_169 im_R_at se_R_at d_Y_worker_89 rfl rfl (Nat.le_of_ble_eq_true rfl) ?_
      rintro _ _ ⟨rfl, rfl⟩
      refine jx_eq (st2 := [.inl ((-1))]) rfl rfl rfl ?_
      refine jx_iret d_Y_worker_92 rfl ?_
      exact ⟨by first | (subst_vars; decide) | (rw [sw_res (sw_out t_19 (c := 8) (by decide))]), kp_rf⟩
    · skip
      refine jx_of (fun _ _ kz => jw_tabIn 82 d_Y_worker_19 (by rw [e_19]; decide) (by rw [e_19]; decide) (by rw [e_19]; rfl) (by decide) kz) ?_
      refine jx_of (fun _ _ kz => jw_aload_n 3 d_Y_worker_82 rfl rfl kz) ?_
      refine jx_of (fun _ _ kz => jw_getPe (some (4, 2)) fl_Y_165 d_Y_worker_83 rfl rfl (by simp [me_I_sI, me_I_sP, me_I_nx, me_P_sI, me_P_sP, me_P_nx, me_N_sI, me_N_sP, me_N_nx, me_L_sI, me_L_sP, me_L_nx, show me_P M 3 2 1 = some (4, 2) from hm.1 (3, 2, 1, 4, 2) (by decide)]) kz) ?_
      refine jx_of (fun _ _ kz => jw_iload_n 2 d_Y_worker_86 rfl rfl kz) ?_
      refine jx_of (fun _ _ kz => jw_iconst 3 d_Y_worker_87 (by decide) kz) ?_
      refine jx_of (fun _ _ kz => jw_isub d_Y_worker_88 kz) ?_
      refine jx_callV (x_R_at _ 2 ((y - 3)) (by simp [me_I_sI, me_I_sP, me_I_nx, me_P_sI, me_P_sP, me_P_nx, me_N_sI, me_N_sP, me_N_nx, me_L_sI, me_L_sP, me_L_nx, show me_I M 4 2 1 = 0 from hm.2.2 (4, 2, 1, 0) (by decide)])) mt_R_at cf_R rfl rfl ml_Y_169 im_R_at se_R_at d_Y_worker_89 rfl rfl (Nat.le_of_ble_eq_true rfl) ?_
      rintro _ _ ⟨rfl, rfl⟩
      refine jx_eq (st2 := [.inl ((-1))]) rfl rfl rfl ?_
      refine jx_iret d_Y_worker_92 rfl ?_
      exact ⟨by first | (subst_vars; decide) | (rw [sw_res (sw_out t_19 (c := 8) (by decide))]), kp_rf⟩
    · skip
      refine jx_of (fun _ _ kz => jw_tabIn 82 d_Y_worker_19 (by rw [e_19]; decide) (by rw [e_19]; decide) (by rw [e_19]; rfl) (by decide) kz) ?_
      refine jx_of (fun _ _ kz => jw_aload_n 3 d_Y_worker_82 rfl rfl kz) ?_
      refine jx_of (fun _ _ kz => jw_getPe (some (4, 2)) fl_Y_165 d_Y_worker_83 rfl rfl (by simp [me_I_sI, me_I_sP, me_I_nx, me_P_sI, me_P_sP, me_P_nx, me_N_sI, me_N_sP, me_N_nx, me_L_sI, me_L_sP, me_L_nx, show me_P M 3 2 1 = some (4, 2) from hm.1 (3, 2, 1, 4, 2) (by decide)]) kz) ?_
      refine jx_of (fun _ _ kz => jw_iload_n 2 d_Y_worker_86 rfl rfl kz) ?_
      refine jx_of (fun _ _ kz => jw_iconst 3 d_Y_worker_87 (by decide) kz) ?_
      refine jx_of (fun _ _ kz => jw_isub d_Y_worker_88 kz) ?_
      refine jx_callV (x_R_at _ 2 ((y - 3)) (by simp [me_I_sI, me_I_sP, me_I_nx, me_P_sI, me_P_sP, me_P_nx, me_N_sI, me_N_sP, me_N_nx, me_L_sI, me_L_sP, me_L_nx, show me_I M 4 2 1 = 0 from hm.2.2 (4, 2, 1, 0) (by decide)])) mt_R_at cf_R rfl rfl ml_Y_169 im_R_at se_R_at d_Y_worker_89 rfl rfl (Nat.le_of_ble_eq_true rfl) ?_
      rintro _ _ ⟨rfl, rfl⟩
      refine jx_eq (st2 := [.inl ((-1))]) rfl rfl rfl ?_
      refine jx_iret d_Y_worker_92 rfl ?_
      exact ⟨by first | (subst_vars; decide) | (rw [sw_res (sw_out t_19 (c := 8) (by decide))]), kp_rf⟩
    · skip
      refine jx_of (fun _ _ kz => jw_tabIn 82 d_Y_worker_19 (by rw [e_19]; decide) (by rw [e_19]; decide) (by rw [e_19]; rfl) (by decide) kz) ?_
      refine jx_of (fun _ _ kz => jw_aload_n 3 d_Y_worker_82 rfl rfl kz) ?_
      refine jx_of (fun _ _ kz => jw_getPe (some (4, 2)) fl_Y_165 d_Y_worker_83 rfl rfl (by simp [me_I_sI, me_I_sP, me_I_nx, me_P_sI, me_P_sP, me_P_nx, me_N_sI, me_N_sP, me_N_nx, me_L_sI, me_L_sP, me_L_nx, show me_P M 3 2 1 = some (4, 2) from hm.1 (3, 2, 1, 4, 2) (by decide)]) kz) ?_
      refine jx_of (fun _ _ kz => jw_iload_n 2 d_Y_worker_86 rfl rfl kz) ?_
      refine jx_of (fun _ _ kz => jw_iconst 3 d_Y_worker_87 (by decide) kz) ?_
      refine jx_of (fun _ _ kz => jw_isub d_Y_worker_88 kz) ?_
      refine jx_callV (x_R_at _ 2 ((y - 3)) (by simp [me_I_sI, me_I_sP, me_I_nx, me_P_sI, me_P_sP, me_P_nx, me_N_sI, me_N_sP, me_N_nx, me_L_sI, me_L_sP, me_L_nx, show me_I M 4 2 1 = 0 from hm.2.2 (4, 2, 1, 0) (by decide)])) mt_R_at cf_R rfl rfl ml_Y_169 im_R_at se_R_at d_Y_worker_89 rfl rfl (Nat.le_of_ble_eq_true rfl) ?_
      rintro _ _ ⟨rfl, rfl⟩
      refine jx_eq (st2 := [.inl ((-1))]) rfl rfl rfl ?_
      refine jx_iret d_Y_worker_92 rfl ?_
      exact ⟨by first | (subst_vars; decide) | (rw [sw_res (sw_out t_19 (c := 8) (by decide))]), kp_rf⟩
    · skip
      refine jx_of (fun _ _ kz => jw_tabIn 93 d_Y_worker_19 (by rw [e_19]; decide) (by rw [e_19]; decide) (by rw [e_19]; rfl) (by decide) kz) ?_
      refine jx_of (fun _ _ kz => jw_aload_n 3 d_Y_worker_93 rfl rfl kz) ?_
      refine jx_of (fun _ _ kz => jw_getIe (0) fl_Y_172 d_Y_worker_94 rfl rfl (by simp [me_I_sI, me_I_sP, me_I_nx, me_P_sI, me_P_sP, me_P_nx, me_N_sI, me_N_sP, me_N_nx, me_L_sI, me_L_sP, me_L_nx, show me_I M 3 2 4 = 0 from hm.2.2 (3, 2, 4, 0) (by decide)]) kz) ?_
      refine jx_iret d_Y_worker_97 rfl ?_
      exact ⟨by first | (subst_vars; decide) | (rw [sw_res (sw_out t_19 (c := 8) (by decide))]), kp_rf⟩
set_option maxRecDepth 20000 in
set_option maxHeartbeats 4000000 in
theorem x_Y_worker_x {G : Gt} {M : Me} (d : Nat) (x : Int32) (y : Int32) (hm : cfr M) (hx : x < 0 ∨ 3 ≤ x) : sx G yt_Y_worker yn_Y_worker (d + 2) [.inr (some (0, 0)), .inl x, .inl y] M (fun r M' => r = some (.inl (-1)) ∧ kpM M M') := by
  refine sx_of (k := 1) (lc := [some (.inr (some (0, 0))), some (.inl x), some (.inl y), none]) mt_Y_worker (Nat.le_of_ble_eq_true rfl) rfl ?_
  refine jx_of (fun _ _ kz => jw_iload_n 1 d_Y_worker_0 rfl rfl kz) ?_
  refine jx_if_lt 9 d_Y_worker_1 (by decide) (fun b_1 => ?_) (fun b_1 => ?_)
  · skip
    refine jx_of (fun _ _ kz => jw_iconst (-1) d_Y_worker_9 (by decide) kz) ?_
    refine jx_iret d_Y_worker_10 rfl ?_
    exact ⟨rfl, kp_rf⟩
  · skip
    refine jx_of (fun _ _ kz => jw_iload_n 1 d_Y_worker_4 rfl rfl kz) ?_
    refine jx_of (fun _ _ kz => jw_iconst 3 d_Y_worker_5 (by decide) kz) ?_
    refine jx_icmp_lt 11 d_Y_worker_6 (by decide) (fun h => absurd h (by rcases hx with q | q; exact absurd q b_1; exact Int32.not_lt.mpr q)) (fun _ => ?_)
    refine jx_of (fun _ _ kz => jw_iconst (-1) d_Y_worker_9 (by decide) kz) ?_
    refine jx_iret d_Y_worker_10 rfl ?_
    exact ⟨rfl, kp_rf⟩
set_option maxRecDepth 20000 in
set_option maxHeartbeats 4000000 in
theorem x_Y_injectWoken {G : Gt} {M : Me} (d : Nat) (hm : cfr M) : sx G yt_Y_injectWoken yn_Y_injectWoken (d + 1) [.inr (some (0, 0))] M (fun r M' => r = none ∧ (me_sI M 4 4 1 (0)) = M') := by
  refine sx_of (k := 1) (lc := [some (.inr (some (0, 0))), none]) mt_Y_injectWoken (Nat.le_of_ble_eq_true rfl) rfl ?_
  refine jx_of (fun _ _ kz => jw_iconst 0 d_Y_injectWoken_0 (by decide) kz) ?_
  refine jx_of (fun _ _ kz => jw_istore_n 1 d_Y_injectWoken_1 rfl (Nat.le_of_ble_eq_true rfl) kz) ?_
  dsimp only [List.set]
  refine jx_of (fun _ _ kz => jw_iload_n 1 d_Y_injectWoken_2 rfl rfl kz) ?_
  refine jx_of (fun _ _ kz => jw_aload_n 0 d_Y_injectWoken_3 rfl rfl kz) ?_
  refine jx_of (fun _ _ kz => jw_getPe (some (4, 4)) fl_Y_49 d_Y_injectWoken_4 rfl rfl (by simp [me_I_sI, me_I_sP, me_I_nx, me_P_sI, me_P_sP, me_P_nx, me_N_sI, me_N_sP, me_N_nx, me_L_sI, me_L_sP, me_L_nx, show me_P M 0 0 7 = some (4, 4) from hm.1 (0, 0, 7, 4, 4) (by decide)]) kz) ?_
  refine jx_of (fun _ _ kz => jw_getIe (0) fl_Y_168 d_Y_injectWoken_7 rfl rfl (by simp [me_I_sI, me_I_sP, me_I_nx, me_P_sI, me_P_sP, me_P_nx, me_N_sI, me_N_sP, me_N_nx, me_L_sI, me_L_sP, me_L_nx, show me_I M 4 4 1 = 0 from hm.2.2 (4, 4, 1, 0) (by decide)]) kz) ?_
  refine jx_icmp_ge 34 d_Y_injectWoken_10 (by decide) (fun _ => ?_) (fun h => absurd h (by decide))
  refine jx_of (fun _ _ kz => jw_aload_n 0 d_Y_injectWoken_34 rfl rfl kz) ?_
  refine jx_of (fun _ _ kz => jw_getPe (some (4, 4)) fl_Y_49 d_Y_injectWoken_35 rfl rfl (by simp [me_I_sI, me_I_sP, me_I_nx, me_P_sI, me_P_sP, me_P_nx, me_N_sI, me_N_sP, me_N_nx, me_L_sI, me_L_sP, me_L_nx, show me_P M 0 0 7 = some (4, 4) from hm.1 (0, 0, 7, 4, 4) (by decide)]) kz) ?_
  refine jx_of (fun _ _ kz => jw_iconst 0 d_Y_injectWoken_38 (by decide) kz) ?_
  refine jx_of (fun _ _ kz => jw_putI fl_Y_168 (Or.inl rfl) rfl rfl d_Y_injectWoken_39 rfl rfl kz) ?_
  refine jx_vret d_Y_injectWoken_42 rfl ?_
  exact ⟨rfl, rfl⟩
set_option maxRecDepth 20000 in
set_option maxHeartbeats 4000000 in
theorem x_Y_injectWoken2 {G : Gt} {M : Me} (d : Nat) (f0 : me_P M 0 0 7 = (some (4, 4))) (f1 : me_I M 4 4 1 = 0) : sx G yt_Y_injectWoken yn_Y_injectWoken (d + 1) [.inr (some (0, 0))] M (fun r M' => r = none ∧ (me_sI M 4 4 1 (0)) = M') := by
  refine sx_of (k := 1) (lc := [some (.inr (some (0, 0))), none]) mt_Y_injectWoken (Nat.le_of_ble_eq_true rfl) rfl ?_
  refine jx_of (fun _ _ kz => jw_iconst 0 d_Y_injectWoken_0 (by decide) kz) ?_
  refine jx_of (fun _ _ kz => jw_istore_n 1 d_Y_injectWoken_1 rfl (Nat.le_of_ble_eq_true rfl) kz) ?_
  dsimp only [List.set]
  refine jx_of (fun _ _ kz => jw_iload_n 1 d_Y_injectWoken_2 rfl rfl kz) ?_
  refine jx_of (fun _ _ kz => jw_aload_n 0 d_Y_injectWoken_3 rfl rfl kz) ?_
  refine jx_of (fun _ _ kz => jw_getPe (some (4, 4)) fl_Y_49 d_Y_injectWoken_4 rfl rfl (by simp [me_I_sI, me_I_sP, me_I_nx, me_P_sI, me_P_sP, me_P_nx, me_N_sI, me_N_sP, me_N_nx, me_L_sI, me_L_sP, me_L_nx, f0, f1]) kz) ?_
  refine jx_of (fun _ _ kz => jw_getIe (0) fl_Y_168 d_Y_injectWoken_7 rfl rfl (by simp [me_I_sI, me_I_sP, me_I_nx, me_P_sI, me_P_sP, me_P_nx, me_N_sI, me_N_sP, me_N_nx, me_L_sI, me_L_sP, me_L_nx, f0, f1]) kz) ?_
  refine jx_icmp_ge 34 d_Y_injectWoken_10 (by decide) (fun _ => ?_) (fun h => absurd h (by decide))
  refine jx_of (fun _ _ kz => jw_aload_n 0 d_Y_injectWoken_34 rfl rfl kz) ?_
  refine jx_of (fun _ _ kz => jw_getPe (some (4, 4)) fl_Y_49 d_Y_injectWoken_35 rfl rfl (by simp [me_I_sI, me_I_sP, me_I_nx, me_P_sI, me_P_sP, me_P_nx, me_N_sI, me_N_sP, me_N_nx, me_L_sI, me_L_sP, me_L_nx, f0, f1]) kz) ?_
  refine jx_of (fun _ _ kz => jw_iconst 0 d_Y_injectWoken_38 (by decide) kz) ?_
  refine jx_of (fun _ _ kz => jw_putI fl_Y_168 (Or.inl rfl) rfl rfl d_Y_injectWoken_39 rfl rfl kz) ?_
  refine jx_vret d_Y_injectWoken_42 rfl ?_
  exact ⟨rfl, rfl⟩
set_option maxRecDepth 20000 in
set_option maxHeartbeats 4000000 in
theorem x_Y_addPermits_0 {G : Gt} {M : Me} (d : Nat) (y : Int32) (hm : cfr M) : sx G yt_Y_addPermits yn_Y_addPermits (d + 1) [.inr (some (0, 0)), .inr (some (5, 0)), .inl y] M (fun r M' => r = none ∧ (me_sI M 5 0 1 (1 + y)) = M') := by
  refine sx_of (k := 7) (lc := [some (.inr (some (0, 0))), some (.inr (some (5, 0))), some (.inl y), none, none, none, none, none, none, none]) mt_Y_addPermits (Nat.le_of_ble_eq_true rfl) rfl ?_
  refine jx_of (fun _ _ kz => jw_iload_n 2 d_Y_addPermits_0 rfl rfl kz) ?_
  refine jx_of (fun _ _ kz => jw_istore_n 3 d_Y_addPermits_1 rfl (Nat.le_of_ble_eq_true rfl) kz) ?_
  dsimp only [List.set]
  refine jx_of (fun _ _ kz => jw_aload_n 1 d_Y_addPermits_2 rfl rfl kz) ?_
  refine jx_of (fun _ _ kz => jw_getPe (some (4, 5)) fl_Y_175 d_Y_addPermits_3 rfl rfl (by simp [me_I_sI, me_I_sP, me_I_nx, me_P_sI, me_P_sP, me_P_nx, me_N_sI, me_N_sP, me_N_nx, me_L_sI, me_L_sP, me_L_nx, show me_P M 5 0 0 = some (4, 5) from hm.1 (5, 0, 0, 4, 5) (by decide)]) kz) ?_
  refine jx_of (fun _ _ kz => jw_getIe (0) fl_Y_168 d_Y_addPermits_6 rfl rfl (by simp [me_I_sI, me_I_sP, me_I_nx, me_P_sI, me_P_sP, me_P_nx, me_N_sI, me_N_sP, me_N_nx, me_L_sI, me_L_sP, me_L_nx, show me_I M 4 5 1 = 0 from hm.2.2 (4, 5, 1, 0) (by decide)]) kz) ?_
  refine jx_of (fun _ _ kz => jw_istore d_Y_addPermits_9 (Nat.le_of_ble_eq_true rfl) kz) ?_
  dsimp only [List.set]
  refine jx_of (fun _ _ kz => jw_iload d_Y_addPermits_11 rfl kz) ?_
  refine jx_if_le 137 d_Y_addPermits_13 (by decide) (fun _ => ?_) (fun h => absurd h (by decide))
  refine jx_of (fun _ _ kz => jw_aload_n 1 d_Y_addPermits_137 rfl rfl kz) ?_
  refine jx_of (fun _ _ kz => jw_dup d_Y_addPermits_138 kz) ?_
  refine jx_of (fun _ _ kz => jw_getIe (1) fl_Y_137 d_Y_addPermits_139 rfl rfl (by simp [me_I_sI, me_I_sP, me_I_nx, me_P_sI, me_P_sP, me_P_nx, me_N_sI, me_N_sP, me_N_nx, me_L_sI, me_L_sP, me_L_nx, show me_I M 5 0 1 = 1 from hm.2.2 (5, 0, 1, 1) (by decide)]) kz) ?_
  refine jx_of (fun _ _ kz => jw_iload_n 3 d_Y_addPermits_142 rfl rfl kz) ?_
  refine jx_of (fun _ _ kz => jw_iadd d_Y_addPermits_143 kz) ?_
  refine jx_of (fun _ _ kz => jw_putI fl_Y_137 (Or.inl rfl) rfl rfl d_Y_addPermits_144 rfl rfl kz) ?_
  refine jx_vret d_Y_addPermits_147 rfl ?_
  exact ⟨rfl, rfl⟩
set_option maxRecDepth 20000 in
set_option maxHeartbeats 4000000 in
theorem x_Y_put_0 {G : Gt} {M : Me} (d : Nat) (y : Int32) (hm : cfr M) : sx G yt_Y_put yn_Y_put (d + 2) [.inr (some (0, 0)), .inl 0, .inl y] M (fun r M' => r = some (.inl (if y < 1 then -1 else if 9 < y then -1 else 1 + y)) ∧ kpM M M') := by
  refine sx_of (k := 0) (lc := [some (.inr (some (0, 0))), some (.inl 0), some (.inl y)]) mt_Y_put (Nat.le_of_ble_eq_true rfl) rfl ?_
  refine jx_of (fun _ _ kz => jw_iload_n 1 d_Y_put_0 rfl rfl kz) ?_
  refine jx_if_lt 20 d_Y_put_1 (by decide) (fun h => absurd h (by decide)) (fun _ => ?_)
  refine jx_of (fun _ _ kz => jw_iload_n 1 d_Y_put_4 rfl rfl kz) ?_
  refine jx_of (fun _ _ kz => jw_iconst 1 d_Y_put_5 (by decide) kz) ?_
  refine jx_icmp_gt 20 d_Y_put_6 (by decide) (fun h => absurd h (by decide)) (fun _ => ?_)
  refine jx_of (fun _ _ kz => jw_iload_n 2 d_Y_put_9 rfl rfl kz) ?_
  refine jx_of (fun _ _ kz => jw_iconst 1 d_Y_put_10 (by decide) kz) ?_
  refine jx_icmp_lt 20 d_Y_put_11 (by decide) (fun b_11 => ?_) (fun b_11 => ?_)
  · skip
    refine jx_of (fun _ _ kz => jw_iconst (-1) d_Y_put_20 (by decide) kz) ?_
    refine jx_iret d_Y_put_21 rfl ?_
    exact ⟨by simp_all, kp_rf⟩
  · skip
    refine jx_of (fun _ _ kz => jw_iload_n 2 d_Y_put_14 rfl rfl kz) ?_
    refine jx_of (fun _ _ kz => jw_bipush 9 d_Y_put_15 (by decide) kz) ?_
    refine jx_icmp_le 22 d_Y_put_17 (by decide) (fun b_17 => ?_) (fun b_17 => ?_)
    · skip
      refine jx_of (fun _ _ kz => jw_aload_n 0 d_Y_put_22 rfl rfl kz) ?_
      refine jx_of (fun _ _ kz => jw_aload_n 0 d_Y_put_23 rfl rfl kz) ?_
      refine jx_of (fun _ _ kz => jw_getPe (some (20, 0)) fl_Y_55 d_Y_put_24 rfl rfl (by simp [me_I_sI, me_I_sP, me_I_nx, me_P_sI, me_P_sP, me_P_nx, me_N_sI, me_N_sP, me_N_nx, me_L_sI, me_L_sP, me_L_nx, show me_P M 0 0 8 = some (20, 0) from hm.1 (0, 0, 8, 20, 0) (by decide)]) kz) ?_
      refine jx_of (fun _ _ kz => jw_iload_n 1 d_Y_put_27 rfl rfl kz) ?_
      refine jx_of (fun _ _ kz => jw_aalde (some (5, 0)) d_Y_put_28 rfl rfl (by rw [show me_L _ 20 0 = 2 from (by simp [me_I_sI, me_I_sP, me_I_nx, me_P_sI, me_P_sP, me_P_nx, me_N_sI, me_N_sP, me_N_nx, me_L_sI, me_L_sP, me_L_nx, show me_L M 20 0 = 2 from hm.2.1 (20, 0, 2) (by decide)])]; unfold vp_in; decide) (by simp [me_I_sI, me_I_sP, me_I_nx, me_P_sI, me_P_sP, me_P_nx, me_N_sI, me_N_sP, me_N_nx, me_L_sI, me_L_sP, me_L_nx, show me_P M 20 0 0 = some (5, 0) from hm.1 (20, 0, 0, 5, 0) (by decide)]) kz) ?_
      refine jx_of (fun _ _ kz => jw_iload_n 2 d_Y_put_29 rfl rfl kz) ?_
      refine jx_callV (x_Y_addPermits_0 _ y hm) mt_Y_addPermits cf_Y rfl rfl ml_Y_133 im_Y_addPermits se_Y_addPermits d_Y_put_30 rfl rfl (Nat.le_of_ble_eq_true rfl) ?_
      rintro _ _ ⟨rfl, rfl⟩
      refine jx_eq (st2 := []) rfl rfl rfl ?_
      refine jx_of (fun _ _ kz => jw_aload_n 0 d_Y_put_33 rfl rfl kz) ?_
      refine jx_callV (x_Y_injectWoken2 _  (by simp [me_I_sI, me_I_sP, me_I_nx, me_P_sI, me_P_sP, me_P_nx, me_N_sI, me_N_sP, me_N_nx, me_L_sI, me_L_sP, me_L_nx, show me_P M 0 0 7 = some (4, 4) from hm.1 (0, 0, 7, 4, 4) (by decide)]) (by simp [me_I_sI, me_I_sP, me_I_nx, me_P_sI, me_P_sP, me_P_nx, me_N_sI, me_N_sP, me_N_nx, me_L_sI, me_L_sP, me_L_nx, show me_I M 4 4 1 = 0 from hm.2.2 (4, 4, 1, 0) (by decide)])) mt_Y_injectWoken cf_Y rfl rfl ml_Y_103 im_Y_injectWoken se_Y_injectWoken d_Y_put_34 rfl rfl (Nat.le_of_ble_eq_true rfl) ?_
      rintro _ _ ⟨rfl, rfl⟩
      refine jx_eq (st2 := []) rfl rfl rfl ?_
      refine jx_of (fun _ _ kz => jw_aload_n 0 d_Y_put_37 rfl rfl kz) ?_
      refine jx_of (fun _ _ kz => jw_getPe (some (20, 0)) fl_Y_55 d_Y_put_38 rfl rfl (by simp [me_I_sI, me_I_sP, me_I_nx, me_P_sI, me_P_sP, me_P_nx, me_N_sI, me_N_sP, me_N_nx, me_L_sI, me_L_sP, me_L_nx, show me_P M 0 0 8 = some (20, 0) from hm.1 (0, 0, 8, 20, 0) (by decide)]) kz) ?_
      refine jx_of (fun _ _ kz => jw_iload_n 1 d_Y_put_41 rfl rfl kz) ?_
      refine jx_of (fun _ _ kz => jw_aalde (some (5, 0)) d_Y_put_42 rfl rfl (by rw [show me_L _ 20 0 = 2 from (by simp [me_I_sI, me_I_sP, me_I_nx, me_P_sI, me_P_sP, me_P_nx, me_N_sI, me_N_sP, me_N_nx, me_L_sI, me_L_sP, me_L_nx, show me_L M 20 0 = 2 from hm.2.1 (20, 0, 2) (by decide)])]; unfold vp_in; decide) (by simp [me_I_sI, me_I_sP, me_I_nx, me_P_sI, me_P_sP, me_P_nx, me_N_sI, me_N_sP, me_N_nx, me_L_sI, me_L_sP, me_L_nx, show me_P M 20 0 0 = some (5, 0) from hm.1 (20, 0, 0, 5, 0) (by decide)]) kz) ?_
      refine jx_of (fun _ _ kz => jw_getIe (1 + y) fl_Y_137 d_Y_put_43 rfl rfl (by simp [me_I_sI, me_I_sP, me_I_nx, me_P_sI, me_P_sP, me_P_nx, me_N_sI, me_N_sP, me_N_nx, me_L_sI, me_L_sP, me_L_nx]) kz) ?_
      refine jx_iret d_Y_put_46 rfl ?_
      exact ⟨by rw [if_neg b_11, if_neg (Int32.not_lt.mpr b_17)], by repeat (first | exact kp_rf | refine kp_sI ?_ (by decide))⟩
    · skip
      refine jx_of (fun _ _ kz => jw_iconst (-1) d_Y_put_20 (by decide) kz) ?_
      refine jx_iret d_Y_put_21 rfl ?_
      exact ⟨by simp_all, kp_rf⟩
set_option maxRecDepth 20000 in
set_option maxHeartbeats 4000000 in
theorem x_Y_giveNotice_0 {G : Gt} {M : Me} (d : Nat) (hm : cfr M) : sx G yt_Y_giveNotice yn_Y_giveNotice (d + 2) [.inr (some (0, 0)), .inr (some (6, 0))] M (fun r M' => r = some (.inl 0) ∧ (me_sI M 6 0 1 (1)) = M') := by
  refine sx_of (k := 2) (lc := [some (.inr (some (0, 0))), some (.inr (some (6, 0))), none, none]) mt_Y_giveNotice (Nat.le_of_ble_eq_true rfl) rfl ?_
  refine jx_of (fun _ _ kz => jw_aload_n 1 d_Y_giveNotice_0 rfl rfl kz) ?_
  refine jx_of (fun _ _ kz => jw_getPe (some (4, 7)) fl_Y_186 d_Y_giveNotice_1 rfl rfl (by simp [me_I_sI, me_I_sP, me_I_nx, me_P_sI, me_P_sP, me_P_nx, me_N_sI, me_N_sP, me_N_nx, me_L_sI, me_L_sP, me_L_nx, show me_P M 6 0 0 = some (4, 7) from hm.1 (6, 0, 0, 4, 7) (by decide)]) kz) ?_
  refine jx_callV (x_R_isEmpty _ 7 (by simp [me_I_sI, me_I_sP, me_I_nx, me_P_sI, me_P_sP, me_P_nx, me_N_sI, me_N_sP, me_N_nx, me_L_sI, me_L_sP, me_L_nx, show me_I M 4 7 1 = 0 from hm.2.2 (4, 7, 1, 0) (by decide)])) mt_R_isEmpty cf_R rfl rfl ml_Y_198 im_R_isEmpty se_R_isEmpty d_Y_giveNotice_4 rfl rfl (Nat.le_of_ble_eq_true rfl) ?_
  rintro _ _ ⟨rfl, rfl⟩
  refine jx_eq (st2 := [.inl 1]) rfl rfl rfl ?_
  refine jx_if_eq 17 d_Y_giveNotice_7 (by decide) (fun h => absurd h (by decide)) (fun _ => ?_)
  refine jx_of (fun _ _ kz => jw_aload_n 1 d_Y_giveNotice_10 rfl rfl kz) ?_
  refine jx_of (fun _ _ kz => jw_iconst 1 d_Y_giveNotice_11 (by decide) kz) ?_
  refine jx_of (fun _ _ kz => jw_putI fl_Y_182 (Or.inl rfl) rfl rfl d_Y_giveNotice_12 rfl rfl kz) ?_
  refine jx_of (fun _ _ kz => jw_iconst 0 d_Y_giveNotice_15 (by decide) kz) ?_
  refine jx_zret d_Y_giveNotice_16 rfl (by decide) ?_
  exact ⟨rfl, rfl⟩
set_option maxRecDepth 20000 in
set_option maxHeartbeats 4000000 in
theorem x_Y_wake_0 {G : Gt} {M : Me} (d : Nat) (hm : cfr M) : sx G yt_Y_wake yn_Y_wake (d + 3) [.inr (some (0, 0)), .inl 0] M (fun r M' => r = some (.inl (0)) ∧ kpM M M') := by
  refine sx_of (k := 1) (lc := [some (.inr (some (0, 0))), some (.inl 0), none]) mt_Y_wake (Nat.le_of_ble_eq_true rfl) rfl ?_
  refine jx_of (fun _ _ kz => jw_iload_n 1 d_Y_wake_0 rfl rfl kz) ?_
  refine jx_if_lt 9 d_Y_wake_1 (by decide) (fun h => absurd h (by decide)) (fun _ => ?_)
  refine jx_of (fun _ _ kz => jw_iload_n 1 d_Y_wake_4 rfl rfl kz) ?_
  refine jx_of (fun _ _ kz => jw_iconst 1 d_Y_wake_5 (by decide) kz) ?_
  refine jx_icmp_le 11 d_Y_wake_6 (by decide) (fun _ => ?_) (fun h => absurd h (by decide))
  refine jx_of (fun _ _ kz => jw_aload_n 0 d_Y_wake_11 rfl rfl kz) ?_
  refine jx_of (fun _ _ kz => jw_aload_n 0 d_Y_wake_12 rfl rfl kz) ?_
  refine jx_of (fun _ _ kz => jw_getPe (some (21, 0)) fl_Y_62 d_Y_wake_13 rfl rfl (by simp [me_I_sI, me_I_sP, me_I_nx, me_P_sI, me_P_sP, me_P_nx, me_N_sI, me_N_sP, me_N_nx, me_L_sI, me_L_sP, me_L_nx, show me_P M 0 0 9 = some (21, 0) from hm.1 (0, 0, 9, 21, 0) (by decide)]) kz) ?_
  refine jx_of (fun _ _ kz => jw_iload_n 1 d_Y_wake_16 rfl rfl kz) ?_
  refine jx_of (fun _ _ kz => jw_aalde (some (6, 0)) d_Y_wake_17 rfl rfl (by rw [show me_L _ 21 0 = 2 from (by simp [me_I_sI, me_I_sP, me_I_nx, me_P_sI, me_P_sP, me_P_nx, me_N_sI, me_N_sP, me_N_nx, me_L_sI, me_L_sP, me_L_nx, show me_L M 21 0 = 2 from hm.2.1 (21, 0, 2) (by decide)])]; unfold vp_in; decide) (by simp [me_I_sI, me_I_sP, me_I_nx, me_P_sI, me_P_sP, me_P_nx, me_N_sI, me_N_sP, me_N_nx, me_L_sI, me_L_sP, me_L_nx, show me_P M 21 0 0 = some (6, 0) from hm.1 (21, 0, 0, 6, 0) (by decide)]) kz) ?_
  refine jx_callV (x_Y_giveNotice_0 _  hm) mt_Y_giveNotice cf_Y rfl rfl ml_Y_140 im_Y_giveNotice se_Y_giveNotice d_Y_wake_18 rfl rfl (Nat.le_of_ble_eq_true rfl) ?_
  rintro _ _ ⟨rfl, rfl⟩
  refine jx_eq (st2 := [.inl 0]) rfl rfl rfl ?_
  refine jx_of (fun _ _ kz => jw_istore_n 2 d_Y_wake_21 rfl (Nat.le_of_ble_eq_true rfl) kz) ?_
  dsimp only [List.set]
  refine jx_of (fun _ _ kz => jw_aload_n 0 d_Y_wake_22 rfl rfl kz) ?_
  refine jx_callV (x_Y_injectWoken2 _  (by simp [me_I_sI, me_I_sP, me_I_nx, me_P_sI, me_P_sP, me_P_nx, me_N_sI, me_N_sP, me_N_nx, me_L_sI, me_L_sP, me_L_nx, show me_P M 0 0 7 = some (4, 4) from hm.1 (0, 0, 7, 4, 4) (by decide)]) (by simp [me_I_sI, me_I_sP, me_I_nx, me_P_sI, me_P_sP, me_P_nx, me_N_sI, me_N_sP, me_N_nx, me_L_sI, me_L_sP, me_L_nx, show me_I M 4 4 1 = 0 from hm.2.2 (4, 4, 1, 0) (by decide)])) mt_Y_injectWoken cf_Y rfl rfl ml_Y_103 im_Y_injectWoken se_Y_injectWoken d_Y_wake_23 rfl rfl (Nat.le_of_ble_eq_true rfl) ?_
  rintro _ _ ⟨rfl, rfl⟩
  refine jx_eq (st2 := []) rfl rfl rfl ?_
  refine jx_of (fun _ _ kz => jw_iload_n 2 d_Y_wake_26 rfl rfl kz) ?_
  refine jx_if_eq 34 d_Y_wake_27 (by decide) (fun _ => ?_) (fun h => absurd h (by decide))
  refine jx_of (fun _ _ kz => jw_iconst 0 d_Y_wake_34 (by decide) kz) ?_
  refine jx_iret d_Y_wake_35 rfl ?_
  exact ⟨rfl, by repeat (first | exact kp_rf | refine kp_sI ?_ (by decide))⟩
set_option maxRecDepth 20000 in
set_option maxHeartbeats 4000000 in
theorem x_Y_addPermits_1 {G : Gt} {M : Me} (d : Nat) (y : Int32) (hm : cfr M) : sx G yt_Y_addPermits yn_Y_addPermits (d + 1) [.inr (some (0, 0)), .inr (some (5, 1)), .inl y] M (fun r M' => r = none ∧ (me_sI M 5 1 1 (1 + y)) = M') := by
  refine sx_of (k := 7) (lc := [some (.inr (some (0, 0))), some (.inr (some (5, 1))), some (.inl y), none, none, none, none, none, none, none]) mt_Y_addPermits (Nat.le_of_ble_eq_true rfl) rfl ?_
  refine jx_of (fun _ _ kz => jw_iload_n 2 d_Y_addPermits_0 rfl rfl kz) ?_
  refine jx_of (fun _ _ kz => jw_istore_n 3 d_Y_addPermits_1 rfl (Nat.le_of_ble_eq_true rfl) kz) ?_
  dsimp only [List.set]
  refine jx_of (fun _ _ kz => jw_aload_n 1 d_Y_addPermits_2 rfl rfl kz) ?_
  refine jx_of (fun _ _ kz => jw_getPe (some (4, 6)) fl_Y_175 d_Y_addPermits_3 rfl rfl (by simp [me_I_sI, me_I_sP, me_I_nx, me_P_sI, me_P_sP, me_P_nx, me_N_sI, me_N_sP, me_N_nx, me_L_sI, me_L_sP, me_L_nx, show me_P M 5 1 0 = some (4, 6) from hm.1 (5, 1, 0, 4, 6) (by decide)]) kz) ?_
  refine jx_of (fun _ _ kz => jw_getIe (0) fl_Y_168 d_Y_addPermits_6 rfl rfl (by simp [me_I_sI, me_I_sP, me_I_nx, me_P_sI, me_P_sP, me_P_nx, me_N_sI, me_N_sP, me_N_nx, me_L_sI, me_L_sP, me_L_nx, show me_I M 4 6 1 = 0 from hm.2.2 (4, 6, 1, 0) (by decide)]) kz) ?_
  refine jx_of (fun _ _ kz => jw_istore d_Y_addPermits_9 (Nat.le_of_ble_eq_true rfl) kz) ?_
  dsimp only [List.set]
  refine jx_of (fun _ _ kz => jw_iload d_Y_addPermits_11 rfl kz) ?_
  refine jx_if_le 137 d_Y_addPermits_13 (by decide) (fun _ => ?_) (fun h => absurd h (by decide))
  refine jx_of (fun _ _ kz => jw_aload_n 1 d_Y_addPermits_137 rfl rfl kz) ?_
  refine jx_of (fun _ _ kz => jw_dup d_Y_addPermits_138 kz) ?_
  refine jx_of (fun _ _ kz => jw_getIe (1) fl_Y_137 d_Y_addPermits_139 rfl rfl (by simp [me_I_sI, me_I_sP, me_I_nx, me_P_sI, me_P_sP, me_P_nx, me_N_sI, me_N_sP, me_N_nx, me_L_sI, me_L_sP, me_L_nx, show me_I M 5 1 1 = 1 from hm.2.2 (5, 1, 1, 1) (by decide)]) kz) ?_
  refine jx_of (fun _ _ kz => jw_iload_n 3 d_Y_addPermits_142 rfl rfl kz) ?_
  refine jx_of (fun _ _ kz => jw_iadd d_Y_addPermits_143 kz) ?_
  refine jx_of (fun _ _ kz => jw_putI fl_Y_137 (Or.inl rfl) rfl rfl d_Y_addPermits_144 rfl rfl kz) ?_
  refine jx_vret d_Y_addPermits_147 rfl ?_
  exact ⟨rfl, rfl⟩
set_option maxRecDepth 20000 in
set_option maxHeartbeats 4000000 in
theorem x_Y_put_1 {G : Gt} {M : Me} (d : Nat) (y : Int32) (hm : cfr M) : sx G yt_Y_put yn_Y_put (d + 2) [.inr (some (0, 0)), .inl 1, .inl y] M (fun r M' => r = some (.inl (if y < 1 then -1 else if 9 < y then -1 else 1 + y)) ∧ kpM M M') := by
  refine sx_of (k := 0) (lc := [some (.inr (some (0, 0))), some (.inl 1), some (.inl y)]) mt_Y_put (Nat.le_of_ble_eq_true rfl) rfl ?_
  refine jx_of (fun _ _ kz => jw_iload_n 1 d_Y_put_0 rfl rfl kz) ?_
  refine jx_if_lt 20 d_Y_put_1 (by decide) (fun h => absurd h (by decide)) (fun _ => ?_)
  refine jx_of (fun _ _ kz => jw_iload_n 1 d_Y_put_4 rfl rfl kz) ?_
  refine jx_of (fun _ _ kz => jw_iconst 1 d_Y_put_5 (by decide) kz) ?_
  refine jx_icmp_gt 20 d_Y_put_6 (by decide) (fun h => absurd h (by decide)) (fun _ => ?_)
  refine jx_of (fun _ _ kz => jw_iload_n 2 d_Y_put_9 rfl rfl kz) ?_
  refine jx_of (fun _ _ kz => jw_iconst 1 d_Y_put_10 (by decide) kz) ?_
  refine jx_icmp_lt 20 d_Y_put_11 (by decide) (fun b_11 => ?_) (fun b_11 => ?_)
  · skip
    refine jx_of (fun _ _ kz => jw_iconst (-1) d_Y_put_20 (by decide) kz) ?_
    refine jx_iret d_Y_put_21 rfl ?_
    exact ⟨by simp_all, kp_rf⟩
  · skip
    refine jx_of (fun _ _ kz => jw_iload_n 2 d_Y_put_14 rfl rfl kz) ?_
    refine jx_of (fun _ _ kz => jw_bipush 9 d_Y_put_15 (by decide) kz) ?_
    refine jx_icmp_le 22 d_Y_put_17 (by decide) (fun b_17 => ?_) (fun b_17 => ?_)
    · skip
      refine jx_of (fun _ _ kz => jw_aload_n 0 d_Y_put_22 rfl rfl kz) ?_
      refine jx_of (fun _ _ kz => jw_aload_n 0 d_Y_put_23 rfl rfl kz) ?_
      refine jx_of (fun _ _ kz => jw_getPe (some (20, 0)) fl_Y_55 d_Y_put_24 rfl rfl (by simp [me_I_sI, me_I_sP, me_I_nx, me_P_sI, me_P_sP, me_P_nx, me_N_sI, me_N_sP, me_N_nx, me_L_sI, me_L_sP, me_L_nx, show me_P M 0 0 8 = some (20, 0) from hm.1 (0, 0, 8, 20, 0) (by decide)]) kz) ?_
      refine jx_of (fun _ _ kz => jw_iload_n 1 d_Y_put_27 rfl rfl kz) ?_
      refine jx_of (fun _ _ kz => jw_aalde (some (5, 1)) d_Y_put_28 rfl rfl (by rw [show me_L _ 20 0 = 2 from (by simp [me_I_sI, me_I_sP, me_I_nx, me_P_sI, me_P_sP, me_P_nx, me_N_sI, me_N_sP, me_N_nx, me_L_sI, me_L_sP, me_L_nx, show me_L M 20 0 = 2 from hm.2.1 (20, 0, 2) (by decide)])]; unfold vp_in; decide) (by simp [me_I_sI, me_I_sP, me_I_nx, me_P_sI, me_P_sP, me_P_nx, me_N_sI, me_N_sP, me_N_nx, me_L_sI, me_L_sP, me_L_nx, show me_P M 20 0 1 = some (5, 1) from hm.1 (20, 0, 1, 5, 1) (by decide)]) kz) ?_
      refine jx_of (fun _ _ kz => jw_iload_n 2 d_Y_put_29 rfl rfl kz) ?_
      refine jx_callV (x_Y_addPermits_1 _ y hm) mt_Y_addPermits cf_Y rfl rfl ml_Y_133 im_Y_addPermits se_Y_addPermits d_Y_put_30 rfl rfl (Nat.le_of_ble_eq_true rfl) ?_
      rintro _ _ ⟨rfl, rfl⟩
      refine jx_eq (st2 := []) rfl rfl rfl ?_
      refine jx_of (fun _ _ kz => jw_aload_n 0 d_Y_put_33 rfl rfl kz) ?_
      refine jx_callV (x_Y_injectWoken2 _  (by simp [me_I_sI, me_I_sP, me_I_nx, me_P_sI, me_P_sP, me_P_nx, me_N_sI, me_N_sP, me_N_nx, me_L_sI, me_L_sP, me_L_nx, show me_P M 0 0 7 = some (4, 4) from hm.1 (0, 0, 7, 4, 4) (by decide)]) (by simp [me_I_sI, me_I_sP, me_I_nx, me_P_sI, me_P_sP, me_P_nx, me_N_sI, me_N_sP, me_N_nx, me_L_sI, me_L_sP, me_L_nx, show me_I M 4 4 1 = 0 from hm.2.2 (4, 4, 1, 0) (by decide)])) mt_Y_injectWoken cf_Y rfl rfl ml_Y_103 im_Y_injectWoken se_Y_injectWoken d_Y_put_34 rfl rfl (Nat.le_of_ble_eq_true rfl) ?_
      rintro _ _ ⟨rfl, rfl⟩
      refine jx_eq (st2 := []) rfl rfl rfl ?_
      refine jx_of (fun _ _ kz => jw_aload_n 0 d_Y_put_37 rfl rfl kz) ?_
      refine jx_of (fun _ _ kz => jw_getPe (some (20, 0)) fl_Y_55 d_Y_put_38 rfl rfl (by simp [me_I_sI, me_I_sP, me_I_nx, me_P_sI, me_P_sP, me_P_nx, me_N_sI, me_N_sP, me_N_nx, me_L_sI, me_L_sP, me_L_nx, show me_P M 0 0 8 = some (20, 0) from hm.1 (0, 0, 8, 20, 0) (by decide)]) kz) ?_
      refine jx_of (fun _ _ kz => jw_iload_n 1 d_Y_put_41 rfl rfl kz) ?_
      refine jx_of (fun _ _ kz => jw_aalde (some (5, 1)) d_Y_put_42 rfl rfl (by rw [show me_L _ 20 0 = 2 from (by simp [me_I_sI, me_I_sP, me_I_nx, me_P_sI, me_P_sP, me_P_nx, me_N_sI, me_N_sP, me_N_nx, me_L_sI, me_L_sP, me_L_nx, show me_L M 20 0 = 2 from hm.2.1 (20, 0, 2) (by decide)])]; unfold vp_in; decide) (by simp [me_I_sI, me_I_sP, me_I_nx, me_P_sI, me_P_sP, me_P_nx, me_N_sI, me_N_sP, me_N_nx, me_L_sI, me_L_sP, me_L_nx, show me_P M 20 0 1 = some (5, 1) from hm.1 (20, 0, 1, 5, 1) (by decide)]) kz) ?_
      refine jx_of (fun _ _ kz => jw_getIe (1 + y) fl_Y_137 d_Y_put_43 rfl rfl (by simp [me_I_sI, me_I_sP, me_I_nx, me_P_sI, me_P_sP, me_P_nx, me_N_sI, me_N_sP, me_N_nx, me_L_sI, me_L_sP, me_L_nx]) kz) ?_
      refine jx_iret d_Y_put_46 rfl ?_
      exact ⟨by rw [if_neg b_11, if_neg (Int32.not_lt.mpr b_17)], by repeat (first | exact kp_rf | refine kp_sI ?_ (by decide))⟩
    · skip
      refine jx_of (fun _ _ kz => jw_iconst (-1) d_Y_put_20 (by decide) kz) ?_
      refine jx_iret d_Y_put_21 rfl ?_
      exact ⟨by simp_all, kp_rf⟩
set_option maxRecDepth 20000 in
set_option maxHeartbeats 4000000 in
theorem x_Y_giveNotice_1 {G : Gt} {M : Me} (d : Nat) (hm : cfr M) : sx G yt_Y_giveNotice yn_Y_giveNotice (d + 2) [.inr (some (0, 0)), .inr (some (6, 1))] M (fun r M' => r = some (.inl 0) ∧ (me_sI M 6 1 1 (1)) = M') := by
  refine sx_of (k := 2) (lc := [some (.inr (some (0, 0))), some (.inr (some (6, 1))), none, none]) mt_Y_giveNotice (Nat.le_of_ble_eq_true rfl) rfl ?_
  refine jx_of (fun _ _ kz => jw_aload_n 1 d_Y_giveNotice_0 rfl rfl kz) ?_
  refine jx_of (fun _ _ kz => jw_getPe (some (4, 8)) fl_Y_186 d_Y_giveNotice_1 rfl rfl (by simp [me_I_sI, me_I_sP, me_I_nx, me_P_sI, me_P_sP, me_P_nx, me_N_sI, me_N_sP, me_N_nx, me_L_sI, me_L_sP, me_L_nx, show me_P M 6 1 0 = some (4, 8) from hm.1 (6, 1, 0, 4, 8) (by decide)]) kz) ?_
  refine jx_callV (x_R_isEmpty _ 8 (by simp [me_I_sI, me_I_sP, me_I_nx, me_P_sI, me_P_sP, me_P_nx, me_N_sI, me_N_sP, me_N_nx, me_L_sI, me_L_sP, me_L_nx, show me_I M 4 8 1 = 0 from hm.2.2 (4, 8, 1, 0) (by decide)])) mt_R_isEmpty cf_R rfl rfl ml_Y_198 im_R_isEmpty se_R_isEmpty d_Y_giveNotice_4 rfl rfl (Nat.le_of_ble_eq_true rfl) ?_
  rintro _ _ ⟨rfl, rfl⟩
  refine jx_eq (st2 := [.inl 1]) rfl rfl rfl ?_
  refine jx_if_eq 17 d_Y_giveNotice_7 (by decide) (fun h => absurd h (by decide)) (fun _ => ?_)
  refine jx_of (fun _ _ kz => jw_aload_n 1 d_Y_giveNotice_10 rfl rfl kz) ?_
  refine jx_of (fun _ _ kz => jw_iconst 1 d_Y_giveNotice_11 (by decide) kz) ?_
  refine jx_of (fun _ _ kz => jw_putI fl_Y_182 (Or.inl rfl) rfl rfl d_Y_giveNotice_12 rfl rfl kz) ?_
  refine jx_of (fun _ _ kz => jw_iconst 0 d_Y_giveNotice_15 (by decide) kz) ?_
  refine jx_zret d_Y_giveNotice_16 rfl (by decide) ?_
  exact ⟨rfl, rfl⟩
set_option maxRecDepth 20000 in
set_option maxHeartbeats 4000000 in
theorem x_Y_wake_1 {G : Gt} {M : Me} (d : Nat) (hm : cfr M) : sx G yt_Y_wake yn_Y_wake (d + 3) [.inr (some (0, 0)), .inl 1] M (fun r M' => r = some (.inl (0)) ∧ kpM M M') := by
  refine sx_of (k := 1) (lc := [some (.inr (some (0, 0))), some (.inl 1), none]) mt_Y_wake (Nat.le_of_ble_eq_true rfl) rfl ?_
  refine jx_of (fun _ _ kz => jw_iload_n 1 d_Y_wake_0 rfl rfl kz) ?_
  refine jx_if_lt 9 d_Y_wake_1 (by decide) (fun h => absurd h (by decide)) (fun _ => ?_)
  refine jx_of (fun _ _ kz => jw_iload_n 1 d_Y_wake_4 rfl rfl kz) ?_
  refine jx_of (fun _ _ kz => jw_iconst 1 d_Y_wake_5 (by decide) kz) ?_
  refine jx_icmp_le 11 d_Y_wake_6 (by decide) (fun _ => ?_) (fun h => absurd h (by decide))
  refine jx_of (fun _ _ kz => jw_aload_n 0 d_Y_wake_11 rfl rfl kz) ?_
  refine jx_of (fun _ _ kz => jw_aload_n 0 d_Y_wake_12 rfl rfl kz) ?_
  refine jx_of (fun _ _ kz => jw_getPe (some (21, 0)) fl_Y_62 d_Y_wake_13 rfl rfl (by simp [me_I_sI, me_I_sP, me_I_nx, me_P_sI, me_P_sP, me_P_nx, me_N_sI, me_N_sP, me_N_nx, me_L_sI, me_L_sP, me_L_nx, show me_P M 0 0 9 = some (21, 0) from hm.1 (0, 0, 9, 21, 0) (by decide)]) kz) ?_
  refine jx_of (fun _ _ kz => jw_iload_n 1 d_Y_wake_16 rfl rfl kz) ?_
  refine jx_of (fun _ _ kz => jw_aalde (some (6, 1)) d_Y_wake_17 rfl rfl (by rw [show me_L _ 21 0 = 2 from (by simp [me_I_sI, me_I_sP, me_I_nx, me_P_sI, me_P_sP, me_P_nx, me_N_sI, me_N_sP, me_N_nx, me_L_sI, me_L_sP, me_L_nx, show me_L M 21 0 = 2 from hm.2.1 (21, 0, 2) (by decide)])]; unfold vp_in; decide) (by simp [me_I_sI, me_I_sP, me_I_nx, me_P_sI, me_P_sP, me_P_nx, me_N_sI, me_N_sP, me_N_nx, me_L_sI, me_L_sP, me_L_nx, show me_P M 21 0 1 = some (6, 1) from hm.1 (21, 0, 1, 6, 1) (by decide)]) kz) ?_
  refine jx_callV (x_Y_giveNotice_1 _  hm) mt_Y_giveNotice cf_Y rfl rfl ml_Y_140 im_Y_giveNotice se_Y_giveNotice d_Y_wake_18 rfl rfl (Nat.le_of_ble_eq_true rfl) ?_
  rintro _ _ ⟨rfl, rfl⟩
  refine jx_eq (st2 := [.inl 0]) rfl rfl rfl ?_
  refine jx_of (fun _ _ kz => jw_istore_n 2 d_Y_wake_21 rfl (Nat.le_of_ble_eq_true rfl) kz) ?_
  dsimp only [List.set]
  refine jx_of (fun _ _ kz => jw_aload_n 0 d_Y_wake_22 rfl rfl kz) ?_
  refine jx_callV (x_Y_injectWoken2 _  (by simp [me_I_sI, me_I_sP, me_I_nx, me_P_sI, me_P_sP, me_P_nx, me_N_sI, me_N_sP, me_N_nx, me_L_sI, me_L_sP, me_L_nx, show me_P M 0 0 7 = some (4, 4) from hm.1 (0, 0, 7, 4, 4) (by decide)]) (by simp [me_I_sI, me_I_sP, me_I_nx, me_P_sI, me_P_sP, me_P_nx, me_N_sI, me_N_sP, me_N_nx, me_L_sI, me_L_sP, me_L_nx, show me_I M 4 4 1 = 0 from hm.2.2 (4, 4, 1, 0) (by decide)])) mt_Y_injectWoken cf_Y rfl rfl ml_Y_103 im_Y_injectWoken se_Y_injectWoken d_Y_wake_23 rfl rfl (Nat.le_of_ble_eq_true rfl) ?_
  rintro _ _ ⟨rfl, rfl⟩
  refine jx_eq (st2 := []) rfl rfl rfl ?_
  refine jx_of (fun _ _ kz => jw_iload_n 2 d_Y_wake_26 rfl rfl kz) ?_
  refine jx_if_eq 34 d_Y_wake_27 (by decide) (fun _ => ?_) (fun h => absurd h (by decide))
  refine jx_of (fun _ _ kz => jw_iconst 0 d_Y_wake_34 (by decide) kz) ?_
  refine jx_iret d_Y_wake_35 rfl ?_
  exact ⟨rfl, by repeat (first | exact kp_rf | refine kp_sI ?_ (by decide))⟩
set_option maxRecDepth 20000 in
set_option maxHeartbeats 4000000 in
theorem x_Y_put_x {G : Gt} {M : Me} (d : Nat) (x : Int32) (y : Int32) (hm : cfr M) (hx : x < 0 ∨ 1 < x) : sx G yt_Y_put yn_Y_put (d + 2) [.inr (some (0, 0)), .inl x, .inl y] M (fun r M' => r = some (.inl (-1)) ∧ kpM M M') := by
  refine sx_of (k := 0) (lc := [some (.inr (some (0, 0))), some (.inl x), some (.inl y)]) mt_Y_put (Nat.le_of_ble_eq_true rfl) rfl ?_
  refine jx_of (fun _ _ kz => jw_iload_n 1 d_Y_put_0 rfl rfl kz) ?_
  refine jx_if_lt 20 d_Y_put_1 (by decide) (fun b_1 => ?_) (fun b_1 => ?_)
  · skip
    refine jx_of (fun _ _ kz => jw_iconst (-1) d_Y_put_20 (by decide) kz) ?_
    refine jx_iret d_Y_put_21 rfl ?_
    exact ⟨rfl, kp_rf⟩
  · skip
    refine jx_of (fun _ _ kz => jw_iload_n 1 d_Y_put_4 rfl rfl kz) ?_
    refine jx_of (fun _ _ kz => jw_iconst 1 d_Y_put_5 (by decide) kz) ?_
    refine jx_icmp_gt 20 d_Y_put_6 (by decide) (fun _ => ?_) (fun h => absurd (hx.resolve_left b_1) h)
    refine jx_of (fun _ _ kz => jw_iconst (-1) d_Y_put_20 (by decide) kz) ?_
    refine jx_iret d_Y_put_21 rfl ?_
    exact ⟨rfl, kp_rf⟩
set_option maxRecDepth 20000 in
set_option maxHeartbeats 4000000 in
theorem x_Y_wake_x {G : Gt} {M : Me} (d : Nat) (x : Int32) (hm : cfr M) (hx : x < 0 ∨ 1 < x) : sx G yt_Y_wake yn_Y_wake (d + 3) [.inr (some (0, 0)), .inl x] M (fun r M' => r = some (.inl (-1)) ∧ kpM M M') := by
  refine sx_of (k := 1) (lc := [some (.inr (some (0, 0))), some (.inl x), none]) mt_Y_wake (Nat.le_of_ble_eq_true rfl) rfl ?_
  refine jx_of (fun _ _ kz => jw_iload_n 1 d_Y_wake_0 rfl rfl kz) ?_
  refine jx_if_lt 9 d_Y_wake_1 (by decide) (fun b_1 => ?_) (fun b_1 => ?_)
  · skip
    refine jx_of (fun _ _ kz => jw_iconst (-1) d_Y_wake_9 (by decide) kz) ?_
    refine jx_iret d_Y_wake_10 rfl ?_
    exact ⟨rfl, kp_rf⟩
  · skip
    refine jx_of (fun _ _ kz => jw_iload_n 1 d_Y_wake_4 rfl rfl kz) ?_
    refine jx_of (fun _ _ kz => jw_iconst 1 d_Y_wake_5 (by decide) kz) ?_
    refine jx_icmp_le 11 d_Y_wake_6 (by decide) (fun h => absurd h (Int32.not_le.mpr (hx.resolve_left b_1))) (fun _ => ?_)
    refine jx_of (fun _ _ kz => jw_iconst (-1) d_Y_wake_9 (by decide) kz) ?_
    refine jx_iret d_Y_wake_10 rfl ?_
    exact ⟨rfl, kp_rf⟩
