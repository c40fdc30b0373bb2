theorem nI_p1 {n : Nat} (h : 1 ≤ n) : nI n - 1 = nI (n - 1) := by
  obtain ⟨m, hm⟩ : ∃ m, n = m + 1 := ⟨n - 1, by omega⟩
  rw [hm, nI_pred, Nat.add_sub_cancel]
theorem n_52 (w : Nat) : (5 : Int32) + nI w = nI (5 + w) := nI_add 5 w
theorem n_22 (w : Nat) : (2 : Int32) + nI w = nI (2 + w) := nI_add 2 w
set_option maxRecDepth 20000 in
set_option maxHeartbeats 4000000 in
theorem z_M_inject {G : Gt} {M : Me} (d : Nat) (t : Nat) (nt : Nat) (inj : List Nat) (rg : Nat → List Nat) (sl : Nat → Option Nat) (X : List Nat) (hm : mSh M) (hq : qX M nt inj rg sl (t :: X)) : sx G yt_M_inject yn_M_inject (d + 1) [.inr (some (7, 0)), .inl (nI t)] M (fun r M' => r = none ∧ mQ M' nt X ∧ mc M M' ∧ tr X M M') := by
  refine sx_of (k := 0) (lc := [some (.inr (some (7, 0))), some (.inl (nI t))]) mt_M_inject (Nat.le_of_ble_eq_true rfl) rfl ?_
  refine jx_of (fun _ _ kz => jw_aload_n 0 d_M_inject_0 rfl rfl kz) ?_
  refine jx_of (fun _ _ kz => jw_getPe (some (53, 0)) fl_M_80 d_M_inject_1 rfl rfl (by simp [me_I_sI, me_I_sP, me_I_nx, me_P_sI, me_P_sP, me_P_nx, me_N_sI, me_N_sP, me_N_nx, me_L_sI, me_L_sP, me_L_nx, show me_P M 7 0 24 = some (53, 0) from hm.1 (7, 0, 24, 53, 0) (by decide)]) kz) ?_
  refine jx_of (fun _ _ kz => jw_aload_n 0 d_M_inject_4 rfl rfl kz) ?_
  refine jx_of (fun _ _ kz => jw_dup d_M_inject_5 kz) ?_
  refine jx_of (fun _ _ kz => jw_getIe (nI inj.length) fl_M_119 d_M_inject_6 rfl rfl hq.1.1 kz) ?_
  refine jx_of (fun _ _ kz => jw_dup_x1 d_M_inject_9 kz) ?_
  refine jx_of (fun _ _ kz => jw_iconst 1 d_M_inject_10 (by decide) kz) ?_
  refine jx_of (fun _ _ kz => jw_iadd d_M_inject_11 kz) ?_
  refine jx_of (fun _ _ kz => jw_putI fl_M_119 (Or.inl rfl) rfl rfl d_M_inject_12 rfl rfl kz) ?_
  refine jx_of (fun _ _ kz => jw_iload_n 1 d_M_inject_15 rfl rfl kz) ?_
  refine jx_of (fun _ _ kz => jw_iast d_M_inject_16 rfl rfl (by rw [show me_L _ 53 0 = 12 from (by simp [me_I_sI, me_I_sP, me_I_nx, me_P_sI, me_P_sP, me_P_nx, me_N_sI, me_N_sP, me_N_nx, me_L_sI, me_L_sP, me_L_nx, show me_L M 53 0 = 12 from hm.2 (53, 0, 12) (by decide)])]; exact (vp_in_nI (qX_len hq) (by decide))) kz) ?_
  rw [nI_clamp (by have := qX_len hq; omega)]
  refine jx_of (fun _ _ kz => jw_aload_n 0 d_M_inject_17 rfl rfl kz) ?_
  refine jx_of (fun _ _ kz => jw_getPe (some (38, 0)) fl_M_34 d_M_inject_18 rfl rfl (by simp [me_I_sI, me_I_sP, me_I_nx, me_P_sI, me_P_sP, me_P_nx, me_N_sI, me_N_sP, me_N_nx, me_L_sI, me_L_sP, me_L_nx, show me_P M 7 0 9 = some (38, 0) from hm.1 (7, 0, 9, 38, 0) (by decide)]) kz) ?_
  refine jx_of (fun _ _ kz => jw_iload_n 1 d_M_inject_21 rfl rfl kz) ?_
  refine jx_of (fun _ _ kz => jw_iconst 1 d_M_inject_22 (by decide) kz) ?_
  refine jx_of (fun _ _ kz => jw_iast d_M_inject_23 rfl rfl (by rw [show me_L _ 38 0 = 12 from (by simp [me_I_sI, me_I_sP, me_I_nx, me_P_sI, me_P_sP, me_P_nx, me_N_sI, me_N_sP, me_N_nx, me_L_sI, me_L_sP, me_L_nx, show me_L M 38 0 = 12 from hm.2 (38, 0, 12) (by decide)])]; exact (vp_in_nI (by have := (qX_out hq).2; have := hq.2.2.2.1.2.2; omega) (by decide))) kz) ?_
  rw [nI_clamp (by have := (qX_out hq).2; have := hq.2.2.2.1.2.2; omega)]
  refine jx_vret d_M_inject_24 rfl ?_
  exact ⟨rfl, ⟨_, _, _, qX_inj hq⟩, mc_sI (mc_sI (mc_sI mc_rf (by unfold kp; decide)) (kp_no (by decide))) (kp_no (by decide)), tr_sI (tr_sI (tr_sI tr_rf (Or.inl (by decide))) (Or.inl (by decide))) (Or.inr (qX_xn hq))⟩
set_option maxRecDepth 20000 in
set_option maxHeartbeats 4000000 in
theorem z_M_shift_loop {G : Gt} (M0 : Me) (d w n : Nat) (v : Int32) (hw : w < 3) (hn4 : n ≤ 3) (hn : me_I M0 52 0 w = nI n) (c0 s0 : Nat) : ∀ (m k : Nat) (M1 : Me), k + m = n → shf 51 (4 * w) 0 k M0 M1 → mSh M1 → jx G yt_M_shift (d + 1) c0 s0 M1 21 [some (.inr (some (7, 0))), some (.inl (nI w)), some (.inl v), some (.inl (nI k))] [] (fun r M' => r = some (.inl v) ∧ shf 51 (4 * w) 0 n M0 M') := by
  intro m
  induction m with
  | zero =>
    intro k M1 hk hs hm1
    refine jx_of (fun _ _ kz => jw_iload_n 3 d_M_shift_21 rfl rfl kz) ?_
    refine jx_of (fun _ _ kz => jw_aload_n 0 d_M_shift_22 rfl rfl kz) ?_
    refine jx_of (fun _ _ kz => jw_getPe (some (52, 0)) fl_M_77 d_M_shift_23 rfl rfl (by simp [me_I_sI, me_I_sP, me_I_nx, me_P_sI, me_P_sP, me_P_nx, me_N_sI, me_N_sP, me_N_nx, me_L_sI, me_L_sP, me_L_nx, show me_P M1 7 0 23 = some (52, 0) from hm1.1 (7, 0, 23, 52, 0) (by decide)]) kz) ?_
    refine jx_of (fun _ _ kz => jw_iload_n 1 d_M_shift_26 rfl rfl kz) ?_
    refine jx_of (fun _ _ kz => jw_ialde (nI n) d_M_shift_27 rfl rfl (by rw [show me_L _ 52 0 = 3 from (by simp [me_I_sI, me_I_sP, me_I_nx, me_P_sI, me_P_sP, me_P_nx, me_N_sI, me_N_sP, me_N_nx, me_L_sI, me_L_sP, me_L_nx, show me_L M1 52 0 = 3 from hm1.2 (52, 0, 3) (by decide)])]; exact (vp_in_nI hw (by decide))) (by rw [nI_clamp (by omega), shf_o hs (by decide)]; exact hn) kz) ?_
    refine jx_icmp_ge 59 d_M_shift_28 (by decide) (fun _ => ?_) (fun h => absurd (nI_le (by omega) (by omega)) h)
    refine jx_of (fun _ _ kz => jw_iload_n 2 d_M_shift_59 rfl rfl kz) ?_
    refine jx_iret d_M_shift_60 rfl ?_
    exact ⟨rfl, by rw [show n = k by omega]; exact hs⟩
  | succ m ih =>
    intro k M1 hk hs hm1
    refine jx_of (fun _ _ kz => jw_iload_n 3 d_M_shift_21 rfl rfl kz) ?_
    refine jx_of (fun _ _ kz => jw_aload_n 0 d_M_shift_22 rfl rfl kz) ?_
    refine jx_of (fun _ _ kz => jw_getPe (some (52, 0)) fl_M_77 d_M_shift_23 rfl rfl (by simp [me_I_sI, me_I_sP, me_I_nx, me_P_sI, me_P_sP, me_P_nx, me_N_sI, me_N_sP, me_N_nx, me_L_sI, me_L_sP, me_L_nx, show me_P M1 7 0 23 = some (52, 0) from hm1.1 (7, 0, 23, 52, 0) (by decide)]) kz) ?_
    refine jx_of (fun _ _ kz => jw_iload_n 1 d_M_shift_26 rfl rfl kz) ?_
    refine jx_of (fun _ _ kz => jw_ialde (nI n) d_M_shift_27 rfl rfl (by rw [show me_L _ 52 0 = 3 from (by simp [me_I_sI, me_I_sP, me_I_nx, me_P_sI, me_P_sP, me_P_nx, me_N_sI, me_N_sP, me_N_nx, me_L_sI, me_L_sP, me_L_nx, show me_L M1 52 0 = 3 from hm1.2 (52, 0, 3) (by decide)])]; exact (vp_in_nI hw (by decide))) (by rw [nI_clamp (by omega), shf_o hs (by decide)]; exact hn) kz) ?_
    refine jx_icmp_ge 59 d_M_shift_28 (by decide) (fun h => absurd h (nI_ge (by omega) (by omega))) (fun _ => ?_)
    refine jx_of (fun _ _ kz => jw_aload_n 0 d_M_shift_31 rfl rfl kz) ?_
    refine jx_of (fun _ _ kz => jw_getPe (some (51, 0)) fl_M_74 d_M_shift_32 rfl rfl (by simp [me_I_sI, me_I_sP, me_I_nx, me_P_sI, me_P_sP, me_P_nx, me_N_sI, me_N_sP, me_N_nx, me_L_sI, me_L_sP, me_L_nx, show me_P M1 7 0 22 = some (51, 0) from hm1.1 (7, 0, 22, 51, 0) (by decide)]) kz) ?_
    refine jx_of (fun _ _ kz => jw_iconst 4 d_M_shift_35 (by decide) kz) ?_
    refine jx_of (fun _ _ kz => jw_iload_n 1 d_M_shift_36 rfl rfl kz) ?_
    refine jx_of (fun _ _ kz => jw_imul d_M_shift_37 kz) ?_
    rw [show (4 * (nI w) : Int32) = nI (4 * w) from n4 w]
    refine jx_of (fun _ _ kz => jw_iload_n 3 d_M_shift_38 rfl rfl kz) ?_
    refine jx_of (fun _ _ kz => jw_iadd d_M_shift_39 kz) ?_
    rw [show ((nI (4 * w)) + (nI k) : Int32) = nI (4 * w + k) from nI_add _ _]
    refine jx_of (fun _ _ kz => jw_aload_n 0 d_M_shift_40 rfl rfl kz) ?_
    refine jx_of (fun _ _ kz => jw_getPe (some (51, 0)) fl_M_74 d_M_shift_41 rfl rfl (by simp [me_I_sI, me_I_sP, me_I_nx, me_P_sI, me_P_sP, me_P_nx, me_N_sI, me_N_sP, me_N_nx, me_L_sI, me_L_sP, me_L_nx, show me_P M1 7 0 22 = some (51, 0) from hm1.1 (7, 0, 22, 51, 0) (by decide)]) kz) ?_
    refine jx_of (fun _ _ kz => jw_iconst 4 d_M_shift_44 (by decide) kz) ?_
    refine jx_of (fun _ _ kz => jw_iload_n 1 d_M_shift_45 rfl rfl kz) ?_
    refine jx_of (fun _ _ kz => jw_imul d_M_shift_46 kz) ?_
    rw [show (4 * (nI w) : Int32) = nI (4 * w) from n4 w]
    refine jx_of (fun _ _ kz => jw_iload_n 3 d_M_shift_47 rfl rfl kz) ?_
    refine jx_of (fun _ _ kz => jw_iadd d_M_shift_48 kz) ?_
    rw [show ((nI (4 * w)) + (nI k) : Int32) = nI (4 * w + k) from nI_add _ _]
    refine jx_of (fun _ _ kz => jw_iconst 1 d_M_shift_49 (by decide) kz) ?_
    refine jx_of (fun _ _ kz => jw_iadd d_M_shift_50 kz) ?_
    rw [show ((nI (4 * w + k)) + 1 : Int32) = nI (4 * w + k + 1) from nI_1 _]
    refine jx_of (fun _ _ kz => jw_ialde (me_I M1 51 0 (4 * w + k + 1)) d_M_shift_51 rfl rfl (by rw [show me_L _ 51 0 = 12 from (by simp [me_I_sI, me_I_sP, me_I_nx, me_P_sI, me_P_sP, me_P_nx, me_N_sI, me_N_sP, me_N_nx, me_L_sI, me_L_sP, me_L_nx, show me_L M1 51 0 = 12 from hm1.2 (51, 0, 12) (by decide)])]; exact (vp_in_nI (by omega) (by decide))) (by rw [nI_clamp (by omega)]) kz) ?_
    refine jx_of (fun _ _ kz => jw_iast d_M_shift_52 rfl rfl (by rw [show me_L _ 51 0 = 12 from (by simp [me_I_sI, me_I_sP, me_I_nx, me_P_sI, me_P_sP, me_P_nx, me_N_sI, me_N_sP, me_N_nx, me_L_sI, me_L_sP, me_L_nx, show me_L M1 51 0 = 12 from hm1.2 (51, 0, 12) (by decide)])]; exact (vp_in_nI (by omega) (by decide))) kz) ?_
    rw [nI_clamp (by omega)]
    refine jx_of (fun _ _ kz => jw_iincc 1 d_M_shift_53 (by decide) rfl (Nat.le_of_ble_eq_true rfl) kz) ?_
    dsimp only [List.set]
    refine jx_of (fun _ _ kz => jw_goto 21 d_M_shift_56 (by decide) kz) ?_
    rw [nI_1]
    exact ih (k + 1) _ (by omega) (shf_st hs (by omega)) (mSh_mc hm1 (sq_sI sq_rf))
set_option maxRecDepth 20000 in
set_option maxHeartbeats 4000000 in
theorem z_M_shift {G : Gt} {M : Me} (d : Nat) (w : Nat) (a : Nat) (l : List Nat) (nt : Nat) (inj : List Nat) (rg : Nat → List Nat) (sl : Nat → Option Nat) (X : List Nat) (hm : mSh M) (hw : w < 3) (hq : qX M nt inj rg sl X) (hr : rg w = a :: l) : sx G yt_M_shift yn_M_shift (d + 1) [.inr (some (7, 0)), .inl (nI w)] M (fun r M' => r = some (.inl (nI a)) ∧ qX M' nt inj (rgu rg w l) sl (a :: X) ∧ mc M M' ∧ ∀ Y, tr Y M M') := by
  refine sx_of (k := 2) (lc := [some (.inr (some (7, 0))), some (.inl (nI w)), none, none]) mt_M_shift (Nat.le_of_ble_eq_true rfl) rfl ?_
  refine jx_of (fun _ _ kz => jw_aload_n 0 d_M_shift_0 rfl rfl kz) ?_
  refine jx_of (fun _ _ kz => jw_getPe (some (51, 0)) fl_M_74 d_M_shift_1 rfl rfl (by simp [me_I_sI, me_I_sP, me_I_nx, me_P_sI, me_P_sP, me_P_nx, me_N_sI, me_N_sP, me_N_nx, me_L_sI, me_L_sP, me_L_nx, show me_P M 7 0 22 = some (51, 0) from hm.1 (7, 0, 22, 51, 0) (by decide)]) kz) ?_
  refine jx_of (fun _ _ kz => jw_iconst 4 d_M_shift_4 (by decide) kz) ?_
  refine jx_of (fun _ _ kz => jw_iload_n 1 d_M_shift_5 rfl rfl kz) ?_
  refine jx_of (fun _ _ kz => jw_imul d_M_shift_6 kz) ?_
  rw [show (4 * (nI w) : Int32) = nI (4 * w) from n4 w]
  refine jx_of (fun _ _ kz => jw_ialde (nI a) d_M_shift_7 rfl rfl (by rw [show me_L _ 51 0 = 12 from (by simp [me_I_sI, me_I_sP, me_I_nx, me_P_sI, me_P_sP, me_P_nx, me_N_sI, me_N_sP, me_N_nx, me_L_sI, me_L_sP, me_L_nx, show me_L M 51 0 = 12 from hm.2 (51, 0, 12) (by decide)])]; exact (vp_in_nI (by omega) (by decide))) (by rw [nI_clamp (by omega)]; exact (hq.2.1 w hw).2.2 0 a (by rw [hr]; rfl)) kz) ?_
  refine jx_of (fun _ _ kz => jw_istore_n 2 d_M_shift_8 rfl (Nat.le_of_ble_eq_true rfl) kz) ?_
  dsimp only [List.set]
  refine jx_of (fun _ _ kz => jw_aload_n 0 d_M_shift_9 rfl rfl kz) ?_
  refine jx_of (fun _ _ kz => jw_getPe (some (52, 0)) fl_M_77 d_M_shift_10 rfl rfl (by simp [me_I_sI, me_I_sP, me_I_nx, me_P_sI, me_P_sP, me_P_nx, me_N_sI, me_N_sP, me_N_nx, me_L_sI, me_L_sP, me_L_nx, show me_P M 7 0 23 = some (52, 0) from hm.1 (7, 0, 23, 52, 0) (by decide)]) kz) ?_
  refine jx_of (fun _ _ kz => jw_iload_n 1 d_M_shift_13 rfl rfl kz) ?_
  refine jx_of (fun _ _ kz => jw_dup2 d_M_shift_14 kz) ?_
  refine jx_of (fun _ _ kz => jw_ialde (nI (rg w).length) d_M_shift_15 rfl rfl (by rw [show me_L _ 52 0 = 3 from (by simp [me_I_sI, me_I_sP, me_I_nx, me_P_sI, me_P_sP, me_P_nx, me_N_sI, me_N_sP, me_N_nx, me_L_sI, me_L_sP, me_L_nx, show me_L M 52 0 = 3 from hm.2 (52, 0, 3) (by decide)])]; exact (vp_in_nI hw (by decide))) (by rw [nI_clamp (by omega)]; exact (hq.2.1 w hw).1) kz) ?_
  refine jx_of (fun _ _ kz => jw_iconst 1 d_M_shift_16 (by decide) kz) ?_
  refine jx_of (fun _ _ kz => jw_isub d_M_shift_17 kz) ?_
  rw [show ((nI (rg w).length) - 1 : Int32) = nI ((rg w).length - 1) from nI_p1 (by rw [hr]; simp)]
  refine jx_of (fun _ _ kz => jw_iast d_M_shift_18 rfl rfl (by rw [show me_L _ 52 0 = 3 from (by simp [me_I_sI, me_I_sP, me_I_nx, me_P_sI, me_P_sP, me_P_nx, me_N_sI, me_N_sP, me_N_nx, me_L_sI, me_L_sP, me_L_nx, show me_L M 52 0 = 3 from hm.2 (52, 0, 3) (by decide)])]; exact (vp_in_nI hw (by decide))) kz) ?_
  rw [nI_clamp (by omega)]
  refine jx_of (fun _ _ kz => jw_iconst 0 d_M_shift_19 (by decide) kz) ?_
  refine jx_of (fun _ _ kz => jw_istore_n 3 d_M_shift_20 rfl (Nat.le_of_ble_eq_true rfl) kz) ?_
  dsimp only [List.set]
  have hl4 := (hq.2.1 w hw).2.1
  refine jx_mono (z_M_shift_loop _ d w ((rg w).length - 1) (nI a) hw (by omega) (by simp [me_I_sI]) _ _ ((rg w).length - 1) 0 _ (by omega) shf_rf (mSh_mc hm (sq_sI sq_rf))) (fun r M2 h => ?_)
  have h2 := qX_rmr (i := 0) hq hw (by rw [hr]; rfl) h.2
  rw [show (rg w).eraseIdx 0 = l from by rw [hr]; rfl] at h2
  refine ⟨h.1, h2, ⟨h.2.1, fun s i k q => ?_⟩, fun Y s hs => ?_⟩
  · rw [h.2.2.1 s i k (Or.inl (fun e => by rw [e] at q; exact kp_no (by decide) q)), me_I_sI, if_neg (fun e => by rw [e.1] at q; exact kp_no (by decide) q)]
  · exact ⟨by rw [shf_o h.2 (by decide)]; simp [me_I_sI], by rw [shf_o h.2 (by decide)]; simp [me_I_sI]⟩
