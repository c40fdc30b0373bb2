theorem qX_len0 {M : Me} {nt : Nat} {inj : List Nat} {rg : Nat → List Nat} {sl : Nat → Option Nat} {X : List Nat} (h : qX M nt inj rg sl X) : inj.length ≤ 12 := by
  have h4 := h.2.2.2.1
  exact pigeon 12 inj (fun a => by
    have := h4.1 a
    unfold qC at this; omega) (fun a ha => by
    have h2 := h4.2.1 a (qC_in ha)
    have := h4.2.2
    omega)
theorem qX_cnt {M : Me} {nt : Nat} {inj : List Nat} {rg : Nat → List Nat} {sl : Nat → Option Nat} {X Y : List Nat} (h : qX M nt inj rg sl X) (hc : ∀ a, X.count a = Y.count a) : qX M nt inj rg sl Y := by
  have e : ∀ a, qC Y inj rg sl a = qC X inj rg sl a := fun a => by unfold qC; rw [hc]
  obtain ⟨a, b, c, ⟨e1, e2, e3⟩, ⟨f1, f2, f3, f0⟩, g⟩ := h
  exact ⟨a, b, c, ⟨fun x => by rw [e]; exact e1 x, fun x hx => e2 x (by rw [e] at hx; exact hx), e3⟩, ⟨f1, f2, f3, fun s hs h9 => f0 s hs (by rw [e] at h9; exact h9)⟩, fun s hs h9 => by rw [e]; exact g s hs h9⟩
theorem z0 : Int32.toNatClampNeg 0 = 0 := by decide
set_option maxRecDepth 20000 in
set_option maxHeartbeats 4000000 in
theorem z_M_shiftI_loop {G : Gt} (M0 : Me) (d n : Nat) (v : Int32) (hn4 : n ≤ 11) (hn : me_I M0 7 0 28 = nI n) (c0 s0 : Nat) : ∀ (m k : Nat) (M1 : Me), k + m = n → shf 53 0 0 k M0 M1 → mSh M1 → jx G yt_M_shiftInjector (d + 1) c0 s0 M1 19 [some (.inr (some (7, 0))), some (.inl v), some (.inl (nI k))] [] (fun r M' => r = some (.inl v) ∧ shf 53 0 0 n M0 M') := by
  intro m
  induction m with
  | zero =>
    intro k M1 hk hs hm1
    refine jx_of (fun _ _ kz => jw_iload_n 2 d_M_shiftInjector_19 rfl rfl kz) ?_
    refine jx_of (fun _ _ kz => jw_aload_n 0 d_M_shiftInjector_20 rfl rfl kz) ?_
    refine jx_of (fun _ _ kz => jw_getIe (nI n) fl_M_119 d_M_shiftInjector_21 rfl rfl (by rw [shf_o hs (by decide)]; exact hn) kz) ?_
    refine jx_icmp_ge 47 d_M_shiftInjector_24 (by decide) (fun _ => ?_) (fun h => absurd (nI_le (by omega) (by omega)) h)
    refine jx_of (fun _ _ kz => jw_iload_n 1 d_M_shiftInjector_47 rfl rfl kz) ?_
    refine jx_iret d_M_shiftInjector_48 rfl ?_
    exact ⟨rfl, by rw [show n = k by omega]; exact hs⟩
  | succ m ih =>
    intro k M1 hk hs hm1
    refine jx_of (fun _ _ kz => jw_iload_n 2 d_M_shiftInjector_19 rfl rfl kz) ?_
    refine jx_of (fun _ _ kz => jw_aload_n 0 d_M_shiftInjector_20 rfl rfl kz) ?_
    refine jx_of (fun _ _ kz => jw_getIe (nI n) fl_M_119 d_M_shiftInjector_21 rfl rfl (by rw [shf_o hs (by decide)]; exact hn) kz) ?_
    refine jx_icmp_ge 47 d_M_shiftInjector_24 (by decide) (fun h => absurd h (nI_ge (by omega) (by omega))) (fun _ => ?_)
    refine jx_of (fun _ _ kz => jw_aload_n 0 d_M_shiftInjector_27 rfl rfl kz) ?_
    refine jx_of (fun _ _ kz => jw_getPe (some (53, 0)) fl_M_80 d_M_shiftInjector_28 rfl rfl (by simp [me_I_sI, me_I_sP, me_I_nx, me_P_sI, me_P_sP, me_P_nx, me_N_sI, me_N_sP, me_N_nx, me_L_sI, me_L_sP, me_L_nx, show me_P M1 7 0 24 = some (53, 0) from hm1.1 (7, 0, 24, 53, 0) (by decide)]) kz) ?_
    refine jx_of (fun _ _ kz => jw_iload_n 2 d_M_shiftInjector_31 rfl rfl kz) ?_
    refine jx_of (fun _ _ kz => jw_aload_n 0 d_M_shiftInjector_32 rfl rfl kz) ?_
    refine jx_of (fun _ _ kz => jw_getPe (some (53, 0)) fl_M_80 d_M_shiftInjector_33 rfl rfl (by simp [me_I_sI, me_I_sP, me_I_nx, me_P_sI, me_P_sP, me_P_nx, me_N_sI, me_N_sP, me_N_nx, me_L_sI, me_L_sP, me_L_nx, show me_P M1 7 0 24 = some (53, 0) from hm1.1 (7, 0, 24, 53, 0) (by decide)]) kz) ?_
    refine jx_of (fun _ _ kz => jw_iload_n 2 d_M_shiftInjector_36 rfl rfl kz) ?_
    refine jx_of (fun _ _ kz => jw_iconst 1 d_M_shiftInjector_37 (by decide) kz) ?_
    refine jx_of (fun _ _ kz => jw_iadd d_M_shiftInjector_38 kz) ?_
    rw [show ((nI k) + 1 : Int32) = nI (k + 1) from nI_1 _]
    refine jx_of (fun _ _ kz => jw_ialde (me_I M1 53 0 (k + 1)) d_M_shiftInjector_39 rfl rfl (by rw [show me_L _ 53 0 = 12 from (by simp [me_I_sI, me_I_sP, me_I_nx, me_P_sI, me_P_sP, me_P_nx, me_N_sI, me_N_sP, me_N_nx, me_L_sI, me_L_sP, me_L_nx, show me_L M1 53 0 = 12 from hm1.2 (53, 0, 12) (by decide)])]; exact (vp_in_nI (by omega) (by decide))) (by rw [nI_clamp (by omega)]) kz) ?_
    refine jx_of (fun _ _ kz => jw_iast d_M_shiftInjector_40 rfl rfl (by rw [show me_L _ 53 0 = 12 from (by simp [me_I_sI, me_I_sP, me_I_nx, me_P_sI, me_P_sP, me_P_nx, me_N_sI, me_N_sP, me_N_nx, me_L_sI, me_L_sP, me_L_nx, show me_L M1 53 0 = 12 from hm1.2 (53, 0, 12) (by decide)])]; exact (vp_in_nI (by omega) (by decide))) kz) ?_
    rw [nI_clamp (by omega)]
    refine jx_of (fun _ _ kz => jw_iincc 1 d_M_shiftInjector_41 (by decide) rfl (Nat.le_of_ble_eq_true rfl) kz) ?_
    dsimp only [List.set]
    refine jx_of (fun _ _ kz => jw_goto 19 d_M_shiftInjector_44 (by decide) kz) ?_
    rw [nI_1]
    exact ih (k + 1) _ (by omega) (by have h9 := shf_st hs (by omega); rw [Nat.zero_add] at h9; exact h9) (mSh_mc hm1 (sq_sI sq_rf))
set_option maxRecDepth 20000 in
set_option maxHeartbeats 4000000 in
theorem z_M_shiftInjector {G : Gt} {M : Me} (d : Nat) (a : Nat) (l : List Nat) (nt : Nat) (inj : List Nat) (rg : Nat → List Nat) (sl : Nat → Option Nat) (X : List Nat) (hm : mSh M) (hq : qX M nt inj rg sl X) (hr : inj = a :: l) : sx G yt_M_shiftInjector yn_M_shiftInjector (d + 1) [.inr (some (7, 0))] M (fun r M' => r = some (.inl (nI a)) ∧ qX M' nt l rg sl (a :: X) ∧ mc M M' ∧ ∀ Y, tr Y M M') := by
  refine sx_of (k := 2) (lc := [some (.inr (some (7, 0))), none, none]) mt_M_shiftInjector (Nat.le_of_ble_eq_true rfl) rfl ?_
  refine jx_of (fun _ _ kz => jw_aload_n 0 d_M_shiftInjector_0 rfl rfl kz) ?_
  refine jx_of (fun _ _ kz => jw_getPe (some (53, 0)) fl_M_80 d_M_shiftInjector_1 rfl rfl (by simp [me_I_sI, me_I_sP, me_I_nx, me_P_sI, me_P_sP, me_P_nx, me_N_sI, me_N_sP, me_N_nx, me_L_sI, me_L_sP, me_L_nx, show me_P M 7 0 24 = some (53, 0) from hm.1 (7, 0, 24, 53, 0) (by decide)]) kz) ?_
  refine jx_of (fun _ _ kz => jw_iconst 0 d_M_shiftInjector_4 (by decide) kz) ?_
  refine jx_of (fun _ _ kz => jw_ialde (nI a) d_M_shiftInjector_5 rfl rfl (by rw [show me_L _ 53 0 = 12 from (by simp [me_I_sI, me_I_sP, me_I_nx, me_P_sI, me_P_sP, me_P_nx, me_N_sI, me_N_sP, me_N_nx, me_L_sI, me_L_sP, me_L_nx, show me_L M 53 0 = 12 from hm.2 (53, 0, 12) (by decide)])]; unfold vp_in; decide) (by rw [z0]; exact hq.1.2 0 a (by rw [hr]; rfl)) kz) ?_
  refine jx_of (fun _ _ kz => jw_istore_n 1 d_M_shiftInjector_6 rfl (Nat.le_of_ble_eq_true rfl) kz) ?_
  dsimp only [List.set]
  refine jx_of (fun _ _ kz => jw_aload_n 0 d_M_shiftInjector_7 rfl rfl kz) ?_
  refine jx_of (fun _ _ kz => jw_dup d_M_shiftInjector_8 kz) ?_
  refine jx_of (fun _ _ kz => jw_getIe (nI inj.length) fl_M_119 d_M_shiftInjector_9 rfl rfl hq.1.1 kz) ?_
  refine jx_of (fun _ _ kz => jw_iconst 1 d_M_shiftInjector_12 (by decide) kz) ?_
  refine jx_of (fun _ _ kz => jw_isub d_M_shiftInjector_13 kz) ?_
  rw [show ((nI inj.length) - 1 : Int32) = nI (inj.length - 1) from nI_p1 (by rw [hr]; simp)]
  refine jx_of (fun _ _ kz => jw_putI fl_M_119 (Or.inl rfl) rfl rfl d_M_shiftInjector_14 rfl rfl kz) ?_
  refine jx_of (fun _ _ kz => jw_iconst 0 d_M_shiftInjector_17 (by decide) kz) ?_
  refine jx_of (fun _ _ kz => jw_istore_n 2 d_M_shiftInjector_18 rfl (Nat.le_of_ble_eq_true rfl) kz) ?_
  dsimp only [List.set]
  have hl := qX_len0 hq
  refine jx_mono (z_M_shiftI_loop _ d (inj.length - 1) (nI a) (by omega) (by simp [me_I_sI]) _ _ (inj.length - 1) 0 _ (by omega) shf_rf (mSh_mc hm (sq_sI sq_rf))) (fun r M2 h => ?_)
  have h2 := qX_rmi (i := 0) hq (by rw [hr]; rfl) h.2
  rw [show inj.eraseIdx 0 = l from by rw [hr]; rfl] at h2
  refine ⟨h.1, h2, ⟨h.2.1, fun s i k q => ?_⟩, fun Y s hs => ?_⟩
  · rw [h.2.2.1 s i k (Or.inl (fun e => by rw [e] at q; exact kp_no (by decide) q)), me_I_sI, if_neg (fun e => by rw [e.1, e.2.2] at q; revert q; unfold kp; decide)]
  · exact ⟨by rw [shf_o h.2 (by decide)]; simp [me_I_sI], by rw [shf_o h.2 (by decide)]; simp [me_I_sI]⟩
set_option maxRecDepth 20000 in
set_option maxHeartbeats 4000000 in
theorem z_M_toRing_s {G : Gt} {M : Me} (d : Nat) (t : Nat) (w : Nat) (nt : Nat) (inj : List Nat) (rg : Nat → List Nat) (sl : Nat → Option Nat) (X : List Nat) (hm : mSh M) (hw : w < 3) (hq : qX M nt inj rg sl (t :: X)) (hl : (rg w).length < 4) : sx G yt_M_toRing yn_M_toRing (d + 3) [.inr (some (7, 0)), .inl (nI t), .inl (nI w)] M (fun r M' => r = none ∧ mQ M' nt X ∧ mc M M' ∧ tr X M M') := by
  refine sx_of (k := 2) (lc := [some (.inr (some (7, 0))), some (.inl (nI t)), some (.inl (nI w)), none, none]) mt_M_toRing (Nat.le_of_ble_eq_true rfl) rfl ?_
  refine jx_of (fun _ _ kz => jw_aload_n 0 d_M_toRing_0 rfl rfl kz) ?_
  refine jx_of (fun _ _ kz => jw_getPe (some (52, 0)) fl_M_77 d_M_toRing_1 rfl rfl (by simp [me_I_sI, me_I_sP, me_I_nx, me_P_sI, me_P_sP, me_P_nx, me_N_sI, me_N_sP, me_N_nx, me_L_sI, me_L_sP, me_L_nx, show me_P M 7 0 23 = some (52, 0) from hm.1 (7, 0, 23, 52, 0) (by decide)]) kz) ?_
  refine jx_of (fun _ _ kz => jw_iload_n 2 d_M_toRing_4 rfl rfl kz) ?_
  refine jx_of (fun _ _ kz => jw_ialde (nI (rg w).length) d_M_toRing_5 rfl rfl (by rw [show me_L _ 52 0 = 3 from (by simp [me_I_sI, me_I_sP, me_I_nx, me_P_sI, me_P_sP, me_P_nx, me_N_sI, me_N_sP, me_N_nx, me_L_sI, me_L_sP, me_L_nx, show me_L M 52 0 = 3 from hm.2 (52, 0, 3) (by decide)])]; exact (vp_in_nI hw (by decide))) (by rw [nI_clamp (by omega)]; exact (hq.2.1 w hw).1) kz) ?_
  refine jx_of (fun _ _ kz => jw_iconst 4 d_M_toRing_6 (by decide) kz) ?_
  refine jx_icmp_ge 41 d_M_toRing_7 (by decide) (fun h => absurd h (nI_ge (b := 4) hl (by decide))) (fun _ => ?_)
  refine jx_of (fun _ _ kz => jw_aload_n 0 d_M_toRing_10 rfl rfl kz) ?_
  refine jx_of (fun _ _ kz => jw_getPe (some (51, 0)) fl_M_74 d_M_toRing_11 rfl rfl (by simp [me_I_sI, me_I_sP, me_I_nx, me_P_sI, me_P_sP, me_P_nx, me_N_sI, me_N_sP, me_N_nx, me_L_sI, me_L_sP, me_L_nx, show me_P M 7 0 22 = some (51, 0) from hm.1 (7, 0, 22, 51, 0) (by decide)]) kz) ?_
  refine jx_of (fun _ _ kz => jw_iconst 4 d_M_toRing_14 (by decide) kz) ?_
  refine jx_of (fun _ _ kz => jw_iload_n 2 d_M_toRing_15 rfl rfl kz) ?_
  refine jx_of (fun _ _ kz => jw_imul d_M_toRing_16 kz) ?_
  rw [show (4 * (nI w) : Int32) = nI (4 * w) from n4 w]
  refine jx_of (fun _ _ kz => jw_aload_n 0 d_M_toRing_17 rfl rfl kz) ?_
  refine jx_of (fun _ _ kz => jw_getPe (some (52, 0)) fl_M_77 d_M_toRing_18 rfl rfl (by simp [me_I_sI, me_I_sP, me_I_nx, me_P_sI, me_P_sP, me_P_nx, me_N_sI, me_N_sP, me_N_nx, me_L_sI, me_L_sP, me_L_nx, show me_P M 7 0 23 = some (52, 0) from hm.1 (7, 0, 23, 52, 0) (by decide)]) kz) ?_
  refine jx_of (fun _ _ kz => jw_iload_n 2 d_M_toRing_21 rfl rfl kz) ?_
  refine jx_of (fun _ _ kz => jw_dup2 d_M_toRing_22 kz) ?_
  refine jx_of (fun _ _ kz => jw_ialde (nI (rg w).length) d_M_toRing_23 rfl rfl (by rw [show me_L _ 52 0 = 3 from (by simp [me_I_sI, me_I_sP, me_I_nx, me_P_sI, me_P_sP, me_P_nx, me_N_sI, me_N_sP, me_N_nx, me_L_sI, me_L_sP, me_L_nx, show me_L M 52 0 = 3 from hm.2 (52, 0, 3) (by decide)])]; exact (vp_in_nI hw (by decide))) (by rw [nI_clamp (by omega)]; exact (hq.2.1 w hw).1) kz) ?_
  refine jx_of (fun _ _ kz => jw_dup_x2 d_M_toRing_24 kz) ?_
  refine jx_of (fun _ _ kz => jw_iconst 1 d_M_toRing_25 (by decide) kz) ?_
  refine jx_of (fun _ _ kz => jw_iadd d_M_toRing_26 kz) ?_
  refine jx_of (fun _ _ kz => jw_iast d_M_toRing_27 rfl rfl (by rw [show me_L _ 52 0 = 3 from (by simp [me_I_sI, me_I_sP, me_I_nx, me_P_sI, me_P_sP, me_P_nx, me_N_sI, me_N_sP, me_N_nx, me_L_sI, me_L_sP, me_L_nx, show me_L M 52 0 = 3 from hm.2 (52, 0, 3) (by decide)])]; exact (vp_in_nI hw (by decide))) kz) ?_
  rw [nI_clamp (by omega)]
  refine jx_of (fun _ _ kz => jw_iadd d_M_toRing_28 kz) ?_
  rw [show ((nI (4 * w)) + (nI (rg w).length) : Int32) = nI (4 * w + (rg w).length) from nI_add _ _]
  refine jx_of (fun _ _ kz => jw_iload_n 1 d_M_toRing_29 rfl rfl kz) ?_
  refine jx_of (fun _ _ kz => jw_iast d_M_toRing_30 rfl rfl (by rw [show me_L _ 51 0 = 12 from (by simp [me_I_sI, me_I_sP, me_I_nx, me_P_sI, me_P_sP, me_P_nx, me_N_sI, me_N_sP, me_N_nx, me_L_sI, me_L_sP, me_L_nx, show me_L M 51 0 = 12 from hm.2 (51, 0, 12) (by decide)])]; exact (vp_in_nI (by omega) (by decide))) kz) ?_
  rw [nI_clamp (by omega)]
  refine jx_of (fun _ _ kz => jw_aload_n 0 d_M_toRing_31 rfl rfl kz) ?_
  refine jx_of (fun _ _ kz => jw_getPe (some (38, 0)) fl_M_34 d_M_toRing_32 rfl rfl (by simp [me_I_sI, me_I_sP, me_I_nx, me_P_sI, me_P_sP, me_P_nx, me_N_sI, me_N_sP, me_N_nx, me_L_sI, me_L_sP, me_L_nx, show me_P M 7 0 9 = some (38, 0) from hm.1 (7, 0, 9, 38, 0) (by decide)]) kz) ?_
  refine jx_of (fun _ _ kz => jw_iload_n 1 d_M_toRing_35 rfl rfl kz) ?_
  refine jx_of (fun _ _ kz => jw_iconst 5 d_M_toRing_36 (by decide) kz) ?_
  refine jx_of (fun _ _ kz => jw_iload_n 2 d_M_toRing_37 rfl rfl kz) ?_
  refine jx_of (fun _ _ kz => jw_iadd d_M_toRing_38 kz) ?_
  rw [show (5 + (nI w) : Int32) = nI (5 + w) from n_52 w]
  refine jx_of (fun _ _ kz => jw_iast d_M_toRing_39 rfl rfl (by rw [show me_L _ 38 0 = 12 from (by simp [me_I_sI, me_I_sP, me_I_nx, me_P_sI, me_P_sP, me_P_nx, me_N_sI, me_N_sP, me_N_nx, me_L_sI, me_L_sP, me_L_nx, show me_L M 38 0 = 12 from hm.2 (38, 0, 12) (by decide)])]; exact (vp_in_nI (by have := (qX_out hq).2; have := hq.2.2.2.1.2.2; omega) (by decide))) kz) ?_
  rw [nI_clamp (by have := (qX_out hq).2; have := hq.2.2.2.1.2.2; omega)]
  refine jx_vret d_M_toRing_40 rfl ?_
  exact ⟨rfl, ⟨_, _, _, qX_ring hq hw hl⟩, mc_sI (mc_sI (mc_sI mc_rf (kp_no (by decide))) (kp_no (by decide))) (kp_no (by decide)), tr_sI (tr_sI (tr_sI tr_rf (Or.inl (by decide))) (Or.inl (by decide))) (Or.inr (qX_xn hq))⟩
set_option maxRecDepth 20000 in
set_option maxHeartbeats 4000000 in
theorem z_M_toRing_l {G : Gt} {M : Me} (d : Nat) (t : Nat) (w : Nat) (a : Nat) (b : Nat) (l : List Nat) (nt : Nat) (inj : List Nat) (rg : Nat → List Nat) (sl : Nat → Option Nat) (X : List Nat) (hm : mSh M) (hw : w < 3) (hq : qX M nt inj rg sl (t :: X)) (hl : rg w = a :: b :: l) (h4 : (rg w).length = 4) : sx G yt_M_toRing yn_M_toRing (d + 3) [.inr (some (7, 0)), .inl (nI t), .inl (nI w)] M (fun r M' => r = none ∧ mQ M' nt X ∧ mc M M' ∧ tr X M M') := by
  refine sx_of (k := 2) (lc := [some (.inr (some (7, 0))), some (.inl (nI t)), some (.inl (nI w)), none, none]) mt_M_toRing (Nat.le_of_ble_eq_true rfl) rfl ?_
  refine jx_of (fun _ _ kz => jw_aload_n 0 d_M_toRing_0 rfl rfl kz) ?_
  refine jx_of (fun _ _ kz => jw_getPe (some (52, 0)) fl_M_77 d_M_toRing_1 rfl rfl (by simp [me_I_sI, me_I_sP, me_I_nx, me_P_sI, me_P_sP, me_P_nx, me_N_sI, me_N_sP, me_N_nx, me_L_sI, me_L_sP, me_L_nx, show me_P M 7 0 23 = some (52, 0) from hm.1 (7, 0, 23, 52, 0) (by decide)]) kz) ?_
  refine jx_of (fun _ _ kz => jw_iload_n 2 d_M_toRing_4 rfl rfl kz) ?_
  refine jx_of (fun _ _ kz => jw_ialde (nI (rg w).length) d_M_toRing_5 rfl rfl (by rw [show me_L _ 52 0 = 3 from (by simp [me_I_sI, me_I_sP, me_I_nx, me_P_sI, me_P_sP, me_P_nx, me_N_sI, me_N_sP, me_N_nx, me_L_sI, me_L_sP, me_L_nx, show me_L M 52 0 = 3 from hm.2 (52, 0, 3) (by decide)])]; exact (vp_in_nI hw (by decide))) (by rw [nI_clamp (by omega)]; exact (hq.2.1 w hw).1) kz) ?_
  refine jx_of (fun _ _ kz => jw_iconst 4 d_M_toRing_6 (by decide) kz) ?_
  refine jx_icmp_ge 41 d_M_toRing_7 (by decide) (fun _ => ?_) (fun h => absurd (by rw [h4]; decide) h)
  refine jx_of (fun _ _ kz => jw_aload_n 0 d_M_toRing_41 rfl rfl kz) ?_
  refine jx_of (fun _ _ kz => jw_iload_n 2 d_M_toRing_42 rfl rfl kz) ?_
  refine jx_callV (z_M_shift (d + 1) w a ((b :: l)) nt inj rg sl ((t :: X)) hm  hw hq hl) mt_M_shift cf_M rfl rfl ml_M_122 im_M_shift se_M_shift d_M_toRing_43 rfl rfl (Nat.le_of_ble_eq_true rfl) ?_
  rintro _ M1 ⟨rfl, q1, c1, t1⟩
  refine jx_eq (st2 := [.inl (nI a)]) rfl rfl rfl ?_
  refine jx_of (fun _ _ kz => jw_istore_n 3 d_M_toRing_46 rfl (Nat.le_of_ble_eq_true rfl) kz) ?_
  dsimp only [List.set]
  refine jx_of (fun _ _ kz => jw_aload_n 0 d_M_toRing_47 rfl rfl kz) ?_
  refine jx_of (fun _ _ kz => jw_iload_n 2 d_M_toRing_48 rfl rfl kz) ?_
  refine jx_callV (z_M_shift (d + 1) w b l nt inj ((rgu rg w (b :: l))) sl ((a :: t :: X)) (mSh_mc hm c1.1)  hw q1 (by simp [rgu])) mt_M_shift cf_M rfl rfl ml_M_122 im_M_shift se_M_shift d_M_toRing_49 rfl rfl (Nat.le_of_ble_eq_true rfl) ?_
  rintro _ M2 ⟨rfl, q2, c2, t2⟩
  refine jx_eq (st2 := [.inl (nI b)]) rfl rfl rfl ?_
  refine jx_of (fun _ _ kz => jw_istore d_M_toRing_52 (Nat.le_of_ble_eq_true rfl) kz) ?_
  dsimp only [List.set]
  refine jx_of (fun _ _ kz => jw_aload_n 0 d_M_toRing_54 rfl rfl kz) ?_
  refine jx_of (fun _ _ kz => jw_iload_n 3 d_M_toRing_55 rfl rfl kz) ?_
  refine jx_callV (z_M_inject (d + 1) a nt _ _ _ ((b :: t :: X)) (mSh_mc hm (sq_tr c1.1 c2.1))  (qX_cnt q2 (fun x => by simp only [List.count_cons]; omega))) mt_M_inject cf_M rfl rfl ml_M_125 im_M_inject se_M_inject d_M_toRing_56 rfl rfl (Nat.le_of_ble_eq_true rfl) ?_
  rintro _ M3 ⟨rfl, ⟨_, _, _, q3⟩, c3, t3⟩
  refine jx_eq (st2 := []) rfl rfl rfl ?_
  refine jx_of (fun _ _ kz => jw_aload_n 0 d_M_toRing_59 rfl rfl kz) ?_
  refine jx_of (fun _ _ kz => jw_iload d_M_toRing_60 rfl kz) ?_
  refine jx_callV (z_M_inject (d + 1) b nt _ _ _ ((t :: X)) (mSh_mc hm (sq_tr (sq_tr c1.1 c2.1) c3.1))  q3) mt_M_inject cf_M rfl rfl ml_M_125 im_M_inject se_M_inject d_M_toRing_62 rfl rfl (Nat.le_of_ble_eq_true rfl) ?_
  rintro _ M4 ⟨rfl, ⟨_, _, _, q4⟩, c4, t4⟩
  refine jx_eq (st2 := []) rfl rfl rfl ?_
  refine jx_of (fun _ _ kz => jw_aload_n 0 d_M_toRing_65 rfl rfl kz) ?_
  refine jx_of (fun _ _ kz => jw_iload_n 1 d_M_toRing_66 rfl rfl kz) ?_
  refine jx_callV (z_M_inject (d + 1) t nt _ _ _ X (mSh_mc hm (sq_tr (sq_tr (sq_tr c1.1 c2.1) c3.1) c4.1))  q4) mt_M_inject cf_M rfl rfl ml_M_125 im_M_inject se_M_inject d_M_toRing_67 rfl rfl (Nat.le_of_ble_eq_true rfl) ?_
  rintro _ M5 ⟨rfl, q5, c5, t5⟩
  refine jx_eq (st2 := []) rfl rfl rfl ?_
  refine jx_vret d_M_toRing_70 rfl ?_
  exact ⟨rfl, q5, mc_tr (mc_tr (mc_tr (mc_tr c1 c2) c3) c4) c5, tr_tr (tr_tr (tr_tr (tr_tr (t1 X) (t2 X)) (fun s hs => t3 s (by simp [hs]))) (fun s hs => t4 s (by simp [hs]))) t5⟩
theorem z_M_toRing {G : Gt} {M : Me} (d t w nt : Nat) (X : List Nat) (hm : mSh M) (hw : w < 3) (hq : mQ M nt (t :: X)) : sx G yt_M_toRing yn_M_toRing (d + 3) [.inr (some (7, 0)), .inl (nI t), .inl (nI w)] M (fun r M' => r = none ∧ mQ M' nt X ∧ mc M M' ∧ tr X M M') := by
  obtain ⟨inj, rg, sl, hq⟩ := hq
  have h4 := (hq.2.1 w hw).2.1
  rcases Nat.lt_or_ge (rg w).length 4 with h | h
  · exact z_M_toRing_s d t w nt inj rg sl X hm hw hq h
  · match hr : rg w with
    | [] => rw [hr] at h; simp at h
    | [_] => rw [hr] at h; simp at h
    | a :: b :: l => exact z_M_toRing_l d t w a b l nt inj rg sl X hm hw hq hr (by omega)
