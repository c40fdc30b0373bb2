/-- the worker's field is -1 or one of the three -/
def wV (M : Me) : Prop := me_I M 7 0 35 = -1 ∨ ∃ w, w < 3 ∧ me_I M 7 0 35 = nI w
theorem wV_mc {M M' : Me} (h : wV M) (k : mc M M') : wV M' := by
  unfold wV; rw [k.2 7 0 35 (by unfold kp; omega)]; exact h
theorem mQ_any {M : Me} {nt : Nat} {X : List Nat} {s k : Nat} {v : Int32} (h : mQ M nt X) (hs : s ≠ 33 ∧ s ≠ 38 ∧ s ≠ 48 ∧ s ≠ 51 ∧ s ≠ 52 ∧ s ≠ 53 ∧ ¬ (s = 7 ∧ k = 28)) : mQ (me_sI M s 0 k v) nt X := by
  obtain ⟨a, b, c, h⟩ := h; exact ⟨a, b, c, qX_any h hs⟩
theorem qX_nx {M : Me} {nt : Nat} {inj : List Nat} {rg : Nat → List Nat} {sl : Nat → Option Nat} {X : List Nat} {t : Nat} (h : qC X inj rg sl t = 0) : t ∉ X := fun q => by
  have h2 := cm.mp q
  unfold qC at h; omega
/-- t, IDLE, becomes QUEUED and is in transit -/
theorem qX_wk {M : Me} {nt : Nat} {inj : List Nat} {rg : Nat → List Nat} {sl : Nat → Option Nat} {X : List Nat} {t : Nat} (h : qX M nt inj rg sl X) (ht : t < nt) (hs : me_I M 33 0 t = 0) : qX (me_sI M 33 0 t 1) nt inj rg sl (t :: X) :=
  qX_take (qX_state h (Or.inl (by decide))) ht (h.2.2.2.2.2 t ht hs) (by rw [me_I_sI, if_pos ⟨rfl, rfl, rfl⟩]; decide)
set_option maxRecDepth 20000 in
set_option maxHeartbeats 4000000 in
theorem z_M_wakeUp_p {G : Gt} {M : Me} (d : Nat) (t : Nat) (nt : Nat) (X : List Nat) (hm : mSh M) (ht : t < 12) (hs : ¬ me_I M 33 0 t = 0) (hq : mQ M nt X) : sx G yt_M_wakeUp yn_M_wakeUp (d + 4) [.inr (some (7, 0)), .inl (nI t)] M (fun r M' => r = none ∧ mQ M' nt X ∧ mc M M' ∧ tr X M M') := by
  refine sx_of (k := 1) (lc := [some (.inr (some (7, 0))), some (.inl (nI t)), none]) mt_M_wakeUp (Nat.le_of_ble_eq_true rfl) rfl ?_
  refine jx_of (fun _ _ kz => jw_aload_n 0 d_M_wakeUp_0 rfl rfl kz) ?_
  refine jx_of (fun _ _ kz => jw_getPe (some (33, 0)) fl_M_19 d_M_wakeUp_1 rfl rfl (by simp [me_I_sI, me_I_sP, me_I_nx, me_P_sI, me_P_sP, me_P_nx, me_N_sI, me_N_sP, me_N_nx, me_L_sI, me_L_sP, me_L_nx, show me_P M 7 0 4 = some (33, 0) from hm.1 (7, 0, 4, 33, 0) (by decide)]) kz) ?_
  refine jx_of (fun _ _ kz => jw_iload_n 1 d_M_wakeUp_4 rfl rfl kz) ?_
  refine jx_of (fun _ _ kz => jw_ialde (me_I M 33 0 t) d_M_wakeUp_5 rfl rfl (by rw [show me_L _ 33 0 = 12 from (by simp [me_I_sI, me_I_sP, me_I_nx, me_P_sI, me_P_sP, me_P_nx, me_N_sI, me_N_sP, me_N_nx, me_L_sI, me_L_sP, me_L_nx, show me_L M 33 0 = 12 from hm.2 (33, 0, 12) (by decide)])]; exact (vp_in_nI ht (by decide))) (by rw [nI_clamp (by omega)] <;> simp [me_I_sI]) kz) ?_
  refine jx_of (fun _ _ kz => jw_iconst 5 d_M_wakeUp_6 (by decide) kz) ?_
  refine jx_icmp_ne 17 d_M_wakeUp_7 (by decide) (fun b_7 => ?_) (fun b_7 => ?_)
  · skip
    refine jx_of (fun _ _ kz => jw_aload_n 0 d_M_wakeUp_17 rfl rfl kz) ?_
    refine jx_of (fun _ _ kz => jw_getPe (some (33, 0)) fl_M_19 d_M_wakeUp_18 rfl rfl (by simp [me_I_sI, me_I_sP, me_I_nx, me_P_sI, me_P_sP, me_P_nx, me_N_sI, me_N_sP, me_N_nx, me_L_sI, me_L_sP, me_L_nx, show me_P M 7 0 4 = some (33, 0) from hm.1 (7, 0, 4, 33, 0) (by decide)]) kz) ?_
    refine jx_of (fun _ _ kz => jw_iload_n 1 d_M_wakeUp_21 rfl rfl kz) ?_
    refine jx_of (fun _ _ kz => jw_ialde (me_I M 33 0 t) d_M_wakeUp_22 rfl rfl (by rw [show me_L _ 33 0 = 12 from (by simp [me_I_sI, me_I_sP, me_I_nx, me_P_sI, me_P_sP, me_P_nx, me_N_sI, me_N_sP, me_N_nx, me_L_sI, me_L_sP, me_L_nx, show me_L M 33 0 = 12 from hm.2 (33, 0, 12) (by decide)])]; exact (vp_in_nI ht (by decide))) (by rw [nI_clamp (by omega)] <;> simp [me_I_sI]) kz) ?_
    refine jx_if_eq 27 d_M_wakeUp_23 (by decide) (fun h => absurd h hs) (fun _ => ?_)
    refine jx_vret d_M_wakeUp_26 rfl ?_
    first | exact ⟨rfl, hq, mc_rf, tr_rf⟩ | exact ⟨rfl, mQ_any hq (by omega), mc_sI mc_rf (kp_no (by decide)), tr_sI tr_rf (Or.inl (by decide))⟩
  · skip
    refine jx_of (fun _ _ kz => jw_aload_n 0 d_M_wakeUp_10 rfl rfl kz) ?_
    refine jx_of (fun _ _ kz => jw_getPe (some (39, 0)) fl_M_37 d_M_wakeUp_11 rfl rfl (by simp [me_I_sI, me_I_sP, me_I_nx, me_P_sI, me_P_sP, me_P_nx, me_N_sI, me_N_sP, me_N_nx, me_L_sI, me_L_sP, me_L_nx, show me_P M 7 0 10 = some (39, 0) from hm.1 (7, 0, 10, 39, 0) (by decide)]) kz) ?_
    refine jx_of (fun _ _ kz => jw_iload_n 1 d_M_wakeUp_14 rfl rfl kz) ?_
    refine jx_of (fun _ _ kz => jw_iconst 1 d_M_wakeUp_15 (by decide) kz) ?_
    refine jx_of (fun _ _ kz => jw_zast d_M_wakeUp_16 rfl rfl (by rw [show me_L _ 39 0 = 12 from (by simp [me_I_sI, me_I_sP, me_I_nx, me_P_sI, me_P_sP, me_P_nx, me_N_sI, me_N_sP, me_N_nx, me_L_sI, me_L_sP, me_L_nx, show me_L M 39 0 = 12 from hm.2 (39, 0, 12) (by decide)])]; exact (vp_in_nI ht (by decide))) (by decide) kz) ?_
    rw [nI_clamp (by omega)]
    refine jx_of (fun _ _ kz => jw_aload_n 0 d_M_wakeUp_17 rfl rfl kz) ?_
    refine jx_of (fun _ _ kz => jw_getPe (some (33, 0)) fl_M_19 d_M_wakeUp_18 rfl rfl (by simp [me_I_sI, me_I_sP, me_I_nx, me_P_sI, me_P_sP, me_P_nx, me_N_sI, me_N_sP, me_N_nx, me_L_sI, me_L_sP, me_L_nx, show me_P M 7 0 4 = some (33, 0) from hm.1 (7, 0, 4, 33, 0) (by decide)]) kz) ?_
    refine jx_of (fun _ _ kz => jw_iload_n 1 d_M_wakeUp_21 rfl rfl kz) ?_
    refine jx_of (fun _ _ kz => jw_ialde (me_I M 33 0 t) d_M_wakeUp_22 rfl rfl (by rw [show me_L _ 33 0 = 12 from (by simp [me_I_sI, me_I_sP, me_I_nx, me_P_sI, me_P_sP, me_P_nx, me_N_sI, me_N_sP, me_N_nx, me_L_sI, me_L_sP, me_L_nx, show me_L M 33 0 = 12 from hm.2 (33, 0, 12) (by decide)])]; exact (vp_in_nI ht (by decide))) (by rw [nI_clamp (by omega)] <;> simp [me_I_sI]) kz) ?_
    refine jx_if_eq 27 d_M_wakeUp_23 (by decide) (fun h => absurd h hs) (fun _ => ?_)
    refine jx_vret d_M_wakeUp_26 rfl ?_
    first | exact ⟨rfl, hq, mc_rf, tr_rf⟩ | exact ⟨rfl, mQ_any hq (by omega), mc_sI mc_rf (kp_no (by decide)), tr_sI tr_rf (Or.inl (by decide))⟩
set_option maxRecDepth 20000 in
set_option maxHeartbeats 4000000 in
theorem z_M_wakeUp_n {G : Gt} {M : Me} (d : Nat) (t : Nat) (nt : Nat) (inj : List Nat) (rg : Nat → List Nat) (sl : Nat → Option Nat) (X : List Nat) (hm : mSh M) (ht : t < nt) (hs : me_I M 33 0 t = 0) (hw : me_I M 7 0 35 = -1) (hq : qX M nt inj rg sl X) : sx G yt_M_wakeUp yn_M_wakeUp (d + 4) [.inr (some (7, 0)), .inl (nI t)] M (fun r M' => r = none ∧ mQ M' nt X ∧ mc M M' ∧ tr X M M') := by
  refine sx_of (k := 1) (lc := [some (.inr (some (7, 0))), some (.inl (nI t)), none]) mt_M_wakeUp (Nat.le_of_ble_eq_true rfl) rfl ?_
  refine jx_of (fun _ _ kz => jw_aload_n 0 d_M_wakeUp_0 rfl rfl kz) ?_
  refine jx_of (fun _ _ kz => jw_getPe (some (33, 0)) fl_M_19 d_M_wakeUp_1 rfl rfl (by simp [me_I_sI, me_I_sP, me_I_nx, me_P_sI, me_P_sP, me_P_nx, me_N_sI, me_N_sP, me_N_nx, me_L_sI, me_L_sP, me_L_nx, show me_P M 7 0 4 = some (33, 0) from hm.1 (7, 0, 4, 33, 0) (by decide)]) kz) ?_
  refine jx_of (fun _ _ kz => jw_iload_n 1 d_M_wakeUp_4 rfl rfl kz) ?_
  refine jx_of (fun _ _ kz => jw_ialde (0) d_M_wakeUp_5 rfl rfl (by rw [show me_L _ 33 0 = 12 from (by simp [me_I_sI, me_I_sP, me_I_nx, me_P_sI, me_P_sP, me_P_nx, me_N_sI, me_N_sP, me_N_nx, me_L_sI, me_L_sP, me_L_nx, show me_L M 33 0 = 12 from hm.2 (33, 0, 12) (by decide)])]; exact (vp_in_nI (by have := hq.2.2.2.1.2.2; omega) (by decide))) (by rw [nI_clamp (by have := hq.2.2.2.1.2.2; omega)]; exact hs) kz) ?_
  refine jx_of (fun _ _ kz => jw_iconst 5 d_M_wakeUp_6 (by decide) kz) ?_
  refine jx_icmp_ne 17 d_M_wakeUp_7 (by decide) (fun _ => ?_) (fun h => absurd h (by decide))
  refine jx_of (fun _ _ kz => jw_aload_n 0 d_M_wakeUp_17 rfl rfl kz) ?_
  refine jx_of (fun _ _ kz => jw_getPe (some (33, 0)) fl_M_19 d_M_wakeUp_18 rfl rfl (by simp [me_I_sI, me_I_sP, me_I_nx, me_P_sI, me_P_sP, me_P_nx, me_N_sI, me_N_sP, me_N_nx, me_L_sI, me_L_sP, me_L_nx, show me_P M 7 0 4 = some (33, 0) from hm.1 (7, 0, 4, 33, 0) (by decide)]) kz) ?_
  refine jx_of (fun _ _ kz => jw_iload_n 1 d_M_wakeUp_21 rfl rfl kz) ?_
  refine jx_of (fun _ _ kz => jw_ialde (0) d_M_wakeUp_22 rfl rfl (by rw [show me_L _ 33 0 = 12 from (by simp [me_I_sI, me_I_sP, me_I_nx, me_P_sI, me_P_sP, me_P_nx, me_N_sI, me_N_sP, me_N_nx, me_L_sI, me_L_sP, me_L_nx, show me_L M 33 0 = 12 from hm.2 (33, 0, 12) (by decide)])]; exact (vp_in_nI (by have := hq.2.2.2.1.2.2; omega) (by decide))) (by rw [nI_clamp (by have := hq.2.2.2.1.2.2; omega)]; exact hs) kz) ?_
  refine jx_if_eq 27 d_M_wakeUp_23 (by decide) (fun _ => ?_) (fun h => absurd h (by decide))
  refine jx_of (fun _ _ kz => jw_aload_n 0 d_M_wakeUp_27 rfl rfl kz) ?_
  refine jx_of (fun _ _ kz => jw_getPe (some (33, 0)) fl_M_19 d_M_wakeUp_28 rfl rfl (by simp [me_I_sI, me_I_sP, me_I_nx, me_P_sI, me_P_sP, me_P_nx, me_N_sI, me_N_sP, me_N_nx, me_L_sI, me_L_sP, me_L_nx, show me_P M 7 0 4 = some (33, 0) from hm.1 (7, 0, 4, 33, 0) (by decide)]) kz) ?_
  refine jx_of (fun _ _ kz => jw_iload_n 1 d_M_wakeUp_31 rfl rfl kz) ?_
  refine jx_of (fun _ _ kz => jw_iconst 1 d_M_wakeUp_32 (by decide) kz) ?_
  refine jx_of (fun _ _ kz => jw_iast d_M_wakeUp_33 rfl rfl (by rw [show me_L _ 33 0 = 12 from (by simp [me_I_sI, me_I_sP, me_I_nx, me_P_sI, me_P_sP, me_P_nx, me_N_sI, me_N_sP, me_N_nx, me_L_sI, me_L_sP, me_L_nx, show me_L M 33 0 = 12 from hm.2 (33, 0, 12) (by decide)])]; exact (vp_in_nI (by have := hq.2.2.2.1.2.2; omega) (by decide))) kz) ?_
  rw [nI_clamp (by have := hq.2.2.2.1.2.2; omega)]
  refine jx_of (fun _ _ kz => jw_aload_n 0 d_M_wakeUp_34 rfl rfl kz) ?_
  refine jx_of (fun _ _ kz => jw_getIe ((-1)) fl_M_89 d_M_wakeUp_35 rfl rfl (by simp [me_I_sI, hw]) kz) ?_
  refine jx_if_ge 47 d_M_wakeUp_38 (by decide) (fun h => absurd h (by decide)) (fun _ => ?_)
  refine jx_of (fun _ _ kz => jw_aload_n 0 d_M_wakeUp_41 rfl rfl kz) ?_
  refine jx_of (fun _ _ kz => jw_iload_n 1 d_M_wakeUp_42 rfl rfl kz) ?_
  refine jx_callV (z_M_inject (d + 2) t nt inj rg sl X (mSh_mc hm (sq_sI sq_rf))  (qX_wk hq ht hs)) mt_M_inject cf_M rfl rfl ml_M_125 im_M_inject se_M_inject d_M_wakeUp_43 rfl rfl (Nat.le_of_ble_eq_true rfl) ?_
  rintro _ M1 ⟨rfl, q1, c1, t1⟩
  refine jx_eq (st2 := []) rfl rfl rfl ?_
  refine jx_vret d_M_wakeUp_46 rfl ?_
  exact ⟨rfl, q1, mc_tr (mc_sI mc_rf (kp_no (by decide))) c1, tr_tr (tr_sI tr_rf (Or.inr (qX_xn (qX_wk hq ht hs)))) t1⟩
set_option maxRecDepth 20000 in
set_option maxHeartbeats 4000000 in
theorem z_M_wakeUp_e {G : Gt} {M : Me} (d : Nat) (t : Nat) (w : Nat) (nt : Nat) (inj : List Nat) (rg : Nat → List Nat) (sl : Nat → Option Nat) (X : List Nat) (hm : mSh M) (ht : t < nt) (hs : me_I M 33 0 t = 0) (hw : w < 3) (hw0 : me_I M 7 0 35 = nI w) (hq : qX M nt inj rg sl X) (hsl : sl w = none) : sx G yt_M_wakeUp yn_M_wakeUp (d + 4) [.inr (some (7, 0)), .inl (nI t)] M (fun r M' => r = none ∧ mQ M' nt X ∧ mc M M' ∧ tr X M M') := by
  refine sx_of (k := 1) (lc := [some (.inr (some (7, 0))), some (.inl (nI t)), none]) mt_M_wakeUp (Nat.le_of_ble_eq_true rfl) rfl ?_
  refine jx_of (fun _ _ kz => jw_aload_n 0 d_M_wakeUp_0 rfl rfl kz) ?_
  refine jx_of (fun _ _ kz => jw_getPe (some (33, 0)) fl_M_19 d_M_wakeUp_1 rfl rfl (by simp [me_I_sI, me_I_sP, me_I_nx, me_P_sI, me_P_sP, me_P_nx, me_N_sI, me_N_sP, me_N_nx, me_L_sI, me_L_sP, me_L_nx, show me_P M 7 0 4 = some (33, 0) from hm.1 (7, 0, 4, 33, 0) (by decide)]) kz) ?_
  refine jx_of (fun _ _ kz => jw_iload_n 1 d_M_wakeUp_4 rfl rfl kz) ?_
  refine jx_of (fun _ _ kz => jw_ialde (0) d_M_wakeUp_5 rfl rfl (by rw [show me_L _ 33 0 = 12 from (by simp [me_I_sI, me_I_sP, me_I_nx, me_P_sI, me_P_sP, me_P_nx, me_N_sI, me_N_sP, me_N_nx, me_L_sI, me_L_sP, me_L_nx, show me_L M 33 0 = 12 from hm.2 (33, 0, 12) (by decide)])]; exact (vp_in_nI (by have := hq.2.2.2.1.2.2; omega) (by decide))) (by rw [nI_clamp (by have := hq.2.2.2.1.2.2; omega)]; exact hs) kz) ?_
  refine jx_of (fun _ _ kz => jw_iconst 5 d_M_wakeUp_6 (by decide) kz) ?_
  refine jx_icmp_ne 17 d_M_wakeUp_7 (by decide) (fun _ => ?_) (fun h => absurd h (by decide))
  refine jx_of (fun _ _ kz => jw_aload_n 0 d_M_wakeUp_17 rfl rfl kz) ?_
  refine jx_of (fun _ _ kz => jw_getPe (some (33, 0)) fl_M_19 d_M_wakeUp_18 rfl rfl (by simp [me_I_sI, me_I_sP, me_I_nx, me_P_sI, me_P_sP, me_P_nx, me_N_sI, me_N_sP, me_N_nx, me_L_sI, me_L_sP, me_L_nx, show me_P M 7 0 4 = some (33, 0) from hm.1 (7, 0, 4, 33, 0) (by decide)]) kz) ?_
  refine jx_of (fun _ _ kz => jw_iload_n 1 d_M_wakeUp_21 rfl rfl kz) ?_
  refine jx_of (fun _ _ kz => jw_ialde (0) d_M_wakeUp_22 rfl rfl (by rw [show me_L _ 33 0 = 12 from (by simp [me_I_sI, me_I_sP, me_I_nx, me_P_sI, me_P_sP, me_P_nx, me_N_sI, me_N_sP, me_N_nx, me_L_sI, me_L_sP, me_L_nx, show me_L M 33 0 = 12 from hm.2 (33, 0, 12) (by decide)])]; exact (vp_in_nI (by have := hq.2.2.2.1.2.2; omega) (by decide))) (by rw [nI_clamp (by have := hq.2.2.2.1.2.2; omega)]; exact hs) kz) ?_
  refine jx_if_eq 27 d_M_wakeUp_23 (by decide) (fun _ => ?_) (fun h => absurd h (by decide))
  refine jx_of (fun _ _ kz => jw_aload_n 0 d_M_wakeUp_27 rfl rfl kz) ?_
  refine jx_of (fun _ _ kz => jw_getPe (some (33, 0)) fl_M_19 d_M_wakeUp_28 rfl rfl (by simp [me_I_sI, me_I_sP, me_I_nx, me_P_sI, me_P_sP, me_P_nx, me_N_sI, me_N_sP, me_N_nx, me_L_sI, me_L_sP, me_L_nx, show me_P M 7 0 4 = some (33, 0) from hm.1 (7, 0, 4, 33, 0) (by decide)]) kz) ?_
  refine jx_of (fun _ _ kz => jw_iload_n 1 d_M_wakeUp_31 rfl rfl kz) ?_
  refine jx_of (fun _ _ kz => jw_iconst 1 d_M_wakeUp_32 (by decide) kz) ?_
  refine jx_of (fun _ _ kz => jw_iast d_M_wakeUp_33 rfl rfl (by rw [show me_L _ 33 0 = 12 from (by simp [me_I_sI, me_I_sP, me_I_nx, me_P_sI, me_P_sP, me_P_nx, me_N_sI, me_N_sP, me_N_nx, me_L_sI, me_L_sP, me_L_nx, show me_L M 33 0 = 12 from hm.2 (33, 0, 12) (by decide)])]; exact (vp_in_nI (by have := hq.2.2.2.1.2.2; omega) (by decide))) kz) ?_
  rw [nI_clamp (by have := hq.2.2.2.1.2.2; omega)]
  refine jx_of (fun _ _ kz => jw_aload_n 0 d_M_wakeUp_34 rfl rfl kz) ?_
  refine jx_of (fun _ _ kz => jw_getIe (nI w) fl_M_89 d_M_wakeUp_35 rfl rfl (by simp [me_I_sI, hw0]) kz) ?_
  refine jx_if_ge 47 d_M_wakeUp_38 (by decide) (fun _ => ?_) (fun h => absurd (nI_pos' (by omega)) h)
  refine jx_of (fun _ _ kz => jw_aload_n 0 d_M_wakeUp_47 rfl rfl kz) ?_
  refine jx_of (fun _ _ kz => jw_getPe (some (48, 0)) fl_M_65 d_M_wakeUp_48 rfl rfl (by simp [me_I_sI, me_I_sP, me_I_nx, me_P_sI, me_P_sP, me_P_nx, me_N_sI, me_N_sP, me_N_nx, me_L_sI, me_L_sP, me_L_nx, show me_P M 7 0 19 = some (48, 0) from hm.1 (7, 0, 19, 48, 0) (by decide)]) kz) ?_
  refine jx_of (fun _ _ kz => jw_aload_n 0 d_M_wakeUp_51 rfl rfl kz) ?_
  refine jx_of (fun _ _ kz => jw_getIe (nI w) fl_M_89 d_M_wakeUp_52 rfl rfl (by simp [me_I_sI, hw0]) kz) ?_
  refine jx_of (fun _ _ kz => jw_ialde ((-1)) d_M_wakeUp_55 rfl rfl (by rw [show me_L _ 48 0 = 3 from (by simp [me_I_sI, me_I_sP, me_I_nx, me_P_sI, me_P_sP, me_P_nx, me_N_sI, me_N_sP, me_N_nx, me_L_sI, me_L_sP, me_L_nx, show me_L M 48 0 = 3 from hm.2 (48, 0, 3) (by decide)])]; exact (vp_in_nI hw (by decide))) (by rw [nI_clamp (by omega), me_I_sI, if_neg (fun e => absurd e.1 (by decide)), hq.2.2.1 w hw, hsl]; rfl) kz) ?_
  refine jx_of (fun _ _ kz => jw_istore_n 2 d_M_wakeUp_56 rfl (Nat.le_of_ble_eq_true rfl) kz) ?_
  dsimp only [List.set]
  refine jx_of (fun _ _ kz => jw_aload_n 0 d_M_wakeUp_57 rfl rfl kz) ?_
  refine jx_of (fun _ _ kz => jw_getPe (some (48, 0)) fl_M_65 d_M_wakeUp_58 rfl rfl (by simp [me_I_sI, me_I_sP, me_I_nx, me_P_sI, me_P_sP, me_P_nx, me_N_sI, me_N_sP, me_N_nx, me_L_sI, me_L_sP, me_L_nx, show me_P M 7 0 19 = some (48, 0) from hm.1 (7, 0, 19, 48, 0) (by decide)]) kz) ?_
  refine jx_of (fun _ _ kz => jw_aload_n 0 d_M_wakeUp_61 rfl rfl kz) ?_
  refine jx_of (fun _ _ kz => jw_getIe (nI w) fl_M_89 d_M_wakeUp_62 rfl rfl (by simp [me_I_sI, hw0]) kz) ?_
  refine jx_of (fun _ _ kz => jw_iload_n 1 d_M_wakeUp_65 rfl rfl kz) ?_
  refine jx_of (fun _ _ kz => jw_iast d_M_wakeUp_66 rfl rfl (by rw [show me_L _ 48 0 = 3 from (by simp [me_I_sI, me_I_sP, me_I_nx, me_P_sI, me_P_sP, me_P_nx, me_N_sI, me_N_sP, me_N_nx, me_L_sI, me_L_sP, me_L_nx, show me_L M 48 0 = 3 from hm.2 (48, 0, 3) (by decide)])]; exact (vp_in_nI hw (by decide))) kz) ?_
  rw [nI_clamp (by omega)]
  refine jx_of (fun _ _ kz => jw_aload_n 0 d_M_wakeUp_67 rfl rfl kz) ?_
  refine jx_of (fun _ _ kz => jw_getPe (some (38, 0)) fl_M_34 d_M_wakeUp_68 rfl rfl (by simp [me_I_sI, me_I_sP, me_I_nx, me_P_sI, me_P_sP, me_P_nx, me_N_sI, me_N_sP, me_N_nx, me_L_sI, me_L_sP, me_L_nx, show me_P M 7 0 9 = some (38, 0) from hm.1 (7, 0, 9, 38, 0) (by decide)]) kz) ?_
  refine jx_of (fun _ _ kz => jw_iload_n 1 d_M_wakeUp_71 rfl rfl kz) ?_
  refine jx_of (fun _ _ kz => jw_iconst 2 d_M_wakeUp_72 (by decide) kz) ?_
  refine jx_of (fun _ _ kz => jw_aload_n 0 d_M_wakeUp_73 rfl rfl kz) ?_
  refine jx_of (fun _ _ kz => jw_getIe (nI w) fl_M_89 d_M_wakeUp_74 rfl rfl (by simp [me_I_sI, hw0]) kz) ?_
  refine jx_of (fun _ _ kz => jw_iadd d_M_wakeUp_77 kz) ?_
  rw [show (2 + (nI w) : Int32) = nI (2 + w) from n_22 w]
  refine jx_of (fun _ _ kz => jw_iast d_M_wakeUp_78 rfl rfl (by rw [show me_L _ 38 0 = 12 from (by simp [me_I_sI, me_I_sP, me_I_nx, me_P_sI, me_P_sP, me_P_nx, me_N_sI, me_N_sP, me_N_nx, me_L_sI, me_L_sP, me_L_nx, show me_L M 38 0 = 12 from hm.2 (38, 0, 12) (by decide)])]; exact (vp_in_nI (by have := hq.2.2.2.1.2.2; omega) (by decide))) kz) ?_
  rw [nI_clamp (by have := hq.2.2.2.1.2.2; omega)]
  refine jx_of (fun _ _ kz => jw_iload_n 2 d_M_wakeUp_79 rfl rfl kz) ?_
  refine jx_if_lt 92 d_M_wakeUp_80 (by decide) (fun _ => ?_) (fun h => absurd h (by decide))
  refine jx_vret d_M_wakeUp_92 rfl ?_
  have h1 := qX_wk hq ht hs
  have hx := qX_xn h1
  have h2 := qX_slot h1 hw
  rw [hsl] at h2
  exact ⟨rfl, ⟨_, _, _, h2⟩, mc_sI (mc_sI (mc_sI mc_rf (kp_no (by decide))) (kp_no (by decide))) (kp_no (by decide)), tr_sI (tr_sI (tr_sI tr_rf (Or.inr hx)) (Or.inl (by decide))) (Or.inr hx)⟩
set_option maxRecDepth 20000 in
set_option maxHeartbeats 4000000 in
theorem z_M_wakeUp_o {G : Gt} {M : Me} (d : Nat) (t : Nat) (w : Nat) (a : Nat) (nt : Nat) (inj : List Nat) (rg : Nat → List Nat) (sl : Nat → Option Nat) (X : List Nat) (hm : mSh M) (ht : t < nt) (hs : me_I M 33 0 t = 0) (hw : w < 3) (hw0 : me_I M 7 0 35 = nI w) (hq : qX M nt inj rg sl X) (hsl : sl w = some a) : sx G yt_M_wakeUp yn_M_wakeUp (d + 4) [.inr (some (7, 0)), .inl (nI t)] M (fun r M' => r = none ∧ mQ M' nt X ∧ mc M M' ∧ tr X M M') := by
  refine sx_of (k := 1) (lc := [some (.inr (some (7, 0))), some (.inl (nI t)), none]) mt_M_wakeUp (Nat.le_of_ble_eq_true rfl) rfl ?_
  refine jx_of (fun _ _ kz => jw_aload_n 0 d_M_wakeUp_0 rfl rfl kz) ?_
  refine jx_of (fun _ _ kz => jw_getPe (some (33, 0)) fl_M_19 d_M_wakeUp_1 rfl rfl (by simp [me_I_sI, me_I_sP, me_I_nx, me_P_sI, me_P_sP, me_P_nx, me_N_sI, me_N_sP, me_N_nx, me_L_sI, me_L_sP, me_L_nx, show me_P M 7 0 4 = some (33, 0) from hm.1 (7, 0, 4, 33, 0) (by decide)]) kz) ?_
  refine jx_of (fun _ _ kz => jw_iload_n 1 d_M_wakeUp_4 rfl rfl kz) ?_
  refine jx_of (fun _ _ kz => jw_ialde (0) d_M_wakeUp_5 rfl rfl (by rw [show me_L _ 33 0 = 12 from (by simp [me_I_sI, me_I_sP, me_I_nx, me_P_sI, me_P_sP, me_P_nx, me_N_sI, me_N_sP, me_N_nx, me_L_sI, me_L_sP, me_L_nx, show me_L M 33 0 = 12 from hm.2 (33, 0, 12) (by decide)])]; exact (vp_in_nI (by have := hq.2.2.2.1.2.2; omega) (by decide))) (by rw [nI_clamp (by have := hq.2.2.2.1.2.2; omega)]; exact hs) kz) ?_
  refine jx_of (fun _ _ kz => jw_iconst 5 d_M_wakeUp_6 (by decide) kz) ?_
  refine jx_icmp_ne 17 d_M_wakeUp_7 (by decide) (fun _ => ?_) (fun h => absurd h (by decide))
  refine jx_of (fun _ _ kz => jw_aload_n 0 d_M_wakeUp_17 rfl rfl kz) ?_
  refine jx_of (fun _ _ kz => jw_getPe (some (33, 0)) fl_M_19 d_M_wakeUp_18 rfl rfl (by simp [me_I_sI, me_I_sP, me_I_nx, me_P_sI, me_P_sP, me_P_nx, me_N_sI, me_N_sP, me_N_nx, me_L_sI, me_L_sP, me_L_nx, show me_P M 7 0 4 = some (33, 0) from hm.1 (7, 0, 4, 33, 0) (by decide)]) kz) ?_
  refine jx_of (fun _ _ kz => jw_iload_n 1 d_M_wakeUp_21 rfl rfl kz) ?_
  refine jx_of (fun _ _ kz => jw_ialde (0) d_M_wakeUp_22 rfl rfl (by rw [show me_L _ 33 0 = 12 from (by simp [me_I_sI, me_I_sP, me_I_nx, me_P_sI, me_P_sP, me_P_nx, me_N_sI, me_N_sP, me_N_nx, me_L_sI, me_L_sP, me_L_nx, show me_L M 33 0 = 12 from hm.2 (33, 0, 12) (by decide)])]; exact (vp_in_nI (by have := hq.2.2.2.1.2.2; omega) (by decide))) (by rw [nI_clamp (by have := hq.2.2.2.1.2.2; omega)]; exact hs) kz) ?_
  refine jx_if_eq 27 d_M_wakeUp_23 (by decide) (fun _ => ?_) (fun h => absurd h (by decide))
  refine jx_of (fun _ _ kz => jw_aload_n 0 d_M_wakeUp_27 rfl rfl kz) ?_
  refine jx_of (fun _ _ kz => jw_getPe (some (33, 0)) fl_M_19 d_M_wakeUp_28 rfl rfl (by simp [me_I_sI, me_I_sP, me_I_nx, me_P_sI, me_P_sP, me_P_nx, me_N_sI, me_N_sP, me_N_nx, me_L_sI, me_L_sP, me_L_nx, show me_P M 7 0 4 = some (33, 0) from hm.1 (7, 0, 4, 33, 0) (by decide)]) kz) ?_
  refine jx_of (fun _ _ kz => jw_iload_n 1 d_M_wakeUp_31 rfl rfl kz) ?_
  refine jx_of (fun _ _ kz => jw_iconst 1 d_M_wakeUp_32 (by decide) kz) ?_
  refine jx_of (fun _ _ kz => jw_iast d_M_wakeUp_33 rfl rfl (by rw [show me_L _ 33 0 = 12 from (by simp [me_I_sI, me_I_sP, me_I_nx, me_P_sI, me_P_sP, me_P_nx, me_N_sI, me_N_sP, me_N_nx, me_L_sI, me_L_sP, me_L_nx, show me_L M 33 0 = 12 from hm.2 (33, 0, 12) (by decide)])]; exact (vp_in_nI (by have := hq.2.2.2.1.2.2; omega) (by decide))) kz) ?_
  rw [nI_clamp (by have := hq.2.2.2.1.2.2; omega)]
  refine jx_of (fun _ _ kz => jw_aload_n 0 d_M_wakeUp_34 rfl rfl kz) ?_
  refine jx_of (fun _ _ kz => jw_getIe (nI w) fl_M_89 d_M_wakeUp_35 rfl rfl (by simp [me_I_sI, hw0]) kz) ?_
  refine jx_if_ge 47 d_M_wakeUp_38 (by decide) (fun _ => ?_) (fun h => absurd (nI_pos' (by omega)) h)
  refine jx_of (fun _ _ kz => jw_aload_n 0 d_M_wakeUp_47 rfl rfl kz) ?_
  refine jx_of (fun _ _ kz => jw_getPe (some (48, 0)) fl_M_65 d_M_wakeUp_48 rfl rfl (by simp [me_I_sI, me_I_sP, me_I_nx, me_P_sI, me_P_sP, me_P_nx, me_N_sI, me_N_sP, me_N_nx, me_L_sI, me_L_sP, me_L_nx, show me_P M 7 0 19 = some (48, 0) from hm.1 (7, 0, 19, 48, 0) (by decide)]) kz) ?_
  refine jx_of (fun _ _ kz => jw_aload_n 0 d_M_wakeUp_51 rfl rfl kz) ?_
  refine jx_of (fun _ _ kz => jw_getIe (nI w) fl_M_89 d_M_wakeUp_52 rfl rfl (by simp [me_I_sI, hw0]) kz) ?_
  refine jx_of (fun _ _ kz => jw_ialde (nI a) d_M_wakeUp_55 rfl rfl (by rw [show me_L _ 48 0 = 3 from (by simp [me_I_sI, me_I_sP, me_I_nx, me_P_sI, me_P_sP, me_P_nx, me_N_sI, me_N_sP, me_N_nx, me_L_sI, me_L_sP, me_L_nx, show me_L M 48 0 = 3 from hm.2 (48, 0, 3) (by decide)])]; exact (vp_in_nI hw (by decide))) (by rw [nI_clamp (by omega), me_I_sI, if_neg (fun e => absurd e.1 (by decide)), hq.2.2.1 w hw, hsl]; rfl) kz) ?_
  refine jx_of (fun _ _ kz => jw_istore_n 2 d_M_wakeUp_56 rfl (Nat.le_of_ble_eq_true rfl) kz) ?_
  dsimp only [List.set]
  refine jx_of (fun _ _ kz => jw_aload_n 0 d_M_wakeUp_57 rfl rfl kz) ?_
  refine jx_of (fun _ _ kz => jw_getPe (some (48, 0)) fl_M_65 d_M_wakeUp_58 rfl rfl (by simp [me_I_sI, me_I_sP, me_I_nx, me_P_sI, me_P_sP, me_P_nx, me_N_sI, me_N_sP, me_N_nx, me_L_sI, me_L_sP, me_L_nx, show me_P M 7 0 19 = some (48, 0) from hm.1 (7, 0, 19, 48, 0) (by decide)]) kz) ?_
  refine jx_of (fun _ _ kz => jw_aload_n 0 d_M_wakeUp_61 rfl rfl kz) ?_
  refine jx_of (fun _ _ kz => jw_getIe (nI w) fl_M_89 d_M_wakeUp_62 rfl rfl (by simp [me_I_sI, hw0]) kz) ?_
  refine jx_of (fun _ _ kz => jw_iload_n 1 d_M_wakeUp_65 rfl rfl kz) ?_
  refine jx_of (fun _ _ kz => jw_iast d_M_wakeUp_66 rfl rfl (by rw [show me_L _ 48 0 = 3 from (by simp [me_I_sI, me_I_sP, me_I_nx, me_P_sI, me_P_sP, me_P_nx, me_N_sI, me_N_sP, me_N_nx, me_L_sI, me_L_sP, me_L_nx, show me_L M 48 0 = 3 from hm.2 (48, 0, 3) (by decide)])]; exact (vp_in_nI hw (by decide))) kz) ?_
  rw [nI_clamp (by omega)]
  refine jx_of (fun _ _ kz => jw_aload_n 0 d_M_wakeUp_67 rfl rfl kz) ?_
  refine jx_of (fun _ _ kz => jw_getPe (some (38, 0)) fl_M_34 d_M_wakeUp_68 rfl rfl (by simp [me_I_sI, me_I_sP, me_I_nx, me_P_sI, me_P_sP, me_P_nx, me_N_sI, me_N_sP, me_N_nx, me_L_sI, me_L_sP, me_L_nx, show me_P M 7 0 9 = some (38, 0) from hm.1 (7, 0, 9, 38, 0) (by decide)]) kz) ?_
  refine jx_of (fun _ _ kz => jw_iload_n 1 d_M_wakeUp_71 rfl rfl kz) ?_
  refine jx_of (fun _ _ kz => jw_iconst 2 d_M_wakeUp_72 (by decide) kz) ?_
  refine jx_of (fun _ _ kz => jw_aload_n 0 d_M_wakeUp_73 rfl rfl kz) ?_
  refine jx_of (fun _ _ kz => jw_getIe (nI w) fl_M_89 d_M_wakeUp_74 rfl rfl (by simp [me_I_sI, hw0]) kz) ?_
  refine jx_of (fun _ _ kz => jw_iadd d_M_wakeUp_77 kz) ?_
  rw [show (2 + (nI w) : Int32) = nI (2 + w) from n_22 w]
  refine jx_of (fun _ _ kz => jw_iast d_M_wakeUp_78 rfl rfl (by rw [show me_L _ 38 0 = 12 from (by simp [me_I_sI, me_I_sP, me_I_nx, me_P_sI, me_P_sP, me_P_nx, me_N_sI, me_N_sP, me_N_nx, me_L_sI, me_L_sP, me_L_nx, show me_L M 38 0 = 12 from hm.2 (38, 0, 12) (by decide)])]; exact (vp_in_nI (by have := hq.2.2.2.1.2.2; omega) (by decide))) kz) ?_
  rw [nI_clamp (by have := hq.2.2.2.1.2.2; omega)]
  refine jx_of (fun _ _ kz => jw_iload_n 2 d_M_wakeUp_79 rfl rfl kz) ?_
  refine jx_if_lt 92 d_M_wakeUp_80 (by decide) (fun h => absurd h (nI_pos (by have := hq.2.2.2.1.2.1 a (by have := qC_ins (X := X) (inj := inj) (rg := rg) hw hsl; omega); have := hq.2.2.2.1.2.2; omega))) (fun _ => ?_)
  refine jx_of (fun _ _ kz => jw_aload_n 0 d_M_wakeUp_83 rfl rfl kz) ?_
  refine jx_of (fun _ _ kz => jw_iload_n 2 d_M_wakeUp_84 rfl rfl kz) ?_
  refine jx_of (fun _ _ kz => jw_aload_n 0 d_M_wakeUp_85 rfl rfl kz) ?_
  refine jx_of (fun _ _ kz => jw_getIe (nI w) fl_M_89 d_M_wakeUp_86 rfl rfl (by simp [me_I_sI, hw0]) kz) ?_
  refine jx_callV (z_M_toRing d a w nt X (mSh_mc hm (sq_sI (sq_sI (sq_sI sq_rf))))  hw (by have h2 := qX_slot (qX_wk hq ht hs) hw; rw [hsl] at h2; exact ⟨_, _, _, h2⟩)) mt_M_toRing cf_M rfl rfl ml_M_128 im_M_toRing se_M_toRing d_M_wakeUp_89 rfl rfl (Nat.le_of_ble_eq_true rfl) ?_
  rintro _ M1 ⟨rfl, q1, c1, t1⟩
  refine jx_eq (st2 := []) rfl rfl rfl ?_
  refine jx_vret d_M_wakeUp_92 rfl ?_
  have hx := qX_xn (qX_wk hq ht hs)
  exact ⟨rfl, q1, mc_tr (mc_sI (mc_sI (mc_sI mc_rf (kp_no (by decide))) (kp_no (by decide))) (kp_no (by decide))) c1, tr_tr (tr_sI (tr_sI (tr_sI tr_rf (Or.inr hx)) (Or.inl (by decide))) (Or.inr hx)) t1⟩
theorem z_M_wakeUp {G : Gt} {M : Me} (d t nt : Nat) (X : List Nat) (hm : mSh M) (ht : t < nt) (hw : wV M) (hq : mQ M nt X) : sx G yt_M_wakeUp yn_M_wakeUp (d + 4) [.inr (some (7, 0)), .inl (nI t)] M (fun r M' => r = none ∧ mQ M' nt X ∧ mc M M' ∧ tr X M M') := by
  by_cases hs : me_I M 33 0 t = 0
  · obtain ⟨inj, rg, sl, hq⟩ := hq
    rcases hw with hw | ⟨w, hw, hw0⟩
    · exact z_M_wakeUp_n d t nt inj rg sl X hm ht hs hw hq
    · cases hsl : sl w with
      | none => exact z_M_wakeUp_e d t w nt inj rg sl X hm ht hs hw hw0 hq hsl
      | some a => exact z_M_wakeUp_o d t w a nt inj rg sl X hm ht hs hw hw0 hq hsl
  · exact z_M_wakeUp_p d t nt X hm (by obtain ⟨_, _, _, h⟩ := hq; have := h.2.2.2.1.2.2; omega) hs hq
