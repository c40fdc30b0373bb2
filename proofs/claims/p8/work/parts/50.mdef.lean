def mSh (M : Me) : Prop := (∀ q ∈ mq_P, me_P M q.1 q.2.1 q.2.2.1 = some (q.2.2.2.1, q.2.2.2.2)) ∧ (∀ q ∈ mq_L, me_L M q.1 q.2.1 = q.2.2)
def pN (o : Nat) : Nat := if o < 8 ∨ o = 9 then 0 else if 10 ≤ o ∧ o ≤ 12 then 2 else 1
def due (o : Nat → Nat) : Nat → Int
  | 0 => 1
  | k + 1 => due o k + (pN (o k) : Int) - 1
def vld (o : Nat → Nat) (len : Nat) : Prop := (∀ k, k < len → 1 ≤ due o k) ∧ due o len = 0
def mP1 (M : Me) (p len : Nat) (o : Nat → Nat) : Prop := (1 ≤ len ∧ len ≤ 12) ∧ me_I M 32 0 p = nI len ∧ (∀ k, k < len → o k < 16 ∧ me_I M 30 0 (12 * p + k) = nI (o k) ∧ tkv (nI (o k)) (me_I M 31 0 (12 * p + k)) = 1) ∧ vld o len
def mPr (M : Me) (np : Nat) : Prop := me_I M 7 0 3 = nI np ∧ np ≤ 6 ∧ ∀ p, p < np → ∃ len o, mP1 M p len o
def mTk (M : Me) (np nt : Nat) : Prop := me_I M 7 0 27 = nI nt ∧ nt ≤ 12 ∧ ∀ t, t < nt → ∃ p, p < np ∧ me_I M 36 0 t = nI p
theorem n12 (p : Nat) : (12 : Int32) * nI p = nI (12 * p) := pk_mul 12 p
theorem n4 (p : Nat) : (4 : Int32) * nI p = nI (4 * p) := pk_mul 4 p
theorem nI_c (k : Nat) : nI k = Int32.ofNat k := rfl
set_option maxRecDepth 20000 in
set_option maxHeartbeats 4000000 in
theorem z_M_opOf {G : Gt} {M : Me} (d : Nat) (t : Nat) (n : Nat) (p : Nat) (hm : mSh M) (ht : t < 12) (hn : n < 12) (hp : me_I M 36 0 t = nI p) (hpp : p < 6) : sx G yt_M_opOf yn_M_opOf (d + 1) [.inr (some (7, 0)), .inl (nI t), .inl (nI n)] M (fun r M' => r = some (.inl (me_I M 30 0 (12 * p + n))) ∧ M = M') := by
  refine sx_of (k := 0) (lc := [some (.inr (some (7, 0))), some (.inl (nI t)), some (.inl (nI n))]) mt_M_opOf (Nat.le_of_ble_eq_true rfl) rfl ?_
  refine jx_of (fun _ _ kz => jw_aload_n 0 d_M_opOf_0 rfl rfl kz) ?_
  refine jx_of (fun _ _ kz => jw_getPe (some (30, 0)) fl_M_7 d_M_opOf_1 rfl rfl (by simp [me_I_sI, me_I_sP, me_I_nx, me_P_sI, me_P_sP, me_P_nx, me_N_sI, me_N_sP, me_N_nx, me_L_sI, me_L_sP, me_L_nx, show me_P M 7 0 0 = some (30, 0) from hm.1 (7, 0, 0, 30, 0) (by decide)]) kz) ?_
  refine jx_of (fun _ _ kz => jw_bipush 12 d_M_opOf_4 (by decide) kz) ?_
  refine jx_of (fun _ _ kz => jw_aload_n 0 d_M_opOf_6 rfl rfl kz) ?_
  refine jx_of (fun _ _ kz => jw_getPe (some (36, 0)) fl_M_28 d_M_opOf_7 rfl rfl (by simp [me_I_sI, me_I_sP, me_I_nx, me_P_sI, me_P_sP, me_P_nx, me_N_sI, me_N_sP, me_N_nx, me_L_sI, me_L_sP, me_L_nx, show me_P M 7 0 7 = some (36, 0) from hm.1 (7, 0, 7, 36, 0) (by decide)]) kz) ?_
  refine jx_of (fun _ _ kz => jw_iload_n 1 d_M_opOf_10 rfl rfl kz) ?_
  refine jx_of (fun _ _ kz => jw_ialde (nI p) d_M_opOf_11 rfl rfl (by rw [show me_L _ 36 0 = 12 from (by simp [me_I_sI, me_I_sP, me_I_nx, me_P_sI, me_P_sP, me_P_nx, me_N_sI, me_N_sP, me_N_nx, me_L_sI, me_L_sP, me_L_nx, show me_L M 36 0 = 12 from hm.2 (36, 0, 12) (by decide)])]; exact (vp_in_nI ht (by decide))) (by rw [nI_clamp (by omega)]; exact hp) kz) ?_
  refine jx_of (fun _ _ kz => jw_imul d_M_opOf_12 kz) ?_
  rw [show (12 * (nI p) : Int32) = nI (12 * p) from n12 p]
  refine jx_of (fun _ _ kz => jw_iload_n 2 d_M_opOf_13 rfl rfl kz) ?_
  refine jx_of (fun _ _ kz => jw_iadd d_M_opOf_14 kz) ?_
  rw [show ((nI (12 * p)) + (nI n) : Int32) = nI (12 * p + n) from nI_add _ _]
  refine jx_of (fun _ _ kz => jw_ialde (me_I M 30 0 (12 * p + n)) d_M_opOf_15 rfl rfl (by rw [show me_L _ 30 0 = 84 from (by simp [me_I_sI, me_I_sP, me_I_nx, me_P_sI, me_P_sP, me_P_nx, me_N_sI, me_N_sP, me_N_nx, me_L_sI, me_L_sP, me_L_nx, show me_L M 30 0 = 84 from hm.2 (30, 0, 84) (by decide)])]; exact (vp_in_nI (by omega) (by decide))) (by rw [nI_clamp (by omega)]) kz) ?_
  refine jx_iret d_M_opOf_16 rfl ?_
  exact ⟨rfl, rfl⟩
set_option maxRecDepth 20000 in
set_option maxHeartbeats 4000000 in
theorem z_M_argOf {G : Gt} {M : Me} (d : Nat) (t : Nat) (n : Nat) (p : Nat) (hm : mSh M) (ht : t < 12) (hn : n < 12) (hp : me_I M 36 0 t = nI p) (hpp : p < 6) : sx G yt_M_argOf yn_M_argOf (d + 1) [.inr (some (7, 0)), .inl (nI t), .inl (nI n)] M (fun r M' => r = some (.inl (me_I M 31 0 (12 * p + n))) ∧ M = M') := by
  refine sx_of (k := 0) (lc := [some (.inr (some (7, 0))), some (.inl (nI t)), some (.inl (nI n))]) mt_M_argOf (Nat.le_of_ble_eq_true rfl) rfl ?_
  refine jx_of (fun _ _ kz => jw_aload_n 0 d_M_argOf_0 rfl rfl kz) ?_
  refine jx_of (fun _ _ kz => jw_getPe (some (31, 0)) fl_M_13 d_M_argOf_1 rfl rfl (by simp [me_I_sI, me_I_sP, me_I_nx, me_P_sI, me_P_sP, me_P_nx, me_N_sI, me_N_sP, me_N_nx, me_L_sI, me_L_sP, me_L_nx, show me_P M 7 0 1 = some (31, 0) from hm.1 (7, 0, 1, 31, 0) (by decide)]) kz) ?_
  refine jx_of (fun _ _ kz => jw_bipush 12 d_M_argOf_4 (by decide) kz) ?_
  refine jx_of (fun _ _ kz => jw_aload_n 0 d_M_argOf_6 rfl rfl kz) ?_
  refine jx_of (fun _ _ kz => jw_getPe (some (36, 0)) fl_M_28 d_M_argOf_7 rfl rfl (by simp [me_I_sI, me_I_sP, me_I_nx, me_P_sI, me_P_sP, me_P_nx, me_N_sI, me_N_sP, me_N_nx, me_L_sI, me_L_sP, me_L_nx, show me_P M 7 0 7 = some (36, 0) from hm.1 (7, 0, 7, 36, 0) (by decide)]) kz) ?_
  refine jx_of (fun _ _ kz => jw_iload_n 1 d_M_argOf_10 rfl rfl kz) ?_
  refine jx_of (fun _ _ kz => jw_ialde (nI p) d_M_argOf_11 rfl rfl (by rw [show me_L _ 36 0 = 12 from (by simp [me_I_sI, me_I_sP, me_I_nx, me_P_sI, me_P_sP, me_P_nx, me_N_sI, me_N_sP, me_N_nx, me_L_sI, me_L_sP, me_L_nx, show me_L M 36 0 = 12 from hm.2 (36, 0, 12) (by decide)])]; exact (vp_in_nI ht (by decide))) (by rw [nI_clamp (by omega)]; exact hp) kz) ?_
  refine jx_of (fun _ _ kz => jw_imul d_M_argOf_12 kz) ?_
  rw [show (12 * (nI p) : Int32) = nI (12 * p) from n12 p]
  refine jx_of (fun _ _ kz => jw_iload_n 2 d_M_argOf_13 rfl rfl kz) ?_
  refine jx_of (fun _ _ kz => jw_iadd d_M_argOf_14 kz) ?_
  rw [show ((nI (12 * p)) + (nI n) : Int32) = nI (12 * p + n) from nI_add _ _]
  refine jx_of (fun _ _ kz => jw_ialde (me_I M 31 0 (12 * p + n)) d_M_argOf_15 rfl rfl (by rw [show me_L _ 31 0 = 84 from (by simp [me_I_sI, me_I_sP, me_I_nx, me_P_sI, me_P_sP, me_P_nx, me_N_sI, me_N_sP, me_N_nx, me_L_sI, me_L_sP, me_L_nx, show me_L M 31 0 = 84 from hm.2 (31, 0, 84) (by decide)])]; exact (vp_in_nI (by omega) (by decide))) (by rw [nI_clamp (by omega)]) kz) ?_
  refine jx_iret d_M_argOf_16 rfl ?_
  exact ⟨rfl, rfl⟩
