theorem me_I_nx (M : Me) (s n len sl a b c : Nat) : me_I (me_nx M s n len sl) a b c = if a = s ∧ b = n then 0 else me_I M a b c := rfl
theorem me_P_nx (M : Me) (s n len sl a b c : Nat) : me_P (me_nx M s n len sl) a b c = if a = s ∧ b = n then none else me_P M a b c := rfl
theorem me_L_nx (M : Me) (s n len sl a b : Nat) : me_L (me_nx M s n len sl) a b = if a = s ∧ b = n then len else me_L M a b := rfl
theorem me_N_nx (M : Me) (s n len sl a : Nat) : me_N (me_nx M s n len sl) a = if a = s then n + 1 else me_N M a := rfl
theorem sw_cases (x : Int32) (n : Nat) (hn : n < 2 ^ 31) : (x.toInt < 0 ∨ (n : Int) - 1 < x.toInt) ∨ ∃ j : Nat, j < n ∧ x = nI j := by
  rcases pk_ix x hn with h | h | ⟨j, h1, h2⟩
  · exact Or.inl (Or.inl (by simpa using Int32.lt_iff_toInt_lt.mp h))
  · refine Or.inl (Or.inr ?_)
    have := Int32.le_iff_toInt_le.mp h
    rw [nI_toInt hn] at this
    omega
  · exact Or.inr ⟨j, h1, h2⟩
set_option maxRecDepth 20000 in
set_option maxHeartbeats 4000000 in
theorem x_R_init {G : Gt} {M : Me} (d : Nat) (i : Nat) (x : Int32) (k : Nat) (n : Nat) (f0 : me_N M 10 = n) (hx : ¬ x < 0) (hk : x.toNatClampNeg = k) (hb : k ≤ 1000000) : sx G yt_R_init yn_R_init (d + 1) [.inr (some (4, i)), .inl x] M (fun r M' => r = none ∧ (me_sP (me_nx (me_sI M 4 i 1 (0)) 10 n k k) 4 i 0 (some (10, n))) = M') := by
  refine sx_of (k := 0) (lc := [some (.inr (some (4, i))), some (.inl x)]) mt_R_init (Nat.le_of_ble_eq_true rfl) rfl ?_
  refine jx_of (fun _ _ kz => jw_aload_n 0 d_R_init_0 rfl rfl kz) ?_
  refine jx_of (fun _ _ kz => jw_objInit ml_R_3 im_Obj co_Obj d_R_init_1 (Nat.le_of_ble_eq_true rfl) kz) ?_
  refine jx_of (fun _ _ kz => jw_aload_n 0 d_R_init_4 rfl rfl kz) ?_
  refine jx_of (fun _ _ kz => jw_iconst 0 d_R_init_5 (by decide) kz) ?_
  refine jx_of (fun _ _ kz => jw_putI fl_R_9 (Or.inr ⟨rfl, rfl⟩) rfl rfl d_R_init_6 rfl rfl kz) ?_
  refine jx_of (fun _ _ kz => jw_aload_n 0 d_R_init_9 rfl rfl kz) ?_
  refine jx_of (fun _ _ kz => jw_iload_n 1 d_R_init_10 rfl rfl kz) ?_
  refine jx_of (fun _ _ kz => jw_iconst 0 d_R_init_11 (by decide) kz) ?_
  refine jx_of (fun _ _ kz => jw_mmax ml_R_15 sm_Math_max ii_Math co_Math_max d_R_init_12 (Nat.le_of_ble_eq_true rfl) kz) ?_
  rw [show (if x < 0 then 0 else x : Int32) = x from if_neg hx]
  refine jx_of (fun _ _ kz => jw_newIe (s := 10) (k := k) n ac_int d_R_init_15 rfl rfl hx hk hb (by simp [me_I_sI, me_I_sP, me_I_nx, me_P_sI, me_P_sP, me_P_nx, me_N_sI, me_N_sP, me_N_nx, me_L_sI, me_L_sP, me_L_nx, f0]) kz) ?_
  refine jx_of (fun _ _ kz => jw_putP fl_R_21 (Or.inr ⟨rfl, rfl⟩) (fun z => by cases z <;> rfl) (fun z => by cases z <;> rfl) d_R_init_17 rfl rfl kz) ?_
  refine jx_vret d_R_init_20 rfl ?_
  exact ⟨rfl, rfl⟩
set_option maxRecDepth 20000 in
set_option maxHeartbeats 4000000 in
theorem x_P_init {G : Gt} {M : Me} (d : Nat) (i : Nat) (n : Nat) (f0 : me_N M 11 = n) (f1 : me_N M 12 = n) (f2 : me_N M 13 = n) : sx G yt_P_init yn_P_init (d + 1) [.inr (some (1, i))] M (fun r M' => r = none ∧ (me_sI (me_sP (me_nx (me_sP (me_nx (me_sP (me_nx M 11 n 12 12) 1 i 0 (some (11, n))) 12 n 12 12) 1 i 1 (some (12, n))) 13 n 12 12) 1 i 2 (some (13, n))) 1 i 3 (0)) = M') := by
  refine sx_of (k := 0) (lc := [some (.inr (some (1, i)))]) mt_P_init (Nat.le_of_ble_eq_true rfl) rfl ?_
  refine jx_of (fun _ _ kz => jw_aload_n 0 d_P_init_0 rfl rfl kz) ?_
  refine jx_of (fun _ _ kz => jw_objInit ml_P_3 im_Obj co_Obj d_P_init_1 (Nat.le_of_ble_eq_true rfl) kz) ?_
  refine jx_of (fun _ _ kz => jw_aload_n 0 d_P_init_4 rfl rfl kz) ?_
  refine jx_of (fun _ _ kz => jw_bipush 12 d_P_init_5 (by decide) kz) ?_
  refine jx_of (fun _ _ kz => jw_newIe (s := 11) (k := 12) n ac_int d_P_init_7 rfl rfl (by decide) (by decide) (by decide) (by simp [me_I_sI, me_I_sP, me_I_nx, me_P_sI, me_P_sP, me_P_nx, me_N_sI, me_N_sP, me_N_nx, me_L_sI, me_L_sP, me_L_nx, f0, f1, f2]) kz) ?_
  refine jx_of (fun _ _ kz => jw_putP fl_P_9 (Or.inr ⟨rfl, rfl⟩) (fun z => by cases z <;> rfl) (fun z => by cases z <;> rfl) d_P_init_9 rfl rfl kz) ?_
  refine jx_of (fun _ _ kz => jw_aload_n 0 d_P_init_12 rfl rfl kz) ?_
  refine jx_of (fun _ _ kz => jw_bipush 12 d_P_init_13 (by decide) kz) ?_
  refine jx_of (fun _ _ kz => jw_newIe (s := 12) (k := 12) n ac_int d_P_init_15 rfl rfl (by decide) (by decide) (by decide) (by simp [me_I_sI, me_I_sP, me_I_nx, me_P_sI, me_P_sP, me_P_nx, me_N_sI, me_N_sP, me_N_nx, me_L_sI, me_L_sP, me_L_nx, f0, f1, f2]) kz) ?_
  refine jx_of (fun _ _ kz => jw_putP fl_P_15 (Or.inr ⟨rfl, rfl⟩) (fun z => by cases z <;> rfl) (fun z => by cases z <;> rfl) d_P_init_17 rfl rfl kz) ?_
  refine jx_of (fun _ _ kz => jw_aload_n 0 d_P_init_20 rfl rfl kz) ?_
  refine jx_of (fun _ _ kz => jw_bipush 12 d_P_init_21 (by decide) kz) ?_
  refine jx_of (fun _ _ kz => jw_newIe (s := 13) (k := 12) n ac_int d_P_init_23 rfl rfl (by decide) (by decide) (by decide) (by simp [me_I_sI, me_I_sP, me_I_nx, me_P_sI, me_P_sP, me_P_nx, me_N_sI, me_N_sP, me_N_nx, me_L_sI, me_L_sP, me_L_nx, f0, f1, f2]) kz) ?_
  refine jx_of (fun _ _ kz => jw_putP fl_P_18 (Or.inr ⟨rfl, rfl⟩) (fun z => by cases z <;> rfl) (fun z => by cases z <;> rfl) d_P_init_25 rfl rfl kz) ?_
  refine jx_of (fun _ _ kz => jw_aload_n 0 d_P_init_28 rfl rfl kz) ?_
  refine jx_of (fun _ _ kz => jw_iconst 0 d_P_init_29 (by decide) kz) ?_
  refine jx_of (fun _ _ kz => jw_putI fl_P_21 (Or.inr ⟨rfl, rfl⟩) rfl rfl d_P_init_30 rfl rfl kz) ?_
  refine jx_vret d_P_init_33 rfl ?_
  exact ⟨rfl, rfl⟩
set_option maxRecDepth 20000 in
set_option maxHeartbeats 4000000 in
theorem x_K_init {G : Gt} {M : Me} (d : Nat) (i : Nat) (x : Int32) (n : Nat) (m : Nat) (f0 : me_N M 4 = m) (f1 : me_N M 10 = n) : sx G yt_K_init yn_K_init (d + 2) [.inr (some (3, i)), .inl x] M (fun r M' => r = none ∧ (me_sI (me_sI (me_sI (me_sI (me_sP (me_sP (me_nx (me_sI (me_nx M 4 m 0 2) 4 m 1 (0)) 10 n 4 4) 4 m 0 (some (10, n))) 3 i 1 (some (4, m))) 3 i 2 ((-1))) 3 i 3 (0)) 3 i 4 (0)) 3 i 0 (x)) = M') := by
  refine sx_of (k := 0) (lc := [some (.inr (some (3, i))), some (.inl x)]) mt_K_init (Nat.le_of_ble_eq_true rfl) rfl ?_
  refine jx_of (fun _ _ kz => jw_aload_n 0 d_K_init_0 rfl rfl kz) ?_
  refine jx_of (fun _ _ kz => jw_objInit ml_K_3 im_Obj co_Obj d_K_init_1 (Nat.le_of_ble_eq_true rfl) kz) ?_
  refine jx_of (fun _ _ kz => jw_aload_n 0 d_K_init_4 rfl rfl kz) ?_
  refine jx_of (fun _ _ kz => jw_newe (s := 4) m cf_R df_R cl_K_9 it_R ii_R d_K_init_5 rfl rfl (by simp [me_I_sI, me_I_sP, me_I_nx, me_P_sI, me_P_sP, me_P_nx, me_N_sI, me_N_sP, me_N_nx, me_L_sI, me_L_sP, me_L_nx, f0, f1]) kz) ?_
  refine jx_of (fun _ _ kz => jw_dup d_K_init_8 kz) ?_
  refine jx_of (fun _ _ kz => jw_iconst 4 d_K_init_9 (by decide) kz) ?_
  refine jx_callI (x_R_init _ m 4 4 n (by simp [me_I_sI, me_I_sP, me_I_nx, me_P_sI, me_P_sP, me_P_nx, me_N_sI, me_N_sP, me_N_nx, me_L_sI, me_L_sP, me_L_nx, f0, f1]) (by decide) (by decide) (by decide)) mt_R_init rfl rfl ml_K_11 im_R_init d_K_init_10 rfl rfl (Nat.le_of_ble_eq_true rfl) (fun _ _ h => h.1) ?_
  rintro _ ⟨_, rfl⟩
  refine jx_of (fun _ _ kz => jw_putP fl_K_14 (Or.inr ⟨rfl, rfl⟩) (fun z => by cases z <;> rfl) (fun z => by cases z <;> rfl) d_K_init_13 rfl rfl kz) ?_
  refine jx_of (fun _ _ kz => jw_aload_n 0 d_K_init_16 rfl rfl kz) ?_
  refine jx_of (fun _ _ kz => jw_iconst (-1) d_K_init_17 (by decide) kz) ?_
  refine jx_of (fun _ _ kz => jw_putI fl_K_20 (Or.inr ⟨rfl, rfl⟩) rfl rfl d_K_init_18 rfl rfl kz) ?_
  refine jx_of (fun _ _ kz => jw_aload_n 0 d_K_init_21 rfl rfl kz) ?_
  refine jx_of (fun _ _ kz => jw_iconst 0 d_K_init_22 (by decide) kz) ?_
  refine jx_of (fun _ _ kz => jw_putI fl_K_24 (Or.inr ⟨rfl, rfl⟩) rfl rfl d_K_init_23 rfl rfl kz) ?_
  refine jx_of (fun _ _ kz => jw_aload_n 0 d_K_init_26 rfl rfl kz) ?_
  refine jx_of (fun _ _ kz => jw_iconst 0 d_K_init_27 (by decide) kz) ?_
  refine jx_of (fun _ _ kz => jw_putI fl_K_27 (Or.inr ⟨rfl, rfl⟩) rfl rfl d_K_init_28 rfl rfl kz) ?_
  refine jx_of (fun _ _ kz => jw_aload_n 0 d_K_init_31 rfl rfl kz) ?_
  refine jx_of (fun _ _ kz => jw_iload_n 1 d_K_init_32 rfl rfl kz) ?_
  refine jx_of (fun _ _ kz => jw_putI fl_K_30 (Or.inr ⟨rfl, rfl⟩) rfl rfl d_K_init_33 rfl rfl kz) ?_
  refine jx_vret d_K_init_36 rfl ?_
  exact ⟨rfl, rfl⟩
set_option maxRecDepth 20000 in
set_option maxHeartbeats 4000000 in
theorem x_G_init {G : Gt} {M : Me} (d : Nat) (i : Nat) (n : Nat) (m : Nat) (f0 : me_N M 4 = m) (f1 : me_N M 10 = n) : sx G yt_G_init yn_G_init (d + 2) [.inr (some (5, i))] M (fun r M' => r = none ∧ (me_sI (me_sP (me_sP (me_nx (me_sI (me_nx M 4 m 0 2) 4 m 1 (0)) 10 n 72 72) 4 m 0 (some (10, n))) 5 i 0 (some (4, m))) 5 i 1 (1)) = M') := by
  refine sx_of (k := 0) (lc := [some (.inr (some (5, i)))]) mt_G_init (Nat.le_of_ble_eq_true rfl) rfl ?_
  refine jx_of (fun _ _ kz => jw_aload_n 0 d_G_init_0 rfl rfl kz) ?_
  refine jx_of (fun _ _ kz => jw_objInit ml_G_3 im_Obj co_Obj d_G_init_1 (Nat.le_of_ble_eq_true rfl) kz) ?_
  refine jx_of (fun _ _ kz => jw_aload_n 0 d_G_init_4 rfl rfl kz) ?_
  refine jx_of (fun _ _ kz => jw_newe (s := 4) m cf_R df_R cl_G_9 it_R ii_R d_G_init_5 rfl rfl (by simp [me_I_sI, me_I_sP, me_I_nx, me_P_sI, me_P_sP, me_P_nx, me_N_sI, me_N_sP, me_N_nx, me_L_sI, me_L_sP, me_L_nx, f0, f1]) kz) ?_
  refine jx_of (fun _ _ kz => jw_dup d_G_init_8 kz) ?_
  refine jx_of (fun _ _ kz => jw_bipush 72 d_G_init_9 (by decide) kz) ?_
  refine jx_callI (x_R_init _ m 72 72 n (by simp [me_I_sI, me_I_sP, me_I_nx, me_P_sI, me_P_sP, me_P_nx, me_N_sI, me_N_sP, me_N_nx, me_L_sI, me_L_sP, me_L_nx, f0, f1]) (by decide) (by decide) (by decide)) mt_R_init rfl rfl ml_G_11 im_R_init d_G_init_11 rfl rfl (Nat.le_of_ble_eq_true rfl) (fun _ _ h => h.1) ?_
  rintro _ ⟨_, rfl⟩
  refine jx_of (fun _ _ kz => jw_putP fl_G_14 (Or.inr ⟨rfl, rfl⟩) (fun z => by cases z <;> rfl) (fun z => by cases z <;> rfl) d_G_init_14 rfl rfl kz) ?_
  refine jx_of (fun _ _ kz => jw_aload_n 0 d_G_init_17 rfl rfl kz) ?_
  refine jx_of (fun _ _ kz => jw_iconst 1 d_G_init_18 (by decide) kz) ?_
  refine jx_of (fun _ _ kz => jw_putI fl_G_20 (Or.inr ⟨rfl, rfl⟩) rfl rfl d_G_init_19 rfl rfl kz) ?_
  refine jx_vret d_G_init_22 rfl ?_
  exact ⟨rfl, rfl⟩
set_option maxRecDepth 20000 in
set_option maxHeartbeats 4000000 in
theorem x_N_init {G : Gt} {M : Me} (d : Nat) (i : Nat) (n : Nat) (m : Nat) (f0 : me_N M 4 = m) (f1 : me_N M 10 = n) : sx G yt_N_init yn_N_init (d + 2) [.inr (some (6, i))] M (fun r M' => r = none ∧ (me_sI (me_sP (me_sP (me_nx (me_sI (me_nx M 4 m 0 2) 4 m 1 (0)) 10 n 72 72) 4 m 0 (some (10, n))) 6 i 0 (some (4, m))) 6 i 1 (0)) = M') := by
  refine sx_of (k := 0) (lc := [some (.inr (some (6, i)))]) mt_N_init (Nat.le_of_ble_eq_true rfl) rfl ?_
  refine jx_of (fun _ _ kz => jw_aload_n 0 d_N_init_0 rfl rfl kz) ?_
  refine jx_of (fun _ _ kz => jw_objInit ml_N_3 im_Obj co_Obj d_N_init_1 (Nat.le_of_ble_eq_true rfl) kz) ?_
  refine jx_of (fun _ _ kz => jw_aload_n 0 d_N_init_4 rfl rfl kz) ?_
  refine jx_of (fun _ _ kz => jw_newe (s := 4) m cf_R df_R cl_N_9 it_R ii_R d_N_init_5 rfl rfl (by simp [me_I_sI, me_I_sP, me_I_nx, me_P_sI, me_P_sP, me_P_nx, me_N_sI, me_N_sP, me_N_nx, me_L_sI, me_L_sP, me_L_nx, f0, f1]) kz) ?_
  refine jx_of (fun _ _ kz => jw_dup d_N_init_8 kz) ?_
  refine jx_of (fun _ _ kz => jw_bipush 72 d_N_init_9 (by decide) kz) ?_
  refine jx_callI (x_R_init _ m 72 72 n (by simp [me_I_sI, me_I_sP, me_I_nx, me_P_sI, me_P_sP, me_P_nx, me_N_sI, me_N_sP, me_N_nx, me_L_sI, me_L_sP, me_L_nx, f0, f1]) (by decide) (by decide) (by decide)) mt_R_init rfl rfl ml_N_11 im_R_init d_N_init_11 rfl rfl (Nat.le_of_ble_eq_true rfl) (fun _ _ h => h.1) ?_
  rintro _ ⟨_, rfl⟩
  refine jx_of (fun _ _ kz => jw_putP fl_N_14 (Or.inr ⟨rfl, rfl⟩) (fun z => by cases z <;> rfl) (fun z => by cases z <;> rfl) d_N_init_14 rfl rfl kz) ?_
  refine jx_of (fun _ _ kz => jw_aload_n 0 d_N_init_17 rfl rfl kz) ?_
  refine jx_of (fun _ _ kz => jw_iconst 0 d_N_init_18 (by decide) kz) ?_
  refine jx_of (fun _ _ kz => jw_putI fl_N_20 (Or.inr ⟨rfl, rfl⟩) rfl rfl d_N_init_19 rfl rfl kz) ?_
  refine jx_vret d_N_init_22 rfl ?_
  exact ⟨rfl, rfl⟩
