set_option maxRecDepth 20000 in
set_option maxHeartbeats 4000000 in
theorem x_Y_init {G : Gt} {M : Me} (d : Nat) (f0 : me_N M 1 = 0) (f1 : me_N M 3 = 0) (f2 : me_N M 4 = 0) (f3 : me_N M 5 = 0) (f4 : me_N M 6 = 0) (f5 : me_N M 10 = 0) (f6 : me_N M 11 = 0) (f7 : me_N M 12 = 0) (f8 : me_N M 13 = 0) (f9 : me_N M 17 = 0) (f10 : me_N M 18 = 0) (f11 : me_N M 19 = 0) (f12 : me_N M 20 = 0) (f13 : me_N M 21 = 0) : sx G yt_Y_init yn_Y_init (d + 3) [.inr (some (0, 0))] M (fun r M' => r = none ∧ (me_sI (me_sI (me_sI (me_sI (me_sP (me_sP (me_sI (me_sP (me_sP (me_nx (me_sI (me_nx (me_nx (me_sP (me_sI (me_sP (me_sP (me_nx (me_sI (me_nx (me_nx (me_nx (me_sP (me_sP (me_sI (me_sP (me_sP (me_nx (me_sI (me_nx (me_nx (me_sP (me_sI (me_sP (me_sP (me_nx (me_sI (me_nx (me_nx (me_nx (me_sP (me_sP (me_nx (me_sI (me_nx (me_sP (me_sP (me_nx (me_sI (me_nx (me_sP (me_sP (me_sI (me_sI (me_sI (me_sI (me_sP (me_sP (me_nx (me_sI (me_nx (me_nx (me_sP (me_sI (me_sI (me_sI (me_sI (me_sP (me_sP (me_nx (me_sI (me_nx (me_nx (me_sP (me_sI (me_sI (me_sI (me_sI (me_sP (me_sP (me_nx (me_sI (me_nx (me_nx (me_nx (me_sI (me_sP (me_nx (me_sI (me_sP (me_nx (me_sP (me_sI (me_sP (me_nx (me_sP (me_nx (me_sP (me_nx (me_nx M 1 0 0 4) 11 0 12 12) 1 0 0 (some (11, 0))) 12 0 12 12) 1 0 1 (some (12, 0))) 13 0 12 12) 1 0 2 (some (13, 0))) 1 0 3 (0)) 0 0 0 (some (1, 0))) 17 0 6 6) 0 0 1 (some (17, 0))) 0 0 2 (0)) 18 0 12 12) 0 0 3 (some (18, 0))) 0 0 4 (0)) 19 0 3 3) 3 0 0 5) 4 0 0 2) 4 0 1 (0)) 10 0 4 4) 4 0 0 (some (10, 0))) 3 0 1 (some (4, 0))) 3 0 2 ((-1))) 3 0 3 (0)) 3 0 4 (0)) 3 0 0 (0)) 19 0 0 (some (3, 0))) 3 1 0 5) 4 1 0 2) 4 1 1 (0)) 10 1 4 4) 4 1 0 (some (10, 1))) 3 1 1 (some (4, 1))) 3 1 2 ((-1))) 3 1 3 (0)) 3 1 4 (0)) 3 1 0 (1)) 19 0 1 (some (3, 1))) 3 2 0 5) 4 2 0 2) 4 2 1 (0)) 10 2 4 4) 4 2 0 (some (10, 2))) 3 2 1 (some (4, 2))) 3 2 2 ((-1))) 3 2 3 (0)) 3 2 4 (0)) 3 2 0 (2)) 19 0 2 (some (3, 2))) 0 0 5 (some (19, 0))) 4 3 0 2) 4 3 1 (0)) 10 3 12 12) 4 3 0 (some (10, 3))) 0 0 6 (some (4, 3))) 4 4 0 2) 4 4 1 (0)) 10 4 12 12) 4 4 0 (some (10, 4))) 0 0 7 (some (4, 4))) 20 0 2 2) 5 0 0 2) 4 5 0 2) 4 5 1 (0)) 10 5 72 72) 4 5 0 (some (10, 5))) 5 0 0 (some (4, 5))) 5 0 1 (1)) 20 0 0 (some (5, 0))) 5 1 0 2) 4 6 0 2) 4 6 1 (0)) 10 6 72 72) 4 6 0 (some (10, 6))) 5 1 0 (some (4, 6))) 5 1 1 (1)) 20 0 1 (some (5, 1))) 0 0 8 (some (20, 0))) 21 0 2 2) 6 0 0 2) 4 7 0 2) 4 7 1 (0)) 10 7 72 72) 4 7 0 (some (10, 7))) 6 0 0 (some (4, 7))) 6 0 1 (0)) 21 0 0 (some (6, 0))) 6 1 0 2) 4 8 0 2) 4 8 1 (0)) 10 8 72 72) 4 8 0 (some (10, 8))) 6 1 0 (some (4, 8))) 6 1 1 (0)) 21 0 1 (some (6, 1))) 0 0 9 (some (21, 0))) 0 0 10 (0)) 0 0 11 (0)) 0 0 12 (0)) 0 0 13 (0)) = M') := by
  refine sx_of (k := 0) (lc := [some (.inr (some (0, 0)))]) mt_Y_init (Nat.le_of_ble_eq_true rfl) rfl ?_
  refine jx_of (fun _ _ kz => jw_aload_n 0 d_Y_init_0 rfl rfl kz) ?_
  refine jx_of (fun _ _ kz => jw_objInit ml_Y_3 im_Obj co_Obj d_Y_init_1 (Nat.le_of_ble_eq_true rfl) kz) ?_
  refine jx_of (fun _ _ kz => jw_aload_n 0 d_Y_init_4 rfl rfl kz) ?_
  refine jx_of (fun _ _ kz => jw_newe (s := 1) 0 cf_P df_P cl_Y_9 it_P ii_P d_Y_init_5 rfl rfl (by simp [me_I_sI, me_I_sP, me_I_nx, me_P_sI, me_P_sP, me_P_nx, me_N_sI, me_N_sP, me_N_nx, me_L_sI, me_L_sP, me_L_nx, f0, f1, f2, f3, f4, f5, f6, f7, f8, f9, f10, f11, f12, f13]) kz) ?_
  refine jx_of (fun _ _ kz => jw_dup d_Y_init_8 kz) ?_
  refine jx_callIN (host := "PollYard") (x_P_init (d + 1) 0 0 (by simp [me_I_sI, me_I_sP, me_I_nx, me_P_sI, me_P_sP, me_P_nx, me_N_sI, me_N_sP, me_N_nx, me_L_sI, me_L_sP, me_L_nx, f0, f1, f2, f3, f4, f5, f6, f7, f8, f9, f10, f11, f12, f13]) (by simp [me_I_sI, me_I_sP, me_I_nx, me_P_sI, me_P_sP, me_P_nx, me_N_sI, me_N_sP, me_N_nx, me_L_sI, me_L_sP, me_L_nx, f0, f1, f2, f3, f4, f5, f6, f7, f8, f9, f10, f11, f12, f13]) (by simp [me_I_sI, me_I_sP, me_I_nx, me_P_sI, me_P_sP, me_P_nx, me_N_sI, me_N_sP, me_N_nx, me_L_sI, me_L_sP, me_L_nx, f0, f1, f2, f3, f4, f5, f6, f7, f8, f9, f10, f11, f12, f13])) mt_P_init rfl rfl (by decide) im_P_init d_Y_init_9 rfl rfl (Nat.le_of_ble_eq_true rfl) (fun _ _ h => h.1) ?_
  rintro _ ⟨_, rfl⟩
  refine jx_of (fun _ _ kz => jw_putP fl_Y_12 (Or.inr ⟨rfl, rfl⟩) (fun z => by cases z <;> rfl) (fun z => by cases z <;> rfl) d_Y_init_12 rfl rfl kz) ?_
  refine jx_of (fun _ _ kz => jw_aload_n 0 d_Y_init_15 rfl rfl kz) ?_
  refine jx_of (fun _ _ kz => jw_bipush 6 d_Y_init_16 (by decide) kz) ?_
  refine jx_of (fun _ _ kz => jw_newQe (s := 17) (k := 6) 0 cl_Y_9 (by decide) d_Y_init_18 rfl rfl (by decide) (by decide) (by decide) (by simp [me_I_sI, me_I_sP, me_I_nx, me_P_sI, me_P_sP, me_P_nx, me_N_sI, me_N_sP, me_N_nx, me_L_sI, me_L_sP, me_L_nx, f0, f1, f2, f3, f4, f5, f6, f7, f8, f9, f10, f11, f12, f13]) kz) ?_
  refine jx_of (fun _ _ kz => jw_putP fl_Y_16 (Or.inr ⟨rfl, rfl⟩) (fun z => by cases z <;> rfl) (fun z => by cases z <;> rfl) d_Y_init_21 rfl rfl kz) ?_
  refine jx_of (fun _ _ kz => jw_aload_n 0 d_Y_init_24 rfl rfl kz) ?_
  refine jx_of (fun _ _ kz => jw_iconst 0 d_Y_init_25 (by decide) kz) ?_
  refine jx_of (fun _ _ kz => jw_putI fl_Y_20 (Or.inr ⟨rfl, rfl⟩) rfl rfl d_Y_init_26 rfl rfl kz) ?_
  refine jx_of (fun _ _ kz => jw_aload_n 0 d_Y_init_29 rfl rfl kz) ?_
  refine jx_of (fun _ _ kz => jw_bipush 12 d_Y_init_30 (by decide) kz) ?_
  refine jx_of (fun _ _ kz => jw_newQe (s := 18) (k := 12) 0 cl_Y_24 (by decide) d_Y_init_32 rfl rfl (by decide) (by decide) (by decide) (by simp [me_I_sI, me_I_sP, me_I_nx, me_P_sI, me_P_sP, me_P_nx, me_N_sI, me_N_sP, me_N_nx, me_L_sI, me_L_sP, me_L_nx, f0, f1, f2, f3, f4, f5, f6, f7, f8, f9, f10, f11, f12, f13]) kz) ?_
  refine jx_of (fun _ _ kz => jw_putP fl_Y_26 (Or.inr ⟨rfl, rfl⟩) (fun z => by cases z <;> rfl) (fun z => by cases z <;> rfl) d_Y_init_35 rfl rfl kz) ?_
  refine jx_of (fun _ _ kz => jw_aload_n 0 d_Y_init_38 rfl rfl kz) ?_
  refine jx_of (fun _ _ kz => jw_iconst 0 d_Y_init_39 (by decide) kz) ?_
  refine jx_of (fun _ _ kz => jw_putI fl_Y_30 (Or.inr ⟨rfl, rfl⟩) rfl rfl d_Y_init_40 rfl rfl kz) ?_
  refine jx_of (fun _ _ kz => jw_aload_n 0 d_Y_init_43 rfl rfl kz) ?_
  refine jx_of (fun _ _ kz => jw_iconst 3 d_Y_init_44 (by decide) kz) ?_
  refine jx_of (fun _ _ kz => jw_newQe (s := 19) (k := 3) 0 cl_Y_33 (by decide) d_Y_init_45 rfl rfl (by decide) (by decide) (by decide) (by simp [me_I_sI, me_I_sP, me_I_nx, me_P_sI, me_P_sP, me_P_nx, me_N_sI, me_N_sP, me_N_nx, me_L_sI, me_L_sP, me_L_nx, f0, f1, f2, f3, f4, f5, f6, f7, f8, f9, f10, f11, f12, f13]) kz) ?_
  refine jx_of (fun _ _ kz => jw_dup d_Y_init_48 kz) ?_
  refine jx_of (fun _ _ kz => jw_iconst 0 d_Y_init_49 (by decide) kz) ?_
  refine jx_of (fun _ _ kz => jw_newe (s := 3) 0 cf_K df_K cl_Y_33 it_K ii_K d_Y_init_50 rfl rfl (by simp [me_I_sI, me_I_sP, me_I_nx, me_P_sI, me_P_sP, me_P_nx, me_N_sI, me_N_sP, me_N_nx, me_L_sI, me_L_sP, me_L_nx, f0, f1, f2, f3, f4, f5, f6, f7, f8, f9, f10, f11, f12, f13]) kz) ?_
  refine jx_of (fun _ _ kz => jw_dup d_Y_init_53 kz) ?_
  refine jx_of (fun _ _ kz => jw_iconst 0 d_Y_init_54 (by decide) kz) ?_
  refine jx_callI (x_K_init _ 0 0 0 0 (by simp [me_I_sI, me_I_sP, me_I_nx, me_P_sI, me_P_sP, me_P_nx, me_N_sI, me_N_sP, me_N_nx, me_L_sI, me_L_sP, me_L_nx, f0, f1, f2, f3, f4, f5, f6, f7, f8, f9, f10, f11, f12, f13]) (by simp [me_I_sI, me_I_sP, me_I_nx, me_P_sI, me_P_sP, me_P_nx, me_N_sI, me_N_sP, me_N_nx, me_L_sI, me_L_sP, me_L_nx, f0, f1, f2, f3, f4, f5, f6, f7, f8, f9, f10, f11, f12, f13])) mt_K_init rfl rfl ml_Y_35 im_K_init d_Y_init_55 rfl rfl (Nat.le_of_ble_eq_true rfl) (fun _ _ h => h.1) ?_
  rintro _ ⟨_, rfl⟩
  refine jx_of (fun _ _ kz => jw_aast cf_K d_Y_init_58 rfl rfl rfl rfl (by rw [show me_L _ 19 0 = 3 from (by simp [me_I_sI, me_I_sP, me_I_nx, me_P_sI, me_P_sP, me_P_nx, me_N_sI, me_N_sP, me_N_nx, me_L_sI, me_L_sP, me_L_nx, f0, f1, f2, f3, f4, f5, f6, f7, f8, f9, f10, f11, f12, f13])]; unfold vp_in; decide) kz) ?_
  rw [show Int32.toNatClampNeg 0 = 0 from by decide]
  refine jx_of (fun _ _ kz => jw_dup d_Y_init_59 kz) ?_
  refine jx_of (fun _ _ kz => jw_iconst 1 d_Y_init_60 (by decide) kz) ?_
  refine jx_of (fun _ _ kz => jw_newe (s := 3) 1 cf_K df_K cl_Y_33 it_K ii_K d_Y_init_61 rfl rfl (by simp [me_I_sI, me_I_sP, me_I_nx, me_P_sI, me_P_sP, me_P_nx, me_N_sI, me_N_sP, me_N_nx, me_L_sI, me_L_sP, me_L_nx, f0, f1, f2, f3, f4, f5, f6, f7, f8, f9, f10, f11, f12, f13]) kz) ?_
  refine jx_of (fun _ _ kz => jw_dup d_Y_init_64 kz) ?_
  refine jx_of (fun _ _ kz => jw_iconst 1 d_Y_init_65 (by decide) kz) ?_
  refine jx_callI (x_K_init _ 1 1 1 1 (by simp [me_I_sI, me_I_sP, me_I_nx, me_P_sI, me_P_sP, me_P_nx, me_N_sI, me_N_sP, me_N_nx, me_L_sI, me_L_sP, me_L_nx, f0, f1, f2, f3, f4, f5, f6, f7, f8, f9, f10, f11, f12, f13]) (by simp [me_I_sI, me_I_sP, me_I_nx, me_P_sI, me_P_sP, me_P_nx, me_N_sI, me_N_sP, me_N_nx, me_L_sI, me_L_sP, me_L_nx, f0, f1, f2, f3, f4, f5, f6, f7, f8, f9, f10, f11, f12, f13])) mt_K_init rfl rfl ml_Y_35 im_K_init d_Y_init_66 rfl rfl (Nat.le_of_ble_eq_true rfl) (fun _ _ h => h.1) ?_
  rintro _ ⟨_, rfl⟩
  refine jx_of (fun _ _ kz => jw_aast cf_K d_Y_init_69 rfl rfl rfl rfl (by rw [show me_L _ 19 0 = 3 from (by simp [me_I_sI, me_I_sP, me_I_nx, me_P_sI, me_P_sP, me_P_nx, me_N_sI, me_N_sP, me_N_nx, me_L_sI, me_L_sP, me_L_nx, f0, f1, f2, f3, f4, f5, f6, f7, f8, f9, f10, f11, f12, f13])]; unfold vp_in; decide) kz) ?_
  rw [show Int32.toNatClampNeg 1 = 1 from by decide]
  refine jx_of (fun _ _ kz => jw_dup d_Y_init_70 kz) ?_
  refine jx_of (fun _ _ kz => jw_iconst 2 d_Y_init_71 (by decide) kz) ?_
  refine jx_of (fun _ _ kz => jw_newe (s := 3) 2 cf_K df_K cl_Y_33 it_K ii_K d_Y_init_72 rfl rfl (by simp [me_I_sI, me_I_sP, me_I_nx, me_P_sI, me_P_sP, me_P_nx, me_N_sI, me_N_sP, me_N_nx, me_L_sI, me_L_sP, me_L_nx, f0, f1, f2, f3, f4, f5, f6, f7, f8, f9, f10, f11, f12, f13]) kz) ?_
  refine jx_of (fun _ _ kz => jw_dup d_Y_init_75 kz) ?_
  refine jx_of (fun _ _ kz => jw_iconst 2 d_Y_init_76 (by decide) kz) ?_
  refine jx_callI (x_K_init _ 2 2 2 2 (by simp [me_I_sI, me_I_sP, me_I_nx, me_P_sI, me_P_sP, me_P_nx, me_N_sI, me_N_sP, me_N_nx, me_L_sI, me_L_sP, me_L_nx, f0, f1, f2, f3, f4, f5, f6, f7, f8, f9, f10, f11, f12, f13]) (by simp [me_I_sI, me_I_sP, me_I_nx, me_P_sI, me_P_sP, me_P_nx, me_N_sI, me_N_sP, me_N_nx, me_L_sI, me_L_sP, me_L_nx, f0, f1, f2, f3, f4, f5, f6, f7, f8, f9, f10, f11, f12, f13])) mt_K_init rfl rfl ml_Y_35 im_K_init d_Y_init_77 rfl rfl (Nat.le_of_ble_eq_true rfl) (fun _ _ h => h.1) ?_
  rintro _ ⟨_, rfl⟩
  refine jx_of (fun _ _ kz => jw_aast cf_K d_Y_init_80 rfl rfl rfl rfl (by rw [show me_L _ 19 0 = 3 from (by simp [me_I_sI, me_I_sP, me_I_nx, me_P_sI, me_P_sP, me_P_nx, me_N_sI, me_N_sP, me_N_nx, me_L_sI, me_L_sP, me_L_nx, f0, f1, f2, f3, f4, f5, f6, f7, f8, f9, f10, f11, f12, f13])]; unfold vp_in; decide) kz) ?_
  rw [show Int32.toNatClampNeg 2 = 2 from by decide]
  refine jx_of (fun _ _ kz => jw_putP fl_Y_38 (Or.inr ⟨rfl, rfl⟩) (fun z => by cases z <;> rfl) (fun z => by cases z <;> rfl) d_Y_init_81 rfl rfl kz) ?_
  refine jx_of (fun _ _ kz => jw_aload_n 0 d_Y_init_84 rfl rfl kz) ?_
  refine jx_of (fun _ _ kz => jw_newe (s := 4) 3 cf_R df_R cl_Y_42 it_R ii_R d_Y_init_85 rfl rfl (by simp [me_I_sI, me_I_sP, me_I_nx, me_P_sI, me_P_sP, me_P_nx, me_N_sI, me_N_sP, me_N_nx, me_L_sI, me_L_sP, me_L_nx, f0, f1, f2, f3, f4, f5, f6, f7, f8, f9, f10, f11, f12, f13]) kz) ?_
  refine jx_of (fun _ _ kz => jw_dup d_Y_init_88 kz) ?_
  refine jx_of (fun _ _ kz => jw_bipush 12 d_Y_init_89 (by decide) kz) ?_
  refine jx_callI (x_R_init (d + 1) 3 12 12 3 (by simp [me_I_sI, me_I_sP, me_I_nx, me_P_sI, me_P_sP, me_P_nx, me_N_sI, me_N_sP, me_N_nx, me_L_sI, me_L_sP, me_L_nx, f0, f1, f2, f3, f4, f5, f6, f7, f8, f9, f10, f11, f12, f13]) (by decide) (by decide) (by decide)) mt_R_init rfl rfl ml_Y_44 im_R_init d_Y_init_91 rfl rfl (Nat.le_of_ble_eq_true rfl) (fun _ _ h => h.1) ?_
  rintro _ ⟨_, rfl⟩
  refine jx_of (fun _ _ kz => jw_putP fl_Y_45 (Or.inr ⟨rfl, rfl⟩) (fun z => by cases z <;> rfl) (fun z => by cases z <;> rfl) d_Y_init_94 rfl rfl kz) ?_
  refine jx_of (fun _ _ kz => jw_aload_n 0 d_Y_init_97 rfl rfl kz) ?_
  refine jx_of (fun _ _ kz => jw_newe (s := 4) 4 cf_R df_R cl_Y_42 it_R ii_R d_Y_init_98 rfl rfl (by simp [me_I_sI, me_I_sP, me_I_nx, me_P_sI, me_P_sP, me_P_nx, me_N_sI, me_N_sP, me_N_nx, me_L_sI, me_L_sP, me_L_nx, f0, f1, f2, f3, f4, f5, f6, f7, f8, f9, f10, f11, f12, f13]) kz) ?_
  refine jx_of (fun _ _ kz => jw_dup d_Y_init_101 kz) ?_
  refine jx_of (fun _ _ kz => jw_bipush 12 d_Y_init_102 (by decide) kz) ?_
  refine jx_callI (x_R_init (d + 1) 4 12 12 4 (by simp [me_I_sI, me_I_sP, me_I_nx, me_P_sI, me_P_sP, me_P_nx, me_N_sI, me_N_sP, me_N_nx, me_L_sI, me_L_sP, me_L_nx, f0, f1, f2, f3, f4, f5, f6, f7, f8, f9, f10, f11, f12, f13]) (by decide) (by decide) (by decide)) mt_R_init rfl rfl ml_Y_44 im_R_init d_Y_init_104 rfl rfl (Nat.le_of_ble_eq_true rfl) (fun _ _ h => h.1) ?_
  rintro _ ⟨_, rfl⟩
  refine jx_of (fun _ _ kz => jw_putP fl_Y_49 (Or.inr ⟨rfl, rfl⟩) (fun z => by cases z <;> rfl) (fun z => by cases z <;> rfl) d_Y_init_107 rfl rfl kz) ?_
  refine jx_of (fun _ _ kz => jw_aload_n 0 d_Y_init_110 rfl rfl kz) ?_
  refine jx_of (fun _ _ kz => jw_iconst 2 d_Y_init_111 (by decide) kz) ?_
  refine jx_of (fun _ _ kz => jw_newQe (s := 20) (k := 2) 0 cl_Y_52 (by decide) d_Y_init_112 rfl rfl (by decide) (by decide) (by decide) (by simp [me_I_sI, me_I_sP, me_I_nx, me_P_sI, me_P_sP, me_P_nx, me_N_sI, me_N_sP, me_N_nx, me_L_sI, me_L_sP, me_L_nx, f0, f1, f2, f3, f4, f5, f6, f7, f8, f9, f10, f11, f12, f13]) kz) ?_
  refine jx_of (fun _ _ kz => jw_dup d_Y_init_115 kz) ?_
  refine jx_of (fun _ _ kz => jw_iconst 0 d_Y_init_116 (by decide) kz) ?_
  refine jx_of (fun _ _ kz => jw_newe (s := 5) 0 cf_G df_G cl_Y_52 it_G ii_G d_Y_init_117 rfl rfl (by simp [me_I_sI, me_I_sP, me_I_nx, me_P_sI, me_P_sP, me_P_nx, me_N_sI, me_N_sP, me_N_nx, me_L_sI, me_L_sP, me_L_nx, f0, f1, f2, f3, f4, f5, f6, f7, f8, f9, f10, f11, f12, f13]) kz) ?_
  refine jx_of (fun _ _ kz => jw_dup d_Y_init_120 kz) ?_
  refine jx_callIN (host := "PollYard") (x_G_init _ 0 5 5 (by simp [me_I_sI, me_I_sP, me_I_nx, me_P_sI, me_P_sP, me_P_nx, me_N_sI, me_N_sP, me_N_nx, me_L_sI, me_L_sP, me_L_nx, f0, f1, f2, f3, f4, f5, f6, f7, f8, f9, f10, f11, f12, f13]) (by simp [me_I_sI, me_I_sP, me_I_nx, me_P_sI, me_P_sP, me_P_nx, me_N_sI, me_N_sP, me_N_nx, me_L_sI, me_L_sP, me_L_nx, f0, f1, f2, f3, f4, f5, f6, f7, f8, f9, f10, f11, f12, f13])) mt_G_init rfl rfl (by decide) im_G_init d_Y_init_121 rfl rfl (Nat.le_of_ble_eq_true rfl) (fun _ _ h => h.1) ?_
  rintro _ ⟨_, rfl⟩
  refine jx_of (fun _ _ kz => jw_aast cf_G d_Y_init_124 rfl rfl rfl rfl (by rw [show me_L _ 20 0 = 2 from (by simp [me_I_sI, me_I_sP, me_I_nx, me_P_sI, me_P_sP, me_P_nx, me_N_sI, me_N_sP, me_N_nx, me_L_sI, me_L_sP, me_L_nx, f0, f1, f2, f3, f4, f5, f6, f7, f8, f9, f10, f11, f12, f13])]; unfold vp_in; decide) kz) ?_
  rw [show Int32.toNatClampNeg 0 = 0 from by decide]
  refine jx_of (fun _ _ kz => jw_dup d_Y_init_125 kz) ?_
  refine jx_of (fun _ _ kz => jw_iconst 1 d_Y_init_126 (by decide) kz) ?_
  refine jx_of (fun _ _ kz => jw_newe (s := 5) 1 cf_G df_G cl_Y_52 it_G ii_G d_Y_init_127 rfl rfl (by simp [me_I_sI, me_I_sP, me_I_nx, me_P_sI, me_P_sP, me_P_nx, me_N_sI, me_N_sP, me_N_nx, me_L_sI, me_L_sP, me_L_nx, f0, f1, f2, f3, f4, f5, f6, f7, f8, f9, f10, f11, f12, f13]) kz) ?_
  refine jx_of (fun _ _ kz => jw_dup d_Y_init_130 kz) ?_
  refine jx_callIN (host := "PollYard") (x_G_init _ 1 6 6 (by simp [me_I_sI, me_I_sP, me_I_nx, me_P_sI, me_P_sP, me_P_nx, me_N_sI, me_N_sP, me_N_nx, me_L_sI, me_L_sP, me_L_nx, f0, f1, f2, f3, f4, f5, f6, f7, f8, f9, f10, f11, f12, f13]) (by simp [me_I_sI, me_I_sP, me_I_nx, me_P_sI, me_P_sP, me_P_nx, me_N_sI, me_N_sP, me_N_nx, me_L_sI, me_L_sP, me_L_nx, f0, f1, f2, f3, f4, f5, f6, f7, f8, f9, f10, f11, f12, f13])) mt_G_init rfl rfl (by decide) im_G_init d_Y_init_131 rfl rfl (Nat.le_of_ble_eq_true rfl) (fun _ _ h => h.1) ?_
  rintro _ ⟨_, rfl⟩
  refine jx_of (fun _ _ kz => jw_aast cf_G d_Y_init_134 rfl rfl rfl rfl (by rw [show me_L _ 20 0 = 2 from (by simp [me_I_sI, me_I_sP, me_I_nx, me_P_sI, me_P_sP, me_P_nx, me_N_sI, me_N_sP, me_N_nx, me_L_sI, me_L_sP, me_L_nx, f0, f1, f2, f3, f4, f5, f6, f7, f8, f9, f10, f11, f12, f13])]; unfold vp_in; decide) kz) ?_
  rw [show Int32.toNatClampNeg 1 = 1 from by decide]
  refine jx_of (fun _ _ kz => jw_putP fl_Y_55 (Or.inr ⟨rfl, rfl⟩) (fun z => by cases z <;> rfl) (fun z => by cases z <;> rfl) d_Y_init_135 rfl rfl kz) ?_
  refine jx_of (fun _ _ kz => jw_aload_n 0 d_Y_init_138 rfl rfl kz) ?_
  refine jx_of (fun _ _ kz => jw_iconst 2 d_Y_init_139 (by decide) kz) ?_
  refine jx_of (fun _ _ kz => jw_newQe (s := 21) (k := 2) 0 cl_Y_59 (by decide) d_Y_init_140 rfl rfl (by decide) (by decide) (by decide) (by simp [me_I_sI, me_I_sP, me_I_nx, me_P_sI, me_P_sP, me_P_nx, me_N_sI, me_N_sP, me_N_nx, me_L_sI, me_L_sP, me_L_nx, f0, f1, f2, f3, f4, f5, f6, f7, f8, f9, f10, f11, f12, f13]) kz) ?_
  refine jx_of (fun _ _ kz => jw_dup d_Y_init_143 kz) ?_
  refine jx_of (fun _ _ kz => jw_iconst 0 d_Y_init_144 (by decide) kz) ?_
  refine jx_of (fun _ _ kz => jw_newe (s := 6) 0 cf_N df_N cl_Y_59 it_N ii_N d_Y_init_145 rfl rfl (by simp [me_I_sI, me_I_sP, me_I_nx, me_P_sI, me_P_sP, me_P_nx, me_N_sI, me_N_sP, me_N_nx, me_L_sI, me_L_sP, me_L_nx, f0, f1, f2, f3, f4, f5, f6, f7, f8, f9, f10, f11, f12, f13]) kz) ?_
  refine jx_of (fun _ _ kz => jw_dup d_Y_init_148 kz) ?_
  refine jx_callIN (host := "PollYard") (x_N_init _ 0 7 7 (by simp [me_I_sI, me_I_sP, me_I_nx, me_P_sI, me_P_sP, me_P_nx, me_N_sI, me_N_sP, me_N_nx, me_L_sI, me_L_sP, me_L_nx, f0, f1, f2, f3, f4, f5, f6, f7, f8, f9, f10, f11, f12, f13]) (by simp [me_I_sI, me_I_sP, me_I_nx, me_P_sI, me_P_sP, me_P_nx, me_N_sI, me_N_sP, me_N_nx, me_L_sI, me_L_sP, me_L_nx, f0, f1, f2, f3, f4, f5, f6, f7, f8, f9, f10, f11, f12, f13])) mt_N_init rfl rfl (by decide) im_N_init d_Y_init_149 rfl rfl (Nat.le_of_ble_eq_true rfl) (fun _ _ h => h.1) ?_
  rintro _ ⟨_, rfl⟩
  refine jx_of (fun _ _ kz => jw_aast cf_N d_Y_init_152 rfl rfl rfl rfl (by rw [show me_L _ 21 0 = 2 from (by simp [me_I_sI, me_I_sP, me_I_nx, me_P_sI, me_P_sP, me_P_nx, me_N_sI, me_N_sP, me_N_nx, me_L_sI, me_L_sP, me_L_nx, f0, f1, f2, f3, f4, f5, f6, f7, f8, f9, f10, f11, f12, f13])]; unfold vp_in; decide) kz) ?_
  rw [show Int32.toNatClampNeg 0 = 0 from by decide]
  refine jx_of (fun _ _ kz => jw_dup d_Y_init_153 kz) ?_
  refine jx_of (fun _ _ kz => jw_iconst 1 d_Y_init_154 (by decide) kz) ?_
  refine jx_of (fun _ _ kz => jw_newe (s := 6) 1 cf_N df_N cl_Y_59 it_N ii_N d_Y_init_155 rfl rfl (by simp [me_I_sI, me_I_sP, me_I_nx, me_P_sI, me_P_sP, me_P_nx, me_N_sI, me_N_sP, me_N_nx, me_L_sI, me_L_sP, me_L_nx, f0, f1, f2, f3, f4, f5, f6, f7, f8, f9, f10, f11, f12, f13]) kz) ?_
  refine jx_of (fun _ _ kz => jw_dup d_Y_init_158 kz) ?_
  refine jx_callIN (host := "PollYard") (x_N_init _ 1 8 8 (by simp [me_I_sI, me_I_sP, me_I_nx, me_P_sI, me_P_sP, me_P_nx, me_N_sI, me_N_sP, me_N_nx, me_L_sI, me_L_sP, me_L_nx, f0, f1, f2, f3, f4, f5, f6, f7, f8, f9, f10, f11, f12, f13]) (by simp [me_I_sI, me_I_sP, me_I_nx, me_P_sI, me_P_sP, me_P_nx, me_N_sI, me_N_sP, me_N_nx, me_L_sI, me_L_sP, me_L_nx, f0, f1, f2, f3, f4, f5, f6, f7, f8, f9, f10, f11, f12, f13])) mt_N_init rfl rfl (by decide) im_N_init d_Y_init_159 rfl rfl (Nat.le_of_ble_eq_true rfl) (fun _ _ h => h.1) ?_
  rintro _ ⟨_, rfl⟩
  refine jx_of (fun _ _ kz => jw_aast cf_N d_Y_init_162 rfl rfl rfl rfl (by rw [show me_L _ 21 0 = 2 from (by simp [me_I_sI, me_I_sP, me_I_nx, me_P_sI, me_P_sP, me_P_nx, me_N_sI, me_N_sP, me_N_nx, me_L_sI, me_L_sP, me_L_nx, f0, f1, f2, f3, f4, f5, f6, f7, f8, f9, f10, f11, f12, f13])]; unfold vp_in; decide) kz) ?_
  rw [show Int32.toNatClampNeg 1 = 1 from by decide]
  refine jx_of (fun _ _ kz => jw_putP fl_Y_62 (Or.inr ⟨rfl, rfl⟩) (fun z => by cases z <;> rfl) (fun z => by cases z <;> rfl) d_Y_init_163 rfl rfl kz) ?_
  refine jx_of (fun _ _ kz => jw_aload_n 0 d_Y_init_166 rfl rfl kz) ?_
  refine jx_of (fun _ _ kz => jw_iconst 0 d_Y_init_167 (by decide) kz) ?_
  refine jx_of (fun _ _ kz => jw_putI fl_Y_66 (Or.inr ⟨rfl, rfl⟩) rfl rfl d_Y_init_168 rfl rfl kz) ?_
  refine jx_of (fun _ _ kz => jw_aload_n 0 d_Y_init_171 rfl rfl kz) ?_
  refine jx_of (fun _ _ kz => jw_iconst 0 d_Y_init_172 (by decide) kz) ?_
  refine jx_of (fun _ _ kz => jw_putI fl_Y_69 (Or.inr ⟨rfl, rfl⟩) rfl rfl d_Y_init_173 rfl rfl kz) ?_
  refine jx_of (fun _ _ kz => jw_aload_n 0 d_Y_init_176 rfl rfl kz) ?_
  refine jx_of (fun _ _ kz => jw_iconst 0 d_Y_init_177 (by decide) kz) ?_
  refine jx_of (fun _ _ kz => jw_putI fl_Y_72 (Or.inr ⟨rfl, rfl⟩) rfl rfl d_Y_init_178 rfl rfl kz) ?_
  refine jx_of (fun _ _ kz => jw_aload_n 0 d_Y_init_181 rfl rfl kz) ?_
  refine jx_of (fun _ _ kz => jw_iconst 0 d_Y_init_182 (by decide) kz) ?_
  refine jx_of (fun _ _ kz => jw_putI fl_Y_75 (Or.inr ⟨rfl, rfl⟩) rfl rfl d_Y_init_183 rfl rfl kz) ?_
  refine jx_vret d_Y_init_186 rfl ?_
  exact ⟨rfl, rfl⟩
set_option maxRecDepth 20000 in
set_option maxHeartbeats 4000000 in
theorem x_M_init {G : Gt} {M : Me} (d : Nat) (f0 : me_N M 30 = 0) (f1 : me_N M 31 = 0) (f2 : me_N M 32 = 0) (f3 : me_N M 33 = 0) (f4 : me_N M 34 = 0) (f5 : me_N M 35 = 0) (f6 : me_N M 36 = 0) (f7 : me_N M 37 = 0) (f8 : me_N M 38 = 0) (f9 : me_N M 39 = 0) (f10 : me_N M 40 = 0) (f11 : me_N M 41 = 0) (f12 : me_N M 42 = 0) (f13 : me_N M 43 = 0) (f14 : me_N M 44 = 0) (f15 : me_N M 45 = 0) (f16 : me_N M 46 = 0) (f17 : me_N M 47 = 0) (f18 : me_N M 48 = 0) (f19 : me_N M 49 = 0) (f20 : me_N M 50 = 0) (f21 : me_N M 51 = 0) (f22 : me_N M 52 = 0) (f23 : me_N M 53 = 0) (f24 : me_N M 54 = 0) (f25 : me_N M 55 = 0) : sx G yt_M_init yn_M_init (d + 1) [.inr (some (7, 0))] M (fun r M' => r = none ∧ (me_sI (me_sP (me_nx (me_sP (me_sI (me_sI (me_nx (me_sP (me_nx (me_sP (me_nx (me_sP (me_nx (me_sP (me_nx (me_sP (me_nx (me_sP (me_sI (me_sI (me_sI (me_nx (me_sP (me_nx (me_sP (me_nx (me_sP (me_nx (me_sP (me_nx (me_sP (me_nx (me_sP (me_nx (me_sP (me_nx (me_sP (me_nx (me_sP (me_nx (me_sP (me_nx (me_sP (me_nx (me_sP (me_nx (me_sP (me_nx (me_sP (me_nx (me_sP (me_nx (me_sP (me_nx (me_sP (me_nx (me_sP (me_nx M 30 0 84 84) 7 0 0 (some (30, 0))) 31 0 84 84) 7 0 1 (some (31, 0))) 32 0 7 7) 7 0 2 (some (32, 0))) 33 0 12 12) 7 0 4 (some (33, 0))) 34 0 12 12) 7 0 5 (some (34, 0))) 35 0 12 12) 7 0 6 (some (35, 0))) 36 0 12 12) 7 0 7 (some (36, 0))) 37 0 12 12) 7 0 8 (some (37, 0))) 38 0 12 12) 7 0 9 (some (38, 0))) 39 0 12 12) 7 0 10 (some (39, 0))) 40 0 144 144) 7 0 11 (some (40, 0))) 41 0 144 144) 7 0 12 (some (41, 0))) 42 0 144 144) 7 0 13 (some (42, 0))) 43 0 144 144) 7 0 14 (some (43, 0))) 44 0 144 144) 7 0 15 (some (44, 0))) 45 0 144 144) 7 0 16 (some (45, 0))) 46 0 13 13) 7 0 17 (some (46, 0))) 47 0 13 13) 7 0 18 (some (47, 0))) 48 0 3 3) 48 0 0 ((-1))) 48 0 1 ((-1))) 48 0 2 ((-1))) 7 0 19 (some (48, 0))) 49 0 3 3) 7 0 20 (some (49, 0))) 50 0 3 3) 7 0 21 (some (50, 0))) 51 0 12 12) 7 0 22 (some (51, 0))) 52 0 3 3) 7 0 23 (some (52, 0))) 53 0 12 12) 7 0 24 (some (53, 0))) 54 0 2 2) 54 0 0 (1)) 54 0 1 (1)) 7 0 25 (some (54, 0))) 55 0 2 2) 7 0 26 (some (55, 0))) 7 0 35 ((-1))) = M') := by
  refine sx_of (k := 0) (lc := [some (.inr (some (7, 0)))]) mt_M_init (Nat.le_of_ble_eq_true rfl) rfl ?_
  refine jx_of (fun _ _ kz => jw_aload_n 0 d_M_init_0 rfl rfl kz) ?_
  refine jx_of (fun _ _ kz => jw_objInit ml_M_1 im_Obj co_Obj d_M_init_1 (Nat.le_of_ble_eq_true rfl) kz) ?_
  refine jx_of (fun _ _ kz => jw_aload_n 0 d_M_init_4 rfl rfl kz) ?_
  refine jx_of (fun _ _ kz => jw_bipush 84 d_M_init_5 (by decide) kz) ?_
  refine jx_of (fun _ _ kz => jw_newIe (s := 30) (k := 84) 0 ac_int d_M_init_7 rfl rfl (by decide) (by decide) (by decide) (by simp [me_I_sI, me_I_sP, me_I_nx, me_P_sI, me_P_sP, me_P_nx, me_N_sI, me_N_sP, me_N_nx, me_L_sI, me_L_sP, me_L_nx, f0, f1, f2, f3, f4, f5, f6, f7, f8, f9, f10, f11, f12, f13, f14, f15, f16, f17, f18, f19, f20, f21, f22, f23, f24, f25]) kz) ?_
  refine jx_of (fun _ _ kz => jw_putP fl_M_7 (Or.inr ⟨rfl, rfl⟩) (fun z => by cases z <;> rfl) (fun z => by cases z <;> rfl) d_M_init_9 rfl rfl kz) ?_
  refine jx_of (fun _ _ kz => jw_aload_n 0 d_M_init_12 rfl rfl kz) ?_
  refine jx_of (fun _ _ kz => jw_bipush 84 d_M_init_13 (by decide) kz) ?_
  refine jx_of (fun _ _ kz => jw_newIe (s := 31) (k := 84) 0 ac_int d_M_init_15 rfl rfl (by decide) (by decide) (by decide) (by simp [me_I_sI, me_I_sP, me_I_nx, me_P_sI, me_P_sP, me_P_nx, me_N_sI, me_N_sP, me_N_nx, me_L_sI, me_L_sP, me_L_nx, f0, f1, f2, f3, f4, f5, f6, f7, f8, f9, f10, f11, f12, f13, f14, f15, f16, f17, f18, f19, f20, f21, f22, f23, f24, f25]) kz) ?_
  refine jx_of (fun _ _ kz => jw_putP fl_M_13 (Or.inr ⟨rfl, rfl⟩) (fun z => by cases z <;> rfl) (fun z => by cases z <;> rfl) d_M_init_17 rfl rfl kz) ?_
  refine jx_of (fun _ _ kz => jw_aload_n 0 d_M_init_20 rfl rfl kz) ?_
  refine jx_of (fun _ _ kz => jw_bipush 7 d_M_init_21 (by decide) kz) ?_
  refine jx_of (fun _ _ kz => jw_newIe (s := 32) (k := 7) 0 ac_int d_M_init_23 rfl rfl (by decide) (by decide) (by decide) (by simp [me_I_sI, me_I_sP, me_I_nx, me_P_sI, me_P_sP, me_P_nx, me_N_sI, me_N_sP, me_N_nx, me_L_sI, me_L_sP, me_L_nx, f0, f1, f2, f3, f4, f5, f6, f7, f8, f9, f10, f11, f12, f13, f14, f15, f16, f17, f18, f19, f20, f21, f22, f23, f24, f25]) kz) ?_
  refine jx_of (fun _ _ kz => jw_putP fl_M_16 (Or.inr ⟨rfl, rfl⟩) (fun z => by cases z <;> rfl) (fun z => by cases z <;> rfl) d_M_init_25 rfl rfl kz) ?_
  refine jx_of (fun _ _ kz => jw_aload_n 0 d_M_init_28 rfl rfl kz) ?_
  refine jx_of (fun _ _ kz => jw_bipush 12 d_M_init_29 (by decide) kz) ?_
  refine jx_of (fun _ _ kz => jw_newIe (s := 33) (k := 12) 0 ac_int d_M_init_31 rfl rfl (by decide) (by decide) (by decide) (by simp [me_I_sI, me_I_sP, me_I_nx, me_P_sI, me_P_sP, me_P_nx, me_N_sI, me_N_sP, me_N_nx, me_L_sI, me_L_sP, me_L_nx, f0, f1, f2, f3, f4, f5, f6, f7, f8, f9, f10, f11, f12, f13, f14, f15, f16, f17, f18, f19, f20, f21, f22, f23, f24, f25]) kz) ?_
  refine jx_of (fun _ _ kz => jw_putP fl_M_19 (Or.inr ⟨rfl, rfl⟩) (fun z => by cases z <;> rfl) (fun z => by cases z <;> rfl) d_M_init_33 rfl rfl kz) ?_
  refine jx_of (fun _ _ kz => jw_aload_n 0 d_M_init_36 rfl rfl kz) ?_
  refine jx_of (fun _ _ kz => jw_bipush 12 d_M_init_37 (by decide) kz) ?_
  refine jx_of (fun _ _ kz => jw_newIe (s := 34) (k := 12) 0 ac_int d_M_init_39 rfl rfl (by decide) (by decide) (by decide) (by simp [me_I_sI, me_I_sP, me_I_nx, me_P_sI, me_P_sP, me_P_nx, me_N_sI, me_N_sP, me_N_nx, me_L_sI, me_L_sP, me_L_nx, f0, f1, f2, f3, f4, f5, f6, f7, f8, f9, f10, f11, f12, f13, f14, f15, f16, f17, f18, f19, f20, f21, f22, f23, f24, f25]) kz) ?_
  refine jx_of (fun _ _ kz => jw_putP fl_M_22 (Or.inr ⟨rfl, rfl⟩) (fun z => by cases z <;> rfl) (fun z => by cases z <;> rfl) d_M_init_41 rfl rfl kz) ?_
  refine jx_of (fun _ _ kz => jw_aload_n 0 d_M_init_44 rfl rfl kz) ?_
  refine jx_of (fun _ _ kz => jw_bipush 12 d_M_init_45 (by decide) kz) ?_
  refine jx_of (fun _ _ kz => jw_newIe (s := 35) (k := 12) 0 ac_int d_M_init_47 rfl rfl (by decide) (by decide) (by decide) (by simp [me_I_sI, me_I_sP, me_I_nx, me_P_sI, me_P_sP, me_P_nx, me_N_sI, me_N_sP, me_N_nx, me_L_sI, me_L_sP, me_L_nx, f0, f1, f2, f3, f4, f5, f6, f7, f8, f9, f10, f11, f12, f13, f14, f15, f16, f17, f18, f19, f20, f21, f22, f23, f24, f25]) kz) ?_
  refine jx_of (fun _ _ kz => jw_putP fl_M_25 (Or.inr ⟨rfl, rfl⟩) (fun z => by cases z <;> rfl) (fun z => by cases z <;> rfl) d_M_init_49 rfl rfl kz) ?_
  refine jx_of (fun _ _ kz => jw_aload_n 0 d_M_init_52 rfl rfl kz) ?_
  refine jx_of (fun _ _ kz => jw_bipush 12 d_M_init_53 (by decide) kz) ?_
  refine jx_of (fun _ _ kz => jw_newIe (s := 36) (k := 12) 0 ac_int d_M_init_55 rfl rfl (by decide) (by decide) (by decide) (by simp [me_I_sI, me_I_sP, me_I_nx, me_P_sI, me_P_sP, me_P_nx, me_N_sI, me_N_sP, me_N_nx, me_L_sI, me_L_sP, me_L_nx, f0, f1, f2, f3, f4, f5, f6, f7, f8, f9, f10, f11, f12, f13, f14, f15, f16, f17, f18, f19, f20, f21, f22, f23, f24, f25]) kz) ?_
  refine jx_of (fun _ _ kz => jw_putP fl_M_28 (Or.inr ⟨rfl, rfl⟩) (fun z => by cases z <;> rfl) (fun z => by cases z <;> rfl) d_M_init_57 rfl rfl kz) ?_
  refine jx_of (fun _ _ kz => jw_aload_n 0 d_M_init_60 rfl rfl kz) ?_
  refine jx_of (fun _ _ kz => jw_bipush 12 d_M_init_61 (by decide) kz) ?_
  refine jx_of (fun _ _ kz => jw_newIe (s := 37) (k := 12) 0 ac_int d_M_init_63 rfl rfl (by decide) (by decide) (by decide) (by simp [me_I_sI, me_I_sP, me_I_nx, me_P_sI, me_P_sP, me_P_nx, me_N_sI, me_N_sP, me_N_nx, me_L_sI, me_L_sP, me_L_nx, f0, f1, f2, f3, f4, f5, f6, f7, f8, f9, f10, f11, f12, f13, f14, f15, f16, f17, f18, f19, f20, f21, f22, f23, f24, f25]) kz) ?_
  refine jx_of (fun _ _ kz => jw_putP fl_M_31 (Or.inr ⟨rfl, rfl⟩) (fun z => by cases z <;> rfl) (fun z => by cases z <;> rfl) d_M_init_65 rfl rfl kz) ?_
  refine jx_of (fun _ _ kz => jw_aload_n 0 d_M_init_68 rfl rfl kz) ?_
  refine jx_of (fun _ _ kz => jw_bipush 12 d_M_init_69 (by decide) kz) ?_
  refine jx_of (fun _ _ kz => jw_newIe (s := 38) (k := 12) 0 ac_int d_M_init_71 rfl rfl (by decide) (by decide) (by decide) (by simp [me_I_sI, me_I_sP, me_I_nx, me_P_sI, me_P_sP, me_P_nx, me_N_sI, me_N_sP, me_N_nx, me_L_sI, me_L_sP, me_L_nx, f0, f1, f2, f3, f4, f5, f6, f7, f8, f9, f10, f11, f12, f13, f14, f15, f16, f17, f18, f19, f20, f21, f22, f23, f24, f25]) kz) ?_
  refine jx_of (fun _ _ kz => jw_putP fl_M_34 (Or.inr ⟨rfl, rfl⟩) (fun z => by cases z <;> rfl) (fun z => by cases z <;> rfl) d_M_init_73 rfl rfl kz) ?_
  refine jx_of (fun _ _ kz => jw_aload_n 0 d_M_init_76 rfl rfl kz) ?_
  refine jx_of (fun _ _ kz => jw_bipush 12 d_M_init_77 (by decide) kz) ?_
  refine jx_of (fun _ _ kz => jw_newZe (s := 39) (k := 12) 0 ac_bool d_M_init_79 rfl rfl (by decide) (by decide) (by decide) (by simp [me_I_sI, me_I_sP, me_I_nx, me_P_sI, me_P_sP, me_P_nx, me_N_sI, me_N_sP, me_N_nx, me_L_sI, me_L_sP, me_L_nx, f0, f1, f2, f3, f4, f5, f6, f7, f8, f9, f10, f11, f12, f13, f14, f15, f16, f17, f18, f19, f20, f21, f22, f23, f24, f25]) kz) ?_
  refine jx_of (fun _ _ kz => jw_putP fl_M_37 (Or.inr ⟨rfl, rfl⟩) (fun z => by cases z <;> rfl) (fun z => by cases z <;> rfl) d_M_init_81 rfl rfl kz) ?_
  refine jx_of (fun _ _ kz => jw_aload_n 0 d_M_init_84 rfl rfl kz) ?_
  refine jx_of (fun _ _ kz => jw_sipush 144 d_M_init_85 (by decide) kz) ?_
  refine jx_of (fun _ _ kz => jw_newIe (s := 40) (k := 144) 0 ac_int d_M_init_88 rfl rfl (by decide) (by decide) (by decide) (by simp [me_I_sI, me_I_sP, me_I_nx, me_P_sI, me_P_sP, me_P_nx, me_N_sI, me_N_sP, me_N_nx, me_L_sI, me_L_sP, me_L_nx, f0, f1, f2, f3, f4, f5, f6, f7, f8, f9, f10, f11, f12, f13, f14, f15, f16, f17, f18, f19, f20, f21, f22, f23, f24, f25]) kz) ?_
  refine jx_of (fun _ _ kz => jw_putP fl_M_41 (Or.inr ⟨rfl, rfl⟩) (fun z => by cases z <;> rfl) (fun z => by cases z <;> rfl) d_M_init_90 rfl rfl kz) ?_
  refine jx_of (fun _ _ kz => jw_aload_n 0 d_M_init_93 rfl rfl kz) ?_
  refine jx_of (fun _ _ kz => jw_sipush 144 d_M_init_94 (by decide) kz) ?_
  refine jx_of (fun _ _ kz => jw_newIe (s := 41) (k := 144) 0 ac_int d_M_init_97 rfl rfl (by decide) (by decide) (by decide) (by simp [me_I_sI, me_I_sP, me_I_nx, me_P_sI, me_P_sP, me_P_nx, me_N_sI, me_N_sP, me_N_nx, me_L_sI, me_L_sP, me_L_nx, f0, f1, f2, f3, f4, f5, f6, f7, f8, f9, f10, f11, f12, f13, f14, f15, f16, f17, f18, f19, f20, f21, f22, f23, f24, f25]) kz) ?_
  refine jx_of (fun _ _ kz => jw_putP fl_M_44 (Or.inr ⟨rfl, rfl⟩) (fun z => by cases z <;> rfl) (fun z => by cases z <;> rfl) d_M_init_99 rfl rfl kz) ?_
  refine jx_of (fun _ _ kz => jw_aload_n 0 d_M_init_102 rfl rfl kz) ?_
  refine jx_of (fun _ _ kz => jw_sipush 144 d_M_init_103 (by decide) kz) ?_
  refine jx_of (fun _ _ kz => jw_newIe (s := 42) (k := 144) 0 ac_int d_M_init_106 rfl rfl (by decide) (by decide) (by decide) (by simp [me_I_sI, me_I_sP, me_I_nx, me_P_sI, me_P_sP, me_P_nx, me_N_sI, me_N_sP, me_N_nx, me_L_sI, me_L_sP, me_L_nx, f0, f1, f2, f3, f4, f5, f6, f7, f8, f9, f10, f11, f12, f13, f14, f15, f16, f17, f18, f19, f20, f21, f22, f23, f24, f25]) kz) ?_
  refine jx_of (fun _ _ kz => jw_putP fl_M_47 (Or.inr ⟨rfl, rfl⟩) (fun z => by cases z <;> rfl) (fun z => by cases z <;> rfl) d_M_init_108 rfl rfl kz) ?_
  refine jx_of (fun _ _ kz => jw_aload_n 0 d_M_init_111 rfl rfl kz) ?_
  refine jx_of (fun _ _ kz => jw_sipush 144 d_M_init_112 (by decide) kz) ?_
  refine jx_of (fun _ _ kz => jw_newIe (s := 43) (k := 144) 0 ac_int d_M_init_115 rfl rfl (by decide) (by decide) (by decide) (by simp [me_I_sI, me_I_sP, me_I_nx, me_P_sI, me_P_sP, me_P_nx, me_N_sI, me_N_sP, me_N_nx, me_L_sI, me_L_sP, me_L_nx, f0, f1, f2, f3, f4, f5, f6, f7, f8, f9, f10, f11, f12, f13, f14, f15, f16, f17, f18, f19, f20, f21, f22, f23, f24, f25]) kz) ?_
  refine jx_of (fun _ _ kz => jw_putP fl_M_50 (Or.inr ⟨rfl, rfl⟩) (fun z => by cases z <;> rfl) (fun z => by cases z <;> rfl) d_M_init_117 rfl rfl kz) ?_
  refine jx_of (fun _ _ kz => jw_aload_n 0 d_M_init_120 rfl rfl kz) ?_
  refine jx_of (fun _ _ kz => jw_sipush 144 d_M_init_121 (by decide) kz) ?_
  refine jx_of (fun _ _ kz => jw_newZe (s := 44) (k := 144) 0 ac_bool d_M_init_124 rfl rfl (by decide) (by decide) (by decide) (by simp [me_I_sI, me_I_sP, me_I_nx, me_P_sI, me_P_sP, me_P_nx, me_N_sI, me_N_sP, me_N_nx, me_L_sI, me_L_sP, me_L_nx, f0, f1, f2, f3, f4, f5, f6, f7, f8, f9, f10, f11, f12, f13, f14, f15, f16, f17, f18, f19, f20, f21, f22, f23, f24, f25]) kz) ?_
  refine jx_of (fun _ _ kz => jw_putP fl_M_53 (Or.inr ⟨rfl, rfl⟩) (fun z => by cases z <;> rfl) (fun z => by cases z <;> rfl) d_M_init_126 rfl rfl kz) ?_
  refine jx_of (fun _ _ kz => jw_aload_n 0 d_M_init_129 rfl rfl kz) ?_
  refine jx_of (fun _ _ kz => jw_sipush 144 d_M_init_130 (by decide) kz) ?_
  refine jx_of (fun _ _ kz => jw_newZe (s := 45) (k := 144) 0 ac_bool d_M_init_133 rfl rfl (by decide) (by decide) (by decide) (by simp [me_I_sI, me_I_sP, me_I_nx, me_P_sI, me_P_sP, me_P_nx, me_N_sI, me_N_sP, me_N_nx, me_L_sI, me_L_sP, me_L_nx, f0, f1, f2, f3, f4, f5, f6, f7, f8, f9, f10, f11, f12, f13, f14, f15, f16, f17, f18, f19, f20, f21, f22, f23, f24, f25]) kz) ?_
  refine jx_of (fun _ _ kz => jw_putP fl_M_56 (Or.inr ⟨rfl, rfl⟩) (fun z => by cases z <;> rfl) (fun z => by cases z <;> rfl) d_M_init_135 rfl rfl kz) ?_
  refine jx_of (fun _ _ kz => jw_aload_n 0 d_M_init_138 rfl rfl kz) ?_
  refine jx_of (fun _ _ kz => jw_bipush 13 d_M_init_139 (by decide) kz) ?_
  refine jx_of (fun _ _ kz => jw_newIe (s := 46) (k := 13) 0 ac_int d_M_init_141 rfl rfl (by decide) (by decide) (by decide) (by simp [me_I_sI, me_I_sP, me_I_nx, me_P_sI, me_P_sP, me_P_nx, me_N_sI, me_N_sP, me_N_nx, me_L_sI, me_L_sP, me_L_nx, f0, f1, f2, f3, f4, f5, f6, f7, f8, f9, f10, f11, f12, f13, f14, f15, f16, f17, f18, f19, f20, f21, f22, f23, f24, f25]) kz) ?_
  refine jx_of (fun _ _ kz => jw_putP fl_M_59 (Or.inr ⟨rfl, rfl⟩) (fun z => by cases z <;> rfl) (fun z => by cases z <;> rfl) d_M_init_143 rfl rfl kz) ?_
  refine jx_of (fun _ _ kz => jw_aload_n 0 d_M_init_146 rfl rfl kz) ?_
  refine jx_of (fun _ _ kz => jw_bipush 13 d_M_init_147 (by decide) kz) ?_
  refine jx_of (fun _ _ kz => jw_newIe (s := 47) (k := 13) 0 ac_int d_M_init_149 rfl rfl (by decide) (by decide) (by decide) (by simp [me_I_sI, me_I_sP, me_I_nx, me_P_sI, me_P_sP, me_P_nx, me_N_sI, me_N_sP, me_N_nx, me_L_sI, me_L_sP, me_L_nx, f0, f1, f2, f3, f4, f5, f6, f7, f8, f9, f10, f11, f12, f13, f14, f15, f16, f17, f18, f19, f20, f21, f22, f23, f24, f25]) kz) ?_
  refine jx_of (fun _ _ kz => jw_putP fl_M_62 (Or.inr ⟨rfl, rfl⟩) (fun z => by cases z <;> rfl) (fun z => by cases z <;> rfl) d_M_init_151 rfl rfl kz) ?_
  refine jx_of (fun _ _ kz => jw_aload_n 0 d_M_init_154 rfl rfl kz) ?_
  refine jx_of (fun _ _ kz => jw_iconst 3 d_M_init_155 (by decide) kz) ?_
  refine jx_of (fun _ _ kz => jw_newIe (s := 48) (k := 3) 0 ac_int d_M_init_156 rfl rfl (by decide) (by decide) (by decide) (by simp [me_I_sI, me_I_sP, me_I_nx, me_P_sI, me_P_sP, me_P_nx, me_N_sI, me_N_sP, me_N_nx, me_L_sI, me_L_sP, me_L_nx, f0, f1, f2, f3, f4, f5, f6, f7, f8, f9, f10, f11, f12, f13, f14, f15, f16, f17, f18, f19, f20, f21, f22, f23, f24, f25]) kz) ?_
  refine jx_of (fun _ _ kz => jw_dup d_M_init_158 kz) ?_
  refine jx_of (fun _ _ kz => jw_iconst 0 d_M_init_159 (by decide) kz) ?_
  refine jx_of (fun _ _ kz => jw_iconst (-1) d_M_init_160 (by decide) kz) ?_
  refine jx_of (fun _ _ kz => jw_iast d_M_init_161 rfl rfl (by rw [show me_L _ 48 0 = 3 from (by simp [me_I_sI, me_I_sP, me_I_nx, me_P_sI, me_P_sP, me_P_nx, me_N_sI, me_N_sP, me_N_nx, me_L_sI, me_L_sP, me_L_nx, f0, f1, f2, f3, f4, f5, f6, f7, f8, f9, f10, f11, f12, f13, f14, f15, f16, f17, f18, f19, f20, f21, f22, f23, f24, f25])]; unfold vp_in; decide) kz) ?_
  rw [show Int32.toNatClampNeg 0 = 0 from by decide]
  refine jx_of (fun _ _ kz => jw_dup d_M_init_162 kz) ?_
  refine jx_of (fun _ _ kz => jw_iconst 1 d_M_init_163 (by decide) kz) ?_
  refine jx_of (fun _ _ kz => jw_iconst (-1) d_M_init_164 (by decide) kz) ?_
  refine jx_of (fun _ _ kz => jw_iast d_M_init_165 rfl rfl (by rw [show me_L _ 48 0 = 3 from (by simp [me_I_sI, me_I_sP, me_I_nx, me_P_sI, me_P_sP, me_P_nx, me_N_sI, me_N_sP, me_N_nx, me_L_sI, me_L_sP, me_L_nx, f0, f1, f2, f3, f4, f5, f6, f7, f8, f9, f10, f11, f12, f13, f14, f15, f16, f17, f18, f19, f20, f21, f22, f23, f24, f25])]; unfold vp_in; decide) kz) ?_
  rw [show Int32.toNatClampNeg 1 = 1 from by decide]
  refine jx_of (fun _ _ kz => jw_dup d_M_init_166 kz) ?_
  refine jx_of (fun _ _ kz => jw_iconst 2 d_M_init_167 (by decide) kz) ?_
  refine jx_of (fun _ _ kz => jw_iconst (-1) d_M_init_168 (by decide) kz) ?_
  refine jx_of (fun _ _ kz => jw_iast d_M_init_169 rfl rfl (by rw [show me_L _ 48 0 = 3 from (by simp [me_I_sI, me_I_sP, me_I_nx, me_P_sI, me_P_sP, me_P_nx, me_N_sI, me_N_sP, me_N_nx, me_L_sI, me_L_sP, me_L_nx, f0, f1, f2, f3, f4, f5, f6, f7, f8, f9, f10, f11, f12, f13, f14, f15, f16, f17, f18, f19, f20, f21, f22, f23, f24, f25])]; unfold vp_in; decide) kz) ?_
  rw [show Int32.toNatClampNeg 2 = 2 from by decide]
  refine jx_of (fun _ _ kz => jw_putP fl_M_65 (Or.inr ⟨rfl, rfl⟩) (fun z => by cases z <;> rfl) (fun z => by cases z <;> rfl) d_M_init_170 rfl rfl kz) ?_
  refine jx_of (fun _ _ kz => jw_aload_n 0 d_M_init_173 rfl rfl kz) ?_
  refine jx_of (fun _ _ kz => jw_iconst 3 d_M_init_174 (by decide) kz) ?_
  refine jx_of (fun _ _ kz => jw_newIe (s := 49) (k := 3) 0 ac_int d_M_init_175 rfl rfl (by decide) (by decide) (by decide) (by simp [me_I_sI, me_I_sP, me_I_nx, me_P_sI, me_P_sP, me_P_nx, me_N_sI, me_N_sP, me_N_nx, me_L_sI, me_L_sP, me_L_nx, f0, f1, f2, f3, f4, f5, f6, f7, f8, f9, f10, f11, f12, f13, f14, f15, f16, f17, f18, f19, f20, f21, f22, f23, f24, f25]) kz) ?_
  refine jx_of (fun _ _ kz => jw_putP fl_M_68 (Or.inr ⟨rfl, rfl⟩) (fun z => by cases z <;> rfl) (fun z => by cases z <;> rfl) d_M_init_177 rfl rfl kz) ?_
  refine jx_of (fun _ _ kz => jw_aload_n 0 d_M_init_180 rfl rfl kz) ?_
  refine jx_of (fun _ _ kz => jw_iconst 3 d_M_init_181 (by decide) kz) ?_
  refine jx_of (fun _ _ kz => jw_newIe (s := 50) (k := 3) 0 ac_int d_M_init_182 rfl rfl (by decide) (by decide) (by decide) (by simp [me_I_sI, me_I_sP, me_I_nx, me_P_sI, me_P_sP, me_P_nx, me_N_sI, me_N_sP, me_N_nx, me_L_sI, me_L_sP, me_L_nx, f0, f1, f2, f3, f4, f5, f6, f7, f8, f9, f10, f11, f12, f13, f14, f15, f16, f17, f18, f19, f20, f21, f22, f23, f24, f25]) kz) ?_
  refine jx_of (fun _ _ kz => jw_putP fl_M_71 (Or.inr ⟨rfl, rfl⟩) (fun z => by cases z <;> rfl) (fun z => by cases z <;> rfl) d_M_init_184 rfl rfl kz) ?_
  refine jx_of (fun _ _ kz => jw_aload_n 0 d_M_init_187 rfl rfl kz) ?_
  refine jx_of (fun _ _ kz => jw_bipush 12 d_M_init_188 (by decide) kz) ?_
  refine jx_of (fun _ _ kz => jw_newIe (s := 51) (k := 12) 0 ac_int d_M_init_190 rfl rfl (by decide) (by decide) (by decide) (by simp [me_I_sI, me_I_sP, me_I_nx, me_P_sI, me_P_sP, me_P_nx, me_N_sI, me_N_sP, me_N_nx, me_L_sI, me_L_sP, me_L_nx, f0, f1, f2, f3, f4, f5, f6, f7, f8, f9, f10, f11, f12, f13, f14, f15, f16, f17, f18, f19, f20, f21, f22, f23, f24, f25]) kz) ?_
  refine jx_of (fun _ _ kz => jw_putP fl_M_74 (Or.inr ⟨rfl, rfl⟩) (fun z => by cases z <;> rfl) (fun z => by cases z <;> rfl) d_M_init_192 rfl rfl kz) ?_
  refine jx_of (fun _ _ kz => jw_aload_n 0 d_M_init_195 rfl rfl kz) ?_
  refine jx_of (fun _ _ kz => jw_iconst 3 d_M_init_196 (by decide) kz) ?_
  refine jx_of (fun _ _ kz => jw_newIe (s := 52) (k := 3) 0 ac_int d_M_init_197 rfl rfl (by decide) (by decide) (by decide) (by simp [me_I_sI, me_I_sP, me_I_nx, me_P_sI, me_P_sP, me_P_nx, me_N_sI, me_N_sP, me_N_nx, me_L_sI, me_L_sP, me_L_nx, f0, f1, f2, f3, f4, f5, f6, f7, f8, f9, f10, f11, f12, f13, f14, f15, f16, f17, f18, f19, f20, f21, f22, f23, f24, f25]) kz) ?_
  refine jx_of (fun _ _ kz => jw_putP fl_M_77 (Or.inr ⟨rfl, rfl⟩) (fun z => by cases z <;> rfl) (fun z => by cases z <;> rfl) d_M_init_199 rfl rfl kz) ?_
  refine jx_of (fun _ _ kz => jw_aload_n 0 d_M_init_202 rfl rfl kz) ?_
  refine jx_of (fun _ _ kz => jw_bipush 12 d_M_init_203 (by decide) kz) ?_
  refine jx_of (fun _ _ kz => jw_newIe (s := 53) (k := 12) 0 ac_int d_M_init_205 rfl rfl (by decide) (by decide) (by decide) (by simp [me_I_sI, me_I_sP, me_I_nx, me_P_sI, me_P_sP, me_P_nx, me_N_sI, me_N_sP, me_N_nx, me_L_sI, me_L_sP, me_L_nx, f0, f1, f2, f3, f4, f5, f6, f7, f8, f9, f10, f11, f12, f13, f14, f15, f16, f17, f18, f19, f20, f21, f22, f23, f24, f25]) kz) ?_
  refine jx_of (fun _ _ kz => jw_putP fl_M_80 (Or.inr ⟨rfl, rfl⟩) (fun z => by cases z <;> rfl) (fun z => by cases z <;> rfl) d_M_init_207 rfl rfl kz) ?_
  refine jx_of (fun _ _ kz => jw_aload_n 0 d_M_init_210 rfl rfl kz) ?_
  refine jx_of (fun _ _ kz => jw_iconst 2 d_M_init_211 (by decide) kz) ?_
  refine jx_of (fun _ _ kz => jw_newIe (s := 54) (k := 2) 0 ac_int d_M_init_212 rfl rfl (by decide) (by decide) (by decide) (by simp [me_I_sI, me_I_sP, me_I_nx, me_P_sI, me_P_sP, me_P_nx, me_N_sI, me_N_sP, me_N_nx, me_L_sI, me_L_sP, me_L_nx, f0, f1, f2, f3, f4, f5, f6, f7, f8, f9, f10, f11, f12, f13, f14, f15, f16, f17, f18, f19, f20, f21, f22, f23, f24, f25]) kz) ?_
  refine jx_of (fun _ _ kz => jw_dup d_M_init_214 kz) ?_
  refine jx_of (fun _ _ kz => jw_iconst 0 d_M_init_215 (by decide) kz) ?_
  refine jx_of (fun _ _ kz => jw_iconst 1 d_M_init_216 (by decide) kz) ?_
  refine jx_of (fun _ _ kz => jw_iast d_M_init_217 rfl rfl (by rw [show me_L _ 54 0 = 2 from (by simp [me_I_sI, me_I_sP, me_I_nx, me_P_sI, me_P_sP, me_P_nx, me_N_sI, me_N_sP, me_N_nx, me_L_sI, me_L_sP, me_L_nx, f0, f1, f2, f3, f4, f5, f6, f7, f8, f9, f10, f11, f12, f13, f14, f15, f16, f17, f18, f19, f20, f21, f22, f23, f24, f25])]; unfold vp_in; decide) kz) ?_
  rw [show Int32.toNatClampNeg 0 = 0 from by decide]
  refine jx_of (fun _ _ kz => jw_dup d_M_init_218 kz) ?_
  refine jx_of (fun _ _ kz => jw_iconst 1 d_M_init_219 (by decide) kz) ?_
  refine jx_of (fun _ _ kz => jw_iconst 1 d_M_init_220 (by decide) kz) ?_
  refine jx_of (fun _ _ kz => jw_iast d_M_init_221 rfl rfl (by rw [show me_L _ 54 0 = 2 from (by simp [me_I_sI, me_I_sP, me_I_nx, me_P_sI, me_P_sP, me_P_nx, me_N_sI, me_N_sP, me_N_nx, me_L_sI, me_L_sP, me_L_nx, f0, f1, f2, f3, f4, f5, f6, f7, f8, f9, f10, f11, f12, f13, f14, f15, f16, f17, f18, f19, f20, f21, f22, f23, f24, f25])]; unfold vp_in; decide) kz) ?_
  rw [show Int32.toNatClampNeg 1 = 1 from by decide]
  refine jx_of (fun _ _ kz => jw_putP fl_M_83 (Or.inr ⟨rfl, rfl⟩) (fun z => by cases z <;> rfl) (fun z => by cases z <;> rfl) d_M_init_222 rfl rfl kz) ?_
  refine jx_of (fun _ _ kz => jw_aload_n 0 d_M_init_225 rfl rfl kz) ?_
  refine jx_of (fun _ _ kz => jw_iconst 2 d_M_init_226 (by decide) kz) ?_
  refine jx_of (fun _ _ kz => jw_newZe (s := 55) (k := 2) 0 ac_bool d_M_init_227 rfl rfl (by decide) (by decide) (by decide) (by simp [me_I_sI, me_I_sP, me_I_nx, me_P_sI, me_P_sP, me_P_nx, me_N_sI, me_N_sP, me_N_nx, me_L_sI, me_L_sP, me_L_nx, f0, f1, f2, f3, f4, f5, f6, f7, f8, f9, f10, f11, f12, f13, f14, f15, f16, f17, f18, f19, f20, f21, f22, f23, f24, f25]) kz) ?_
  refine jx_of (fun _ _ kz => jw_putP fl_M_86 (Or.inr ⟨rfl, rfl⟩) (fun z => by cases z <;> rfl) (fun z => by cases z <;> rfl) d_M_init_229 rfl rfl kz) ?_
  refine jx_of (fun _ _ kz => jw_aload_n 0 d_M_init_232 rfl rfl kz) ?_
  refine jx_of (fun _ _ kz => jw_iconst (-1) d_M_init_233 (by decide) kz) ?_
  refine jx_of (fun _ _ kz => jw_putI fl_M_89 (Or.inr ⟨rfl, rfl⟩) rfl rfl d_M_init_234 rfl rfl kz) ?_
  refine jx_vret d_M_init_237 rfl ?_
  exact ⟨rfl, rfl⟩
