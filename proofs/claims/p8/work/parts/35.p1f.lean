set_option maxRecDepth 20000 in
set_option maxHeartbeats 4000000 in
theorem x_M_choose_0 {G : Gt} {M : Me} (d : Nat) (hm : mid M) : sx G yt_M_choose yn_M_choose (d + 1) [.inr (some (7, 0)), .inl 0] M (fun r M' => r = some (.inl ((-2))) ∧ (me_sI M 50 0 0 (0)) = M') := by
  refine sx_of (k := 8) (lc := [some (.inr (some (7, 0))), some (.inl 0), none, none, none, none, none, none, none, none]) mt_M_choose (Nat.le_of_ble_eq_true rfl) rfl ?_
  refine jx_of (fun _ _ kz => jw_aload_n 0 d_M_choose_0 rfl rfl kz) ?_
  refine jx_of (fun _ _ kz => jw_getPe (some (50, 0)) fl_M_71 d_M_choose_1 rfl rfl (by simp [me_I_sI, me_I_sP, me_I_nx, me_P_sI, me_P_sP, me_P_nx, me_N_sI, me_N_sP, me_N_nx, me_L_sI, me_L_sP, me_L_nx, show me_P M 7 0 21 = some (50, 0) from hm.1 (7, 0, 21, 50, 0) (by decide)]) kz) ?_
  refine jx_of (fun _ _ kz => jw_iload_n 1 d_M_choose_4 rfl rfl kz) ?_
  refine jx_of (fun _ _ kz => jw_ialde (0) d_M_choose_5 rfl rfl (by rw [show me_L _ 50 0 = 3 from (by simp [me_I_sI, me_I_sP, me_I_nx, me_P_sI, me_P_sP, me_P_nx, me_N_sI, me_N_sP, me_N_nx, me_L_sI, me_L_sP, me_L_nx, show me_L M 50 0 = 3 from hm.2.1 (50, 0, 3) (by decide)])]; unfold vp_in; decide) (by simp [me_I_sI, me_I_sP, me_I_nx, me_P_sI, me_P_sP, me_P_nx, me_N_sI, me_N_sP, me_N_nx, me_L_sI, me_L_sP, me_L_nx, show me_I M 50 0 0 = 0 from hm.2.2 (50, 0, 0, 0) (by decide)]) kz) ?_
  refine jx_of (fun _ _ kz => jw_istore_n 2 d_M_choose_6 rfl (Nat.le_of_ble_eq_true rfl) kz) ?_
  dsimp only [List.set]
  refine jx_of (fun _ _ kz => jw_aload_n 0 d_M_choose_7 rfl rfl kz) ?_
  refine jx_of (fun _ _ kz => jw_getPe (some (50, 0)) fl_M_71 d_M_choose_8 rfl rfl (by simp [me_I_sI, me_I_sP, me_I_nx, me_P_sI, me_P_sP, me_P_nx, me_N_sI, me_N_sP, me_N_nx, me_L_sI, me_L_sP, me_L_nx, show me_P M 7 0 21 = some (50, 0) from hm.1 (7, 0, 21, 50, 0) (by decide)]) kz) ?_
  refine jx_of (fun _ _ kz => jw_iload_n 1 d_M_choose_11 rfl rfl kz) ?_
  refine jx_of (fun _ _ kz => jw_iconst 0 d_M_choose_12 (by decide) kz) ?_
  refine jx_of (fun _ _ kz => jw_iast d_M_choose_13 rfl rfl (by rw [show me_L _ 50 0 = 3 from (by simp [me_I_sI, me_I_sP, me_I_nx, me_P_sI, me_P_sP, me_P_nx, me_N_sI, me_N_sP, me_N_nx, me_L_sI, me_L_sP, me_L_nx, show me_L M 50 0 = 3 from hm.2.1 (50, 0, 3) (by decide)])]; unfold vp_in; decide) kz) ?_
  rw [show Int32.toNatClampNeg 0 = 0 from by decide]
  refine jx_of (fun _ _ kz => jw_aload_n 0 d_M_choose_14 rfl rfl kz) ?_
  refine jx_of (fun _ _ kz => jw_getPe (some (49, 0)) fl_M_68 d_M_choose_15 rfl rfl (by simp [me_I_sI, me_I_sP, me_I_nx, me_P_sI, me_P_sP, me_P_nx, me_N_sI, me_N_sP, me_N_nx, me_L_sI, me_L_sP, me_L_nx, show me_P M 7 0 20 = some (49, 0) from hm.1 (7, 0, 20, 49, 0) (by decide)]) kz) ?_
  refine jx_of (fun _ _ kz => jw_iload_n 1 d_M_choose_18 rfl rfl kz) ?_
  refine jx_of (fun _ _ kz => jw_ialde (me_I M 49 0 0) d_M_choose_19 rfl rfl (by rw [show me_L _ 49 0 = 3 from (by simp [me_I_sI, me_I_sP, me_I_nx, me_P_sI, me_P_sP, me_P_nx, me_N_sI, me_N_sP, me_N_nx, me_L_sI, me_L_sP, me_L_nx, show me_L M 49 0 = 3 from hm.2.1 (49, 0, 3) (by decide)])]; unfold vp_in; decide) (by simp [me_I_sI, me_I_sP, me_I_nx, me_P_sI, me_P_sP, me_P_nx, me_N_sI, me_N_sP, me_N_nx, me_L_sI, me_L_sP, me_L_nx]) kz) ?_
  refine jx_of (fun _ _ kz => jw_iconst 5 d_M_choose_20 (by decide) kz) ?_
  refine jx_of (fun _ _ kz => jw_irem d_M_choose_21 (by decide) kz) ?_
  refine jx_if_ne 37 d_M_choose_22 (by decide) (fun b_22 => ?_) (fun b_22 => ?_)
  · skip
    refine jx_of (fun _ _ kz => jw_aload_n 0 d_M_choose_37 rfl rfl kz) ?_
    refine jx_of (fun _ _ kz => jw_getPe (some (52, 0)) fl_M_77 d_M_choose_38 rfl rfl (by simp [me_I_sI, me_I_sP, me_I_nx, me_P_sI, me_P_sP, me_P_nx, me_N_sI, me_N_sP, me_N_nx, me_L_sI, me_L_sP, me_L_nx, show me_P M 7 0 23 = some (52, 0) from hm.1 (7, 0, 23, 52, 0) (by decide)]) kz) ?_
    refine jx_of (fun _ _ kz => jw_iload_n 1 d_M_choose_41 rfl rfl kz) ?_
    refine jx_of (fun _ _ kz => jw_ialde (0) d_M_choose_42 rfl rfl (by rw [show me_L _ 52 0 = 3 from (by simp [me_I_sI, me_I_sP, me_I_nx, me_P_sI, me_P_sP, me_P_nx, me_N_sI, me_N_sP, me_N_nx, me_L_sI, me_L_sP, me_L_nx, show me_L M 52 0 = 3 from hm.2.1 (52, 0, 3) (by decide)])]; unfold vp_in; decide) (by simp [me_I_sI, me_I_sP, me_I_nx, me_P_sI, me_P_sP, me_P_nx, me_N_sI, me_N_sP, me_N_nx, me_L_sI, me_L_sP, me_L_nx, show me_I M 52 0 0 = 0 from hm.2.2 (52, 0, 0, 0) (by decide)]) kz) ?_
    refine jx_if_gt 53 d_M_choose_43 (by decide) (fun h => absurd h (by decide)) (fun _ => ?_)
    refine jx_of (fun _ _ kz => jw_aload_n 0 d_M_choose_46 rfl rfl kz) ?_
    refine jx_of (fun _ _ kz => jw_getIe (0) fl_M_119 d_M_choose_47 rfl rfl (by simp [me_I_sI, me_I_sP, me_I_nx, me_P_sI, me_P_sP, me_P_nx, me_N_sI, me_N_sP, me_N_nx, me_L_sI, me_L_sP, me_L_nx, show me_I M 7 0 28 = 0 from hm.2.2 (7, 0, 28, 0) (by decide)]) kz) ?_
    refine jx_if_le 57 d_M_choose_50 (by decide) (fun _ => ?_) (fun h => absurd h (by decide))
    refine jx_of (fun _ _ kz => jw_iconst 0 d_M_choose_57 (by decide) kz) ?_
    refine jx_of (fun _ _ kz => jw_istore_n 3 d_M_choose_58 rfl (Nat.le_of_ble_eq_true rfl) kz) ?_
    dsimp only [List.set]
    refine jx_of (fun _ _ kz => jw_aload_n 0 d_M_choose_59 rfl rfl kz) ?_
    refine jx_of (fun _ _ kz => jw_getPe (some (48, 0)) fl_M_65 d_M_choose_60 rfl rfl (by simp [me_I_sI, me_I_sP, me_I_nx, me_P_sI, me_P_sP, me_P_nx, me_N_sI, me_N_sP, me_N_nx, me_L_sI, me_L_sP, me_L_nx, show me_P M 7 0 19 = some (48, 0) from hm.1 (7, 0, 19, 48, 0) (by decide)]) kz) ?_
    refine jx_of (fun _ _ kz => jw_iload_n 1 d_M_choose_63 rfl rfl kz) ?_
    refine jx_of (fun _ _ kz => jw_ialde ((-1)) d_M_choose_64 rfl rfl (by rw [show me_L _ 48 0 = 3 from (by simp [me_I_sI, me_I_sP, me_I_nx, me_P_sI, me_P_sP, me_P_nx, me_N_sI, me_N_sP, me_N_nx, me_L_sI, me_L_sP, me_L_nx, show me_L M 48 0 = 3 from hm.2.1 (48, 0, 3) (by decide)])]; unfold vp_in; decide) (by simp [me_I_sI, me_I_sP, me_I_nx, me_P_sI, me_P_sP, me_P_nx, me_N_sI, me_N_sP, me_N_nx, me_L_sI, me_L_sP, me_L_nx, show me_I M 48 0 0 = (-1) from hm.2.2 (48, 0, 0, (-1)) (by decide)]) kz) ?_
    refine jx_if_lt 104 d_M_choose_65 (by decide) (fun _ => ?_) (fun h => absurd h (by decide))
    refine jx_of (fun _ _ kz => jw_aload_n 0 d_M_choose_104 rfl rfl kz) ?_
    refine jx_of (fun _ _ kz => jw_getPe (some (52, 0)) fl_M_77 d_M_choose_105 rfl rfl (by simp [me_I_sI, me_I_sP, me_I_nx, me_P_sI, me_P_sP, me_P_nx, me_N_sI, me_N_sP, me_N_nx, me_L_sI, me_L_sP, me_L_nx, show me_P M 7 0 23 = some (52, 0) from hm.1 (7, 0, 23, 52, 0) (by decide)]) kz) ?_
    refine jx_of (fun _ _ kz => jw_iload_n 1 d_M_choose_108 rfl rfl kz) ?_
    refine jx_of (fun _ _ kz => jw_ialde (0) d_M_choose_109 rfl rfl (by rw [show me_L _ 52 0 = 3 from (by simp [me_I_sI, me_I_sP, me_I_nx, me_P_sI, me_P_sP, me_P_nx, me_N_sI, me_N_sP, me_N_nx, me_L_sI, me_L_sP, me_L_nx, show me_L M 52 0 = 3 from hm.2.1 (52, 0, 3) (by decide)])]; unfold vp_in; decide) (by simp [me_I_sI, me_I_sP, me_I_nx, me_P_sI, me_P_sP, me_P_nx, me_N_sI, me_N_sP, me_N_nx, me_L_sI, me_L_sP, me_L_nx, show me_I M 52 0 0 = 0 from hm.2.2 (52, 0, 0, 0) (by decide)]) kz) ?_
    refine jx_if_le 119 d_M_choose_110 (by decide) (fun _ => ?_) (fun h => absurd h (by decide))
    refine jx_of (fun _ _ kz => jw_aload_n 0 d_M_choose_119 rfl rfl kz) ?_
    refine jx_of (fun _ _ kz => jw_getIe (0) fl_M_119 d_M_choose_120 rfl rfl (by simp [me_I_sI, me_I_sP, me_I_nx, me_P_sI, me_P_sP, me_P_nx, me_N_sI, me_N_sP, me_N_nx, me_L_sI, me_L_sP, me_L_nx, show me_I M 7 0 28 = 0 from hm.2.2 (7, 0, 28, 0) (by decide)]) kz) ?_
    refine jx_if_le 131 d_M_choose_123 (by decide) (fun _ => ?_) (fun h => absurd h (by decide))
    refine jx_of (fun _ _ kz => jw_iconst 1 d_M_choose_131 (by decide) kz) ?_
    refine jx_of (fun _ _ kz => jw_istore d_M_choose_132 (Nat.le_of_ble_eq_true rfl) kz) ?_
    dsimp only [List.set]
    refine jx_of (fun _ _ kz => jw_iload d_M_choose_134 rfl kz) ?_
    refine jx_of (fun _ _ kz => jw_iconst 3 d_M_choose_136 (by decide) kz) ?_
    refine jx_icmp_ge 227 d_M_choose_137 (by decide) (fun h => absurd h (by decide)) (fun _ => ?_)
    refine jx_of (fun _ _ kz => jw_iload_n 1 d_M_choose_140 rfl rfl kz) ?_
    refine jx_of (fun _ _ kz => jw_iload d_M_choose_141 rfl kz) ?_
    refine jx_of (fun _ _ kz => jw_iadd d_M_choose_143 kz) ?_
    rw [show (0 + 1 : Int32) = 1 from by decide]
    refine jx_of (fun _ _ kz => jw_iconst 3 d_M_choose_144 (by decide) kz) ?_
    refine jx_of (fun _ _ kz => jw_irem d_M_choose_145 (by decide) kz) ?_
    rw [show (1 - 1 / 3 * 3 : Int32) = 1 from by decide]
    refine jx_of (fun _ _ kz => jw_istore d_M_choose_146 (Nat.le_of_ble_eq_true rfl) kz) ?_
    dsimp only [List.set]
    refine jx_of (fun _ _ kz => jw_aload_n 0 d_M_choose_148 rfl rfl kz) ?_
    refine jx_of (fun _ _ kz => jw_getPe (some (52, 0)) fl_M_77 d_M_choose_149 rfl rfl (by simp [me_I_sI, me_I_sP, me_I_nx, me_P_sI, me_P_sP, me_P_nx, me_N_sI, me_N_sP, me_N_nx, me_L_sI, me_L_sP, me_L_nx, show me_P M 7 0 23 = some (52, 0) from hm.1 (7, 0, 23, 52, 0) (by decide)]) kz) ?_
    refine jx_of (fun _ _ kz => jw_iload d_M_choose_152 rfl kz) ?_
    refine jx_of (fun _ _ kz => jw_ialde (0) d_M_choose_154 rfl rfl (by rw [show me_L _ 52 0 = 3 from (by simp [me_I_sI, me_I_sP, me_I_nx, me_P_sI, me_P_sP, me_P_nx, me_N_sI, me_N_sP, me_N_nx, me_L_sI, me_L_sP, me_L_nx, show me_L M 52 0 = 3 from hm.2.1 (52, 0, 3) (by decide)])]; unfold vp_in; decide) (by simp [me_I_sI, me_I_sP, me_I_nx, me_P_sI, me_P_sP, me_P_nx, me_N_sI, me_N_sP, me_N_nx, me_L_sI, me_L_sP, me_L_nx, show me_I M 52 0 1 = 0 from hm.2.2 (52, 0, 1, 0) (by decide)]) kz) ?_
    refine jx_of (fun _ _ kz => jw_iconst 1 d_M_choose_155 (by decide) kz) ?_
    refine jx_of (fun _ _ kz => jw_iadd d_M_choose_156 kz) ?_
    rw [show (0 + 1 : Int32) = 1 from by decide]
    refine jx_of (fun _ _ kz => jw_iconst 2 d_M_choose_157 (by decide) kz) ?_
    refine jx_of (fun _ _ kz => jw_idiv d_M_choose_158 (by decide) kz) ?_
    rw [show (1 / 2 : Int32) = 0 from by decide]
    refine jx_of (fun _ _ kz => jw_istore d_M_choose_159 (Nat.le_of_ble_eq_true rfl) kz) ?_
    dsimp only [List.set]
    refine jx_of (fun _ _ kz => jw_iload d_M_choose_161 rfl kz) ?_
    refine jx_if_ne 169 d_M_choose_163 (by decide) (fun h => absurd h (by decide)) (fun _ => ?_)
    refine jx_of (fun _ _ kz => jw_goto 221 d_M_choose_166 (by decide) kz) ?_
    refine jx_of (fun _ _ kz => jw_iincc 1 d_M_choose_221 (by decide) rfl (Nat.le_of_ble_eq_true rfl) kz) ?_
    dsimp only [List.set]
    rw [show (1 + 1 : Int32) = 2 from by decide]
    refine jx_of (fun _ _ kz => jw_goto 134 d_M_choose_224 (by decide) kz) ?_
    refine jx_of (fun _ _ kz => jw_iload d_M_choose_134 rfl kz) ?_
    refine jx_of (fun _ _ kz => jw_iconst 3 d_M_choose_136 (by decide) kz) ?_
    refine jx_icmp_ge 227 d_M_choose_137 (by decide) (fun h => absurd h (by decide)) (fun _ => ?_)
    refine jx_of (fun _ _ kz => jw_iload_n 1 d_M_choose_140 rfl rfl kz) ?_
    refine jx_of (fun _ _ kz => jw_iload d_M_choose_141 rfl kz) ?_
    refine jx_of (fun _ _ kz => jw_iadd d_M_choose_143 kz) ?_
    rw [show (0 + 2 : Int32) = 2 from by decide]
    refine jx_of (fun _ _ kz => jw_iconst 3 d_M_choose_144 (by decide) kz) ?_
    refine jx_of (fun _ _ kz => jw_irem d_M_choose_145 (by decide) kz) ?_
    rw [show (2 - 2 / 3 * 3 : Int32) = 2 from by decide]
    refine jx_of (fun _ _ kz => jw_istore d_M_choose_146 (Nat.le_of_ble_eq_true rfl) kz) ?_
    dsimp only [List.set]
    refine jx_of (fun _ _ kz => jw_aload_n 0 d_M_choose_148 rfl rfl kz) ?_
    refine jx_of (fun _ _ kz => jw_getPe (some (52, 0)) fl_M_77 d_M_choose_149 rfl rfl (by simp [me_I_sI, me_I_sP, me_I_nx, me_P_sI, me_P_sP, me_P_nx, me_N_sI, me_N_sP, me_N_nx, me_L_sI, me_L_sP, me_L_nx, show me_P M 7 0 23 = some (52, 0) from hm.1 (7, 0, 23, 52, 0) (by decide)]) kz) ?_
    refine jx_of (fun _ _ kz => jw_iload d_M_choose_152 rfl kz) ?_
    refine jx_of (fun _ _ kz => jw_ialde (0) d_M_choose_154 rfl rfl (by rw [show me_L _ 52 0 = 3 from (by simp [me_I_sI, me_I_sP, me_I_nx, me_P_sI, me_P_sP, me_P_nx, me_N_sI, me_N_sP, me_N_nx, me_L_sI, me_L_sP, me_L_nx, show me_L M 52 0 = 3 from hm.2.1 (52, 0, 3) (by decide)])]; unfold vp_in; decide) (by simp [me_I_sI, me_I_sP, me_I_nx, me_P_sI, me_P_sP, me_P_nx, me_N_sI, me_N_sP, me_N_nx, me_L_sI, me_L_sP, me_L_nx, show me_I M 52 0 2 = 0 from hm.2.2 (52, 0, 2, 0) (by decide)]) kz) ?_
    refine jx_of (fun _ _ kz => jw_iconst 1 d_M_choose_155 (by decide) kz) ?_
    refine jx_of (fun _ _ kz => jw_iadd d_M_choose_156 kz) ?_
    rw [show (0 + 1 : Int32) = 1 from by decide]
    refine jx_of (fun _ _ kz => jw_iconst 2 d_M_choose_157 (by decide) kz) ?_
    refine jx_of (fun _ _ kz => jw_idiv d_M_choose_158 (by decide) kz) ?_
    rw [show (1 / 2 : Int32) = 0 from by decide]
    refine jx_of (fun _ _ kz => jw_istore d_M_choose_159 (Nat.le_of_ble_eq_true rfl) kz) ?_
    dsimp only [List.set]
    refine jx_of (fun _ _ kz => jw_iload d_M_choose_161 rfl kz) ?_
    refine jx_if_ne 169 d_M_choose_163 (by decide) (fun h => absurd h (by decide)) (fun _ => ?_)
    refine jx_of (fun _ _ kz => jw_goto 221 d_M_choose_166 (by decide) kz) ?_
    refine jx_of (fun _ _ kz => jw_iincc 1 d_M_choose_221 (by decide) rfl (Nat.le_of_ble_eq_true rfl) kz) ?_
    dsimp only [List.set]
    rw [show (2 + 1 : Int32) = 3 from by decide]
    refine jx_of (fun _ _ kz => jw_goto 134 d_M_choose_224 (by decide) kz) ?_
    refine jx_of (fun _ _ kz => jw_iload d_M_choose_134 rfl kz) ?_
    refine jx_of (fun _ _ kz => jw_iconst 3 d_M_choose_136 (by decide) kz) ?_
    refine jx_icmp_ge 227 d_M_choose_137 (by decide) (fun _ => ?_) (fun h => absurd h (by decide))
    refine jx_of (fun _ _ kz => jw_bipush (-2) d_M_choose_227 (by decide) kz) ?_
    refine jx_iret d_M_choose_229 rfl ?_
    first | exact ⟨rfl, rfl⟩ | exact ⟨by simp [b_22], rfl⟩ | exact ⟨by simp_all, by simp_all⟩
  · skip
    refine jx_of (fun _ _ kz => jw_aload_n 0 d_M_choose_25 rfl rfl kz) ?_
    refine jx_of (fun _ _ kz => jw_getIe (0) fl_M_119 d_M_choose_26 rfl rfl (by simp [me_I_sI, me_I_sP, me_I_nx, me_P_sI, me_P_sP, me_P_nx, me_N_sI, me_N_sP, me_N_nx, me_L_sI, me_L_sP, me_L_nx, show me_I M 7 0 28 = 0 from hm.2.2 (7, 0, 28, 0) (by decide)]) kz) ?_
    refine jx_if_le 37 d_M_choose_29 (by decide) (fun _ => ?_) (fun h => absurd h (by decide))
    refine jx_of (fun _ _ kz => jw_aload_n 0 d_M_choose_37 rfl rfl kz) ?_
    refine jx_of (fun _ _ kz => jw_getPe (some (52, 0)) fl_M_77 d_M_choose_38 rfl rfl (by simp [me_I_sI, me_I_sP, me_I_nx, me_P_sI, me_P_sP, me_P_nx, me_N_sI, me_N_sP, me_N_nx, me_L_sI, me_L_sP, me_L_nx, show me_P M 7 0 23 = some (52, 0) from hm.1 (7, 0, 23, 52, 0) (by decide)]) kz) ?_
    refine jx_of (fun _ _ kz => jw_iload_n 1 d_M_choose_41 rfl rfl kz) ?_
    refine jx_of (fun _ _ kz => jw_ialde (0) d_M_choose_42 rfl rfl (by rw [show me_L _ 52 0 = 3 from (by simp [me_I_sI, me_I_sP, me_I_nx, me_P_sI, me_P_sP, me_P_nx, me_N_sI, me_N_sP, me_N_nx, me_L_sI, me_L_sP, me_L_nx, show me_L M 52 0 = 3 from hm.2.1 (52, 0, 3) (by decide)])]; unfold vp_in; decide) (by simp [me_I_sI, me_I_sP, me_I_nx, me_P_sI, me_P_sP, me_P_nx, me_N_sI, me_N_sP, me_N_nx, me_L_sI, me_L_sP, me_L_nx, show me_I M 52 0 0 = 0 from hm.2.2 (52, 0, 0, 0) (by decide)]) kz) ?_
    refine jx_if_gt 53 d_M_choose_43 (by decide) (fun h => absurd h (by decide)) (fun _ => ?_)
    refine jx_of (fun _ _ kz => jw_aload_n 0 d_M_choose_46 rfl rfl kz) ?_
    refine jx_of (fun _ _ kz => jw_getIe (0) fl_M_119 d_M_choose_47 rfl rfl (by simp [me_I_sI, me_I_sP, me_I_nx, me_P_sI, me_P_sP, me_P_nx, me_N_sI, me_N_sP, me_N_nx, me_L_sI, me_L_sP, me_L_nx, show me_I M 7 0 28 = 0 from hm.2.2 (7, 0, 28, 0) (by decide)]) kz) ?_
    refine jx_if_le 57 d_M_choose_50 (by decide) (fun _ => ?_) (fun h => absurd h (by decide))
    refine jx_of (fun _ _ kz => jw_iconst 0 d_M_choose_57 (by decide) kz) ?_
    refine jx_of (fun _ _ kz => jw_istore_n 3 d_M_choose_58 rfl (Nat.le_of_ble_eq_true rfl) kz) ?_
    dsimp only [List.set]
    refine jx_of (fun _ _ kz => jw_aload_n 0 d_M_choose_59 rfl rfl kz) ?_
    refine jx_of (fun _ _ kz => jw_getPe (some (48, 0)) fl_M_65 d_M_choose_60 rfl rfl (by simp [me_I_sI, me_I_sP, me_I_nx, me_P_sI, me_P_sP, me_P_nx, me_N_sI, me_N_sP, me_N_nx, me_L_sI, me_L_sP, me_L_nx, show me_P M 7 0 19 = some (48, 0) from hm.1 (7, 0, 19, 48, 0) (by decide)]) kz) ?_
    refine jx_of (fun _ _ kz => jw_iload_n 1 d_M_choose_63 rfl rfl kz) ?_
    refine jx_of (fun _ _ kz => jw_ialde ((-1)) d_M_choose_64 rfl rfl (by rw [show me_L _ 48 0 = 3 from (by simp [me_I_sI, me_I_sP, me_I_nx, me_P_sI, me_P_sP, me_P_nx, me_N_sI, me_N_sP, me_N_nx, me_L_sI, me_L_sP, me_L_nx, show me_L M 48 0 = 3 from hm.2.1 (48, 0, 3) (by decide)])]; unfold vp_in; decide) (by simp [me_I_sI, me_I_sP, me_I_nx, me_P_sI, me_P_sP, me_P_nx, me_N_sI, me_N_sP, me_N_nx, me_L_sI, me_L_sP, me_L_nx, show me_I M 48 0 0 = (-1) from hm.2.2 (48, 0, 0, (-1)) (by decide)]) kz) ?_
    refine jx_if_lt 104 d_M_choose_65 (by decide) (fun _ => ?_) (fun h => absurd h (by decide))
    refine jx_of (fun _ _ kz => jw_aload_n 0 d_M_choose_104 rfl rfl kz) ?_
    refine jx_of (fun _ _ kz => jw_getPe (some (52, 0)) fl_M_77 d_M_choose_105 rfl rfl (by simp [me_I_sI, me_I_sP, me_I_nx, me_P_sI, me_P_sP, me_P_nx, me_N_sI, me_N_sP, me_N_nx, me_L_sI, me_L_sP, me_L_nx, show me_P M 7 0 23 = some (52, 0) from hm.1 (7, 0, 23, 52, 0) (by decide)]) kz) ?_
    refine jx_of (fun _ _ kz => jw_iload_n 1 d_M_choose_108 rfl rfl kz) ?_
    refine jx_of (fun _ _ kz => jw_ialde (0) d_M_choose_109 rfl rfl (by rw [show me_L _ 52 0 = 3 from (by simp [me_I_sI, me_I_sP, me_I_nx, me_P_sI, me_P_sP, me_P_nx, me_N_sI, me_N_sP, me_N_nx, me_L_sI, me_L_sP, me_L_nx, show me_L M 52 0 = 3 from hm.2.1 (52, 0, 3) (by decide)])]; unfold vp_in; decide) (by simp [me_I_sI, me_I_sP, me_I_nx, me_P_sI, me_P_sP, me_P_nx, me_N_sI, me_N_sP, me_N_nx, me_L_sI, me_L_sP, me_L_nx, show me_I M 52 0 0 = 0 from hm.2.2 (52, 0, 0, 0) (by decide)]) kz) ?_
    refine jx_if_le 119 d_M_choose_110 (by decide) (fun _ => ?_) (fun h => absurd h (by decide))
    refine jx_of (fun _ _ kz => jw_aload_n 0 d_M_choose_119 rfl rfl kz) ?_
    refine jx_of (fun _ _ kz => jw_getIe (0) fl_M_119 d_M_choose_120 rfl rfl (by simp [me_I_sI, me_I_sP, me_I_nx, me_P_sI, me_P_sP, me_P_nx, me_N_sI, me_N_sP, me_N_nx, me_L_sI, me_L_sP, me_L_nx, show me_I M 7 0 28 = 0 from hm.2.2 (7, 0, 28, 0) (by decide)]) kz) ?_
    refine jx_if_le 131 d_M_choose_123 (by decide) (fun _ => ?_) (fun h => absurd h (by decide))
    refine jx_of (fun _ _ kz => jw_iconst 1 d_M_choose_131 (by decide) kz) ?_
    refine jx_of (fun _ _ kz => jw_istore d_M_choose_132 (Nat.le_of_ble_eq_true rfl) kz) ?_
    dsimp only [List.set]
    refine jx_of (fun _ _ kz => jw_iload d_M_choose_134 rfl kz) ?_
    refine jx_of (fun _ _ kz => jw_iconst 3 d_M_choose_136 (by decide) kz) ?_
    refine jx_icmp_ge 227 d_M_choose_137 (by decide) (fun h => absurd h (by decide)) (fun _ => ?_)
    refine jx_of (fun _ _ kz => jw_iload_n 1 d_M_choose_140 rfl rfl kz) ?_
    refine jx_of (fun _ _ kz => jw_iload d_M_choose_141 rfl kz) ?_
    refine jx_of (fun _ _ kz => jw_iadd d_M_choose_143 kz) ?_
    rw [show (0 + 1 : Int32) = 1 from by decide]
    refine jx_of (fun _ _ kz => jw_iconst 3 d_M_choose_144 (by decide) kz) ?_
    refine jx_of (fun _ _ kz => jw_irem d_M_choose_145 (by decide) kz) ?_
    rw [show (1 - 1 / 3 * 3 : Int32) = 1 from by decide]
    refine jx_of (fun _ _ kz => jw_istore d_M_choose_146 (Nat.le_of_ble_eq_true rfl) kz) ?_
    dsimp only [List.set]
    refine jx_of (fun _ _ kz => jw_aload_n 0 d_M_choose_148 rfl rfl kz) ?_
    refine jx_of (fun _ _ kz => jw_getPe (some (52, 0)) fl_M_77 d_M_choose_149 rfl rfl (by simp [me_I_sI, me_I_sP, me_I_nx, me_P_sI, me_P_sP, me_P_nx, me_N_sI, me_N_sP, me_N_nx, me_L_sI, me_L_sP, me_L_nx, show me_P M 7 0 23 = some (52, 0) from hm.1 (7, 0, 23, 52, 0) (by decide)]) kz) ?_
    refine jx_of (fun _ _ kz => jw_iload d_M_choose_152 rfl kz) ?_
    refine jx_of (fun _ _ kz => jw_ialde (0) d_M_choose_154 rfl rfl (by rw [show me_L _ 52 0 = 3 from (by simp [me_I_sI, me_I_sP, me_I_nx, me_P_sI, me_P_sP, me_P_nx, me_N_sI, me_N_sP, me_N_nx, me_L_sI, me_L_sP, me_L_nx, show me_L M 52 0 = 3 from hm.2.1 (52, 0, 3) (by decide)])]; unfold vp_in; decide) (by simp [me_I_sI, me_I_sP, me_I_nx, me_P_sI, me_P_sP, me_P_nx, me_N_sI, me_N_sP, me_N_nx, me_L_sI, me_L_sP, me_L_nx, show me_I M 52 0 1 = 0 from hm.2.2 (52, 0, 1, 0) (by decide)]) kz) ?_
    refine jx_of (fun _ _ kz => jw_iconst 1 d_M_choose_155 (by decide) kz) ?_
    refine jx_of (fun _ _ kz => jw_iadd d_M_choose_156 kz) ?_
    rw [show (0 + 1 : Int32) = 1 from by decide]
    refine jx_of (fun _ _ kz => jw_iconst 2 d_M_choose_157 (by decide) kz) ?_
    refine jx_of (fun _ _ kz => jw_idiv d_M_choose_158 (by decide) kz) ?_
    rw [show (1 / 2 : Int32) = 0 from by decide]
    refine jx_of (fun _ _ kz => jw_istore d_M_choose_159 (Nat.le_of_ble_eq_true rfl) kz) ?_
    dsimp only [List.set]
    refine jx_of (fun _ _ kz => jw_iload d_M_choose_161 rfl kz) ?_
    refine jx_if_ne 169 d_M_choose_163 (by decide) (fun h => absurd h (by decide)) (fun _ => ?_)
    refine jx_of (fun _ _ kz => jw_goto 221 d_M_choose_166 (by decide) kz) ?_
    refine jx_of (fun _ _ kz => jw_iincc 1 d_M_choose_221 (by decide) rfl (Nat.le_of_ble_eq_true rfl) kz) ?_
    dsimp only [List.set]
    rw [show (1 + 1 : Int32) = 2 from by decide]
    refine jx_of (fun _ _ kz => jw_goto 134 d_M_choose_224 (by decide) kz) ?_
    refine jx_of (fun _ _ kz => jw_iload d_M_choose_134 rfl kz) ?_
    refine jx_of (fun _ _ kz => jw_iconst 3 d_M_choose_136 (by decide) kz) ?_
    refine jx_icmp_ge 227 d_M_choose_137 (by decide) (fun h => absurd h (by decide)) (fun _ => ?_)
    refine jx_of (fun _ _ kz => jw_iload_n 1 d_M_choose_140 rfl rfl kz) ?_
    refine jx_of (fun _ _ kz => jw_iload d_M_choose_141 rfl kz) ?_
    refine jx_of (fun _ _ kz => jw_iadd d_M_choose_143 kz) ?_
    rw [show (0 + 2 : Int32) = 2 from by decide]
    refine jx_of (fun _ _ kz => jw_iconst 3 d_M_choose_144 (by decide) kz) ?_
    refine jx_of (fun _ _ kz => jw_irem d_M_choose_145 (by decide) kz) ?_
    rw [show (2 - 2 / 3 * 3 : Int32) = 2 from by decide]
    refine jx_of (fun _ _ kz => jw_istore d_M_choose_146 (Nat.le_of_ble_eq_true rfl) kz) ?_
    dsimp only [List.set]
    refine jx_of (fun _ _ kz => jw_aload_n 0 d_M_choose_148 rfl rfl kz) ?_
    refine jx_of (fun _ _ kz => jw_getPe (some (52, 0)) fl_M_77 d_M_choose_149 rfl rfl (by simp [me_I_sI, me_I_sP, me_I_nx, me_P_sI, me_P_sP, me_P_nx, me_N_sI, me_N_sP, me_N_nx, me_L_sI, me_L_sP, me_L_nx, show me_P M 7 0 23 = some (52, 0) from hm.1 (7, 0, 23, 52, 0) (by decide)]) kz) ?_
    refine jx_of (fun _ _ kz => jw_iload d_M_choose_152 rfl kz) ?_
    refine jx_of (fun _ _ kz => jw_ialde (0) d_M_choose_154 rfl rfl (by rw [show me_L _ 52 0 = 3 from (by simp [me_I_sI, me_I_sP, me_I_nx, me_P_sI, me_P_sP, me_P_nx, me_N_sI, me_N_sP, me_N_nx, me_L_sI, me_L_sP, me_L_nx, show me_L M 52 0 = 3 from hm.2.1 (52, 0, 3) (by decide)])]; unfold vp_in; decide) (by simp [me_I_sI, me_I_sP, me_I_nx, me_P_sI, me_P_sP, me_P_nx, me_N_sI, me_N_sP, me_N_nx, me_L_sI, me_L_sP, me_L_nx, show me_I M 52 0 2 = 0 from hm.2.2 (52, 0, 2, 0) (by decide)]) kz) ?_
    refine jx_of (fun _ _ kz => jw_iconst 1 d_M_choose_155 (by decide) kz) ?_
    refine jx_of (fun _ _ kz => jw_iadd d_M_choose_156 kz) ?_
    rw [show (0 + 1 : Int32) = 1 from by decide]
    refine jx_of (fun _ _ kz => jw_iconst 2 d_M_choose_157 (by decide) kz) ?_
    refine jx_of (fun _ _ kz => jw_idiv d_M_choose_158 (by decide) kz) ?_
    rw [show (1 / 2 : Int32) = 0 from by decide]
    refine jx_of (fun _ _ kz => jw_istore d_M_choose_159 (Nat.le_of_ble_eq_true rfl) kz) ?_
    dsimp only [List.set]
    refine jx_of (fun _ _ kz => jw_iload d_M_choose_161 rfl kz) ?_
    refine jx_if_ne 169 d_M_choose_163 (by decide) (fun h => absurd h (by decide)) (fun _ => ?_)
    refine jx_of (fun _ _ kz => jw_goto 221 d_M_choose_166 (by decide) kz) ?_
    refine jx_of (fun _ _ kz => jw_iincc 1 d_M_choose_221 (by decide) rfl (Nat.le_of_ble_eq_true rfl) kz) ?_
    dsimp only [List.set]
    rw [show (2 + 1 : Int32) = 3 from by decide]
    refine jx_of (fun _ _ kz => jw_goto 134 d_M_choose_224 (by decide) kz) ?_
    refine jx_of (fun _ _ kz => jw_iload d_M_choose_134 rfl kz) ?_
    refine jx_of (fun _ _ kz => jw_iconst 3 d_M_choose_136 (by decide) kz) ?_
    refine jx_icmp_ge 227 d_M_choose_137 (by decide) (fun _ => ?_) (fun h => absurd h (by decide))
    refine jx_of (fun _ _ kz => jw_bipush (-2) d_M_choose_227 (by decide) kz) ?_
    refine jx_iret d_M_choose_229 rfl ?_
    first | exact ⟨rfl, rfl⟩ | exact ⟨by simp [b_22], rfl⟩ | exact ⟨by simp_all, by simp_all⟩
set_option maxRecDepth 20000 in
set_option maxHeartbeats 4000000 in
theorem x_M_turn_0 {G : Gt} {M : Me} (d : Nat) (hm : mid M) : sx G yt_M_turn yn_M_turn (d + 2) [.inr (some (7, 0)), .inl 0] M (fun r M' => r = some (.inl (-2)) ∧ mid M' ∧ me_I M' 7 0 32 = me_I M 7 0 32 ∧ nC M M') := by
  refine sx_of (k := 1) (lc := [some (.inr (some (7, 0))), some (.inl 0), none]) mt_M_turn (Nat.le_of_ble_eq_true rfl) rfl ?_
  refine jx_of (fun _ _ kz => jw_iload_n 1 d_M_turn_0 rfl rfl kz) ?_
  refine jx_of (fun _ _ kz => jw_iconst 0 d_M_turn_1 (by decide) kz) ?_
  refine jx_of (fun _ _ kz => jw_iconst 2 d_M_turn_2 (by decide) kz) ?_
  refine jx_callS (x_M_is_t _ 0 0 2  (by decide) (by decide)) mt_M_is ml_M_93 sm_M_is d_M_turn_3 rfl rfl (Nat.le_of_ble_eq_true rfl) ?_
  rintro _ _ ⟨rfl, rfl⟩
  refine jx_eq (st2 := [.inl 1]) rfl rfl rfl ?_
  refine jx_if_ne 11 d_M_turn_6 (by decide) (fun _ => ?_) (fun h => absurd h (by decide))
  refine jx_of (fun _ _ kz => jw_aload_n 0 d_M_turn_11 rfl rfl kz) ?_
  refine jx_of (fun _ _ kz => jw_getPe (some (49, 0)) fl_M_68 d_M_turn_12 rfl rfl (by simp [me_I_sI, me_I_sP, me_I_nx, me_P_sI, me_P_sP, me_P_nx, me_N_sI, me_N_sP, me_N_nx, me_L_sI, me_L_sP, me_L_nx, show me_P M 7 0 20 = some (49, 0) from hm.1 (7, 0, 20, 49, 0) (by decide)]) kz) ?_
  refine jx_of (fun _ _ kz => jw_iload_n 1 d_M_turn_15 rfl rfl kz) ?_
  refine jx_of (fun _ _ kz => jw_dup2 d_M_turn_16 kz) ?_
  refine jx_of (fun _ _ kz => jw_ialde (me_I M 49 0 0) d_M_turn_17 rfl rfl (by rw [show me_L _ 49 0 = 3 from (by simp [me_I_sI, me_I_sP, me_I_nx, me_P_sI, me_P_sP, me_P_nx, me_N_sI, me_N_sP, me_N_nx, me_L_sI, me_L_sP, me_L_nx, show me_L M 49 0 = 3 from hm.2.1 (49, 0, 3) (by decide)])]; unfold vp_in; decide) (by simp [me_I_sI, me_I_sP, me_I_nx, me_P_sI, me_P_sP, me_P_nx, me_N_sI, me_N_sP, me_N_nx, me_L_sI, me_L_sP, me_L_nx]) kz) ?_
  refine jx_of (fun _ _ kz => jw_iconst 1 d_M_turn_18 (by decide) kz) ?_
  refine jx_of (fun _ _ kz => jw_iadd d_M_turn_19 kz) ?_
  refine jx_of (fun _ _ kz => jw_iast d_M_turn_20 rfl rfl (by rw [show me_L _ 49 0 = 3 from (by simp [me_I_sI, me_I_sP, me_I_nx, me_P_sI, me_P_sP, me_P_nx, me_N_sI, me_N_sP, me_N_nx, me_L_sI, me_L_sP, me_L_nx, show me_L M 49 0 = 3 from hm.2.1 (49, 0, 3) (by decide)])]; unfold vp_in; decide) kz) ?_
  rw [show Int32.toNatClampNeg 0 = 0 from by decide]
  refine jx_of (fun _ _ kz => jw_aload_n 0 d_M_turn_21 rfl rfl kz) ?_
  refine jx_of (fun _ _ kz => jw_iload_n 1 d_M_turn_22 rfl rfl kz) ?_
  refine jx_callV (x_M_choose_0 _  (mid_sN hm (by decide))) mt_M_choose cf_M rfl rfl ml_M_214 im_M_choose se_M_choose d_M_turn_23 rfl rfl (Nat.le_of_ble_eq_true rfl) ?_
  rintro _ _ ⟨rfl, rfl⟩
  refine jx_eq (st2 := [.inl ((-2))]) rfl rfl rfl ?_
  refine jx_of (fun _ _ kz => jw_istore_n 2 d_M_turn_26 rfl (Nat.le_of_ble_eq_true rfl) kz) ?_
  dsimp only [List.set]
  refine jx_of (fun _ _ kz => jw_iload_n 2 d_M_turn_27 rfl rfl kz) ?_
  refine jx_if_ge 34 d_M_turn_28 (by decide) (fun h => absurd h (by decide)) (fun _ => ?_)
  refine jx_of (fun _ _ kz => jw_bipush (-2) d_M_turn_31 (by decide) kz) ?_
  refine jx_iret d_M_turn_33 rfl ?_
  exact ⟨rfl, mid_sI (mid_sN hm (by decide)) (by decide), by simp [me_I_sI], rfl, rfl⟩
set_option maxRecDepth 20000 in
set_option maxHeartbeats 4000000 in
theorem x_M_choose_1 {G : Gt} {M : Me} (d : Nat) (hm : mid M) : sx G yt_M_choose yn_M_choose (d + 1) [.inr (some (7, 0)), .inl 1] M (fun r M' => r = some (.inl ((-2))) ∧ (me_sI M 50 0 1 (0)) = M') := by
  refine sx_of (k := 8) (lc := [some (.inr (some (7, 0))), some (.inl 1), none, none, none, none, none, none, none, none]) mt_M_choose (Nat.le_of_ble_eq_true rfl) rfl ?_
  refine jx_of (fun _ _ kz => jw_aload_n 0 d_M_choose_0 rfl rfl kz) ?_
  refine jx_of (fun _ _ kz => jw_getPe (some (50, 0)) fl_M_71 d_M_choose_1 rfl rfl (by simp [me_I_sI, me_I_sP, me_I_nx, me_P_sI, me_P_sP, me_P_nx, me_N_sI, me_N_sP, me_N_nx, me_L_sI, me_L_sP, me_L_nx, show me_P M 7 0 21 = some (50, 0) from hm.1 (7, 0, 21, 50, 0) (by decide)]) kz) ?_
  refine jx_of (fun _ _ kz => jw_iload_n 1 d_M_choose_4 rfl rfl kz) ?_
  refine jx_of (fun _ _ kz => jw_ialde (0) d_M_choose_5 rfl rfl (by rw [show me_L _ 50 0 = 3 from (by simp [me_I_sI, me_I_sP, me_I_nx, me_P_sI, me_P_sP, me_P_nx, me_N_sI, me_N_sP, me_N_nx, me_L_sI, me_L_sP, me_L_nx, show me_L M 50 0 = 3 from hm.2.1 (50, 0, 3) (by decide)])]; unfold vp_in; decide) (by simp [me_I_sI, me_I_sP, me_I_nx, me_P_sI, me_P_sP, me_P_nx, me_N_sI, me_N_sP, me_N_nx, me_L_sI, me_L_sP, me_L_nx, show me_I M 50 0 1 = 0 from hm.2.2 (50, 0, 1, 0) (by decide)]) kz) ?_
  refine jx_of (fun _ _ kz => jw_istore_n 2 d_M_choose_6 rfl (Nat.le_of_ble_eq_true rfl) kz) ?_
  dsimp only [List.set]
  refine jx_of (fun _ _ kz => jw_aload_n 0 d_M_choose_7 rfl rfl kz) ?_
  refine jx_of (fun _ _ kz => jw_getPe (some (50, 0)) fl_M_71 d_M_choose_8 rfl rfl (by simp [me_I_sI, me_I_sP, me_I_nx, me_P_sI, me_P_sP, me_P_nx, me_N_sI, me_N_sP, me_N_nx, me_L_sI, me_L_sP, me_L_nx, show me_P M 7 0 21 = some (50, 0) from hm.1 (7, 0, 21, 50, 0) (by decide)]) kz) ?_
  refine jx_of (fun _ _ kz => jw_iload_n 1 d_M_choose_11 rfl rfl kz) ?_
  refine jx_of (fun _ _ kz => jw_iconst 0 d_M_choose_12 (by decide) kz) ?_
  refine jx_of (fun _ _ kz => jw_iast d_M_choose_13 rfl rfl (by rw [show me_L _ 50 0 = 3 from (by simp [me_I_sI, me_I_sP, me_I_nx, me_P_sI, me_P_sP, me_P_nx, me_N_sI, me_N_sP, me_N_nx, me_L_sI, me_L_sP, me_L_nx, show me_L M 50 0 = 3 from hm.2.1 (50, 0, 3) (by decide)])]; unfold vp_in; decide) kz) ?_
  rw [show Int32.toNatClampNeg 1 = 1 from by decide]
  refine jx_of (fun _ _ kz => jw_aload_n 0 d_M_choose_14 rfl rfl kz) ?_
  refine jx_of (fun _ _ kz => jw_getPe (some (49, 0)) fl_M_68 d_M_choose_15 rfl rfl (by simp [me_I_sI, me_I_sP, me_I_nx, me_P_sI, me_P_sP, me_P_nx, me_N_sI, me_N_sP, me_N_nx, me_L_sI, me_L_sP, me_L_nx, show me_P M 7 0 20 = some (49, 0) from hm.1 (7, 0, 20, 49, 0) (by decide)]) kz) ?_
  refine jx_of (fun _ _ kz => jw_iload_n 1 d_M_choose_18 rfl rfl kz) ?_
  refine jx_of (fun _ _ kz => jw_ialde (me_I M 49 0 1) d_M_choose_19 rfl rfl (by rw [show me_L _ 49 0 = 3 from (by simp [me_I_sI, me_I_sP, me_I_nx, me_P_sI, me_P_sP, me_P_nx, me_N_sI, me_N_sP, me_N_nx, me_L_sI, me_L_sP, me_L_nx, show me_L M 49 0 = 3 from hm.2.1 (49, 0, 3) (by decide)])]; unfold vp_in; decide) (by simp [me_I_sI, me_I_sP, me_I_nx, me_P_sI, me_P_sP, me_P_nx, me_N_sI, me_N_sP, me_N_nx, me_L_sI, me_L_sP, me_L_nx]) kz) ?_
  refine jx_of (fun _ _ kz => jw_iconst 5 d_M_choose_20 (by decide) kz) ?_
  refine jx_of (fun _ _ kz => jw_irem d_M_choose_21 (by decide) kz) ?_
  refine jx_if_ne 37 d_M_choose_22 (by decide) (fun b_22 => ?_) (fun b_22 => ?_)
  · skip
    refine jx_of (fun _ _ kz => jw_aload_n 0 d_M_choose_37 rfl rfl kz) ?_
    refine jx_of (fun _ _ kz => jw_getPe (some (52, 0)) fl_M_77 d_M_choose_38 rfl rfl (by simp [me_I_sI, me_I_sP, me_I_nx, me_P_sI, me_P_sP, me_P_nx, me_N_sI, me_N_sP, me_N_nx, me_L_sI, me_L_sP, me_L_nx, show me_P M 7 0 23 = some (52, 0) from hm.1 (7, 0, 23, 52, 0) (by decide)]) kz) ?_
    refine jx_of (fun _ _ kz => jw_iload_n 1 d_M_choose_41 rfl rfl kz) ?_
    refine jx_of (fun _ _ kz => jw_ialde (0) d_M_choose_42 rfl rfl (by rw [show me_L _ 52 0 = 3 from (by simp [me_I_sI, me_I_sP, me_I_nx, me_P_sI, me_P_sP, me_P_nx, me_N_sI, me_N_sP, me_N_nx, me_L_sI, me_L_sP, me_L_nx, show me_L M 52 0 = 3 from hm.2.1 (52, 0, 3) (by decide)])]; unfold vp_in; decide) (by simp [me_I_sI, me_I_sP, me_I_nx, me_P_sI, me_P_sP, me_P_nx, me_N_sI, me_N_sP, me_N_nx, me_L_sI, me_L_sP, me_L_nx, show me_I M 52 0 1 = 0 from hm.2.2 (52, 0, 1, 0) (by decide)]) kz) ?_
    refine jx_if_gt 53 d_M_choose_43 (by decide) (fun h => absurd h (by decide)) (fun _ => ?_)
    refine jx_of (fun _ _ kz => jw_aload_n 0 d_M_choose_46 rfl rfl kz) ?_
    refine jx_of (fun _ _ kz => jw_getIe (0) fl_M_119 d_M_choose_47 rfl rfl (by simp [me_I_sI, me_I_sP, me_I_nx, me_P_sI, me_P_sP, me_P_nx, me_N_sI, me_N_sP, me_N_nx, me_L_sI, me_L_sP, me_L_nx, show me_I M 7 0 28 = 0 from hm.2.2 (7, 0, 28, 0) (by decide)]) kz) ?_
    refine jx_if_le 57 d_M_choose_50 (by decide) (fun _ => ?_) (fun h => absurd h (by decide))
    refine jx_of (fun _ _ kz => jw_iconst 0 d_M_choose_57 (by decide) kz) ?_
    refine jx_of (fun _ _ kz => jw_istore_n 3 d_M_choose_58 rfl (Nat.le_of_ble_eq_true rfl) kz) ?_
    dsimp only [List.set]
    refine jx_of (fun _ _ kz => jw_aload_n 0 d_M_choose_59 rfl rfl kz) ?_
    refine jx_of (fun _ _ kz => jw_getPe (some (48, 0)) fl_M_65 d_M_choose_60 rfl rfl (by simp [me_I_sI, me_I_sP, me_I_nx, me_P_sI, me_P_sP, me_P_nx, me_N_sI, me_N_sP, me_N_nx, me_L_sI, me_L_sP, me_L_nx, show me_P M 7 0 19 = some (48, 0) from hm.1 (7, 0, 19, 48, 0) (by decide)]) kz) ?_
    refine jx_of (fun _ _ kz => jw_iload_n 1 d_M_choose_63 rfl rfl kz) ?_
    refine jx_of (fun _ _ kz => jw_ialde ((-1)) d_M_choose_64 rfl rfl (by rw [show me_L _ 48 0 = 3 from (by simp [me_I_sI, me_I_sP, me_I_nx, me_P_sI, me_P_sP, me_P_nx, me_N_sI, me_N_sP, me_N_nx, me_L_sI, me_L_sP, me_L_nx, show me_L M 48 0 = 3 from hm.2.1 (48, 0, 3) (by decide)])]; unfold vp_in; decide) (by simp [me_I_sI, me_I_sP, me_I_nx, me_P_sI, me_P_sP, me_P_nx, me_N_sI, me_N_sP, me_N_nx, me_L_sI, me_L_sP, me_L_nx, show me_I M 48 0 1 = (-1) from hm.2.2 (48, 0, 1, (-1)) (by decide)]) kz) ?_
    refine jx_if_lt 104 d_M_choose_65 (by decide) (fun _ => ?_) (fun h => absurd h (by decide))
    refine jx_of (fun _ _ kz => jw_aload_n 0 d_M_choose_104 rfl rfl kz) ?_
    refine jx_of (fun _ _ kz => jw_getPe (some (52, 0)) fl_M_77 d_M_choose_105 rfl rfl (by simp [me_I_sI, me_I_sP, me_I_nx, me_P_sI, me_P_sP, me_P_nx, me_N_sI, me_N_sP, me_N_nx, me_L_sI, me_L_sP, me_L_nx, show me_P M 7 0 23 = some (52, 0) from hm.1 (7, 0, 23, 52, 0) (by decide)]) kz) ?_
    refine jx_of (fun _ _ kz => jw_iload_n 1 d_M_choose_108 rfl rfl kz) ?_
    refine jx_of (fun _ _ kz => jw_ialde (0) d_M_choose_109 rfl rfl (by rw [show me_L _ 52 0 = 3 from (by simp [me_I_sI, me_I_sP, me_I_nx, me_P_sI, me_P_sP, me_P_nx, me_N_sI, me_N_sP, me_N_nx, me_L_sI, me_L_sP, me_L_nx, show me_L M 52 0 = 3 from hm.2.1 (52, 0, 3) (by decide)])]; unfold vp_in; decide) (by simp [me_I_sI, me_I_sP, me_I_nx, me_P_sI, me_P_sP, me_P_nx, me_N_sI, me_N_sP, me_N_nx, me_L_sI, me_L_sP, me_L_nx, show me_I M 52 0 1 = 0 from hm.2.2 (52, 0, 1, 0) (by decide)]) kz) ?_
    refine jx_if_le 119 d_M_choose_110 (by decide) (fun _ => ?_) (fun h => absurd h (by decide))
    refine jx_of (fun _ _ kz => jw_aload_n 0 d_M_choose_119 rfl rfl kz) ?_
    refine jx_of (fun _ _ kz => jw_getIe (0) fl_M_119 d_M_choose_120 rfl rfl (by simp [me_I_sI, me_I_sP, me_I_nx, me_P_sI, me_P_sP, me_P_nx, me_N_sI, me_N_sP, me_N_nx, me_L_sI, me_L_sP, me_L_nx, show me_I M 7 0 28 = 0 from hm.2.2 (7, 0, 28, 0) (by decide)]) kz) ?_
    refine jx_if_le 131 d_M_choose_123 (by decide) (fun _ => ?_) (fun h => absurd h (by decide))
    refine jx_of (fun _ _ kz => jw_iconst 1 d_M_choose_131 (by decide) kz) ?_
    refine jx_of (fun _ _ kz => jw_istore d_M_choose_132 (Nat.le_of_ble_eq_true rfl) kz) ?_
    dsimp only [List.set]
    refine jx_of (fun _ _ kz => jw_iload d_M_choose_134 rfl kz) ?_
    refine jx_of (fun _ _ kz => jw_iconst 3 d_M_choose_136 (by decide) kz) ?_
    refine jx_icmp_ge 227 d_M_choose_137 (by decide) (fun h => absurd h (by decide)) (fun _ => ?_)
    refine jx_of (fun _ _ kz => jw_iload_n 1 d_M_choose_140 rfl rfl kz) ?_
    refine jx_of (fun _ _ kz => jw_iload d_M_choose_141 rfl kz) ?_
    refine jx_of (fun _ _ kz => jw_iadd d_M_choose_143 kz) ?_
    rw [show (1 + 1 : Int32) = 2 from by decide]
    refine jx_of (fun _ _ kz => jw_iconst 3 d_M_choose_144 (by decide) kz) ?_
    refine jx_of (fun _ _ kz => jw_irem d_M_choose_145 (by decide) kz) ?_
    rw [show (2 - 2 / 3 * 3 : Int32) = 2 from by decide]
    refine jx_of (fun _ _ kz => jw_istore d_M_choose_146 (Nat.le_of_ble_eq_true rfl) kz) ?_
    dsimp only [List.set]
    refine jx_of (fun _ _ kz => jw_aload_n 0 d_M_choose_148 rfl rfl kz) ?_
    refine jx_of (fun _ _ kz => jw_getPe (some (52, 0)) fl_M_77 d_M_choose_149 rfl rfl (by simp [me_I_sI, me_I_sP, me_I_nx, me_P_sI, me_P_sP, me_P_nx, me_N_sI, me_N_sP, me_N_nx, me_L_sI, me_L_sP, me_L_nx, show me_P M 7 0 23 = some (52, 0) from hm.1 (7, 0, 23, 52, 0) (by decide)]) kz) ?_
    refine jx_of (fun _ _ kz => jw_iload d_M_choose_152 rfl kz) ?_
    refine jx_of (fun _ _ kz => jw_ialde (0) d_M_choose_154 rfl rfl (by rw [show me_L _ 52 0 = 3 from (by simp [me_I_sI, me_I_sP, me_I_nx, me_P_sI, me_P_sP, me_P_nx, me_N_sI, me_N_sP, me_N_nx, me_L_sI, me_L_sP, me_L_nx, show me_L M 52 0 = 3 from hm.2.1 (52, 0, 3) (by decide)])]; unfold vp_in; decide) (by simp [me_I_sI, me_I_sP, me_I_nx, me_P_sI, me_P_sP, me_P_nx, me_N_sI, me_N_sP, me_N_nx, me_L_sI, me_L_sP, me_L_nx, show me_I M 52 0 2 = 0 from hm.2.2 (52, 0, 2, 0) (by decide)]) kz) ?_
    refine jx_of (fun _ _ kz => jw_iconst 1 d_M_choose_155 (by decide) kz) ?_
    refine jx_of (fun _ _ kz => jw_iadd d_M_choose_156 kz) ?_
    rw [show (0 + 1 : Int32) = 1 from by decide]
    refine jx_of (fun _ _ kz => jw_iconst 2 d_M_choose_157 (by decide) kz) ?_
    refine jx_of (fun _ _ kz => jw_idiv d_M_choose_158 (by decide) kz) ?_
    rw [show (1 / 2 : Int32) = 0 from by decide]
    refine jx_of (fun _ _ kz => jw_istore d_M_choose_159 (Nat.le_of_ble_eq_true rfl) kz) ?_
    dsimp only [List.set]
    refine jx_of (fun _ _ kz => jw_iload d_M_choose_161 rfl kz) ?_
    refine jx_if_ne 169 d_M_choose_163 (by decide) (fun h => absurd h (by decide)) (fun _ => ?_)
    refine jx_of (fun _ _ kz => jw_goto 221 d_M_choose_166 (by decide) kz) ?_
    refine jx_of (fun _ _ kz => jw_iincc 1 d_M_choose_221 (by decide) rfl (Nat.le_of_ble_eq_true rfl) kz) ?_
    dsimp only [List.set]
    rw [show (1 + 1 : Int32) = 2 from by decide]
    refine jx_of (fun _ _ kz => jw_goto 134 d_M_choose_224 (by decide) kz) ?_
    refine jx_of (fun _ _ kz => jw_iload d_M_choose_134 rfl kz) ?_
    refine jx_of (fun _ _ kz => jw_iconst 3 d_M_choose_136 (by decide) kz) ?_
    refine jx_icmp_ge 227 d_M_choose_137 (by decide) (fun h => absurd h (by decide)) (fun _ => ?_)
    refine jx_of (fun _ _ kz => jw_iload_n 1 d_M_choose_140 rfl rfl kz) ?_
    refine jx_of (fun _ _ kz => jw_iload d_M_choose_141 rfl kz) ?_
    refine jx_of (fun _ _ kz => jw_iadd d_M_choose_143 kz) ?_
    rw [show (1 + 2 : Int32) = 3 from by decide]
    refine jx_of (fun _ _ kz => jw_iconst 3 d_M_choose_144 (by decide) kz) ?_
    refine jx_of (fun _ _ kz => jw_irem d_M_choose_145 (by decide) kz) ?_
    rw [show (3 - 3 / 3 * 3 : Int32) = 0 from by decide]
    refine jx_of (fun _ _ kz => jw_istore d_M_choose_146 (Nat.le_of_ble_eq_true rfl) kz) ?_
    dsimp only [List.set]
    refine jx_of (fun _ _ kz => jw_aload_n 0 d_M_choose_148 rfl rfl kz) ?_
    refine jx_of (fun _ _ kz => jw_getPe (some (52, 0)) fl_M_77 d_M_choose_149 rfl rfl (by simp [me_I_sI, me_I_sP, me_I_nx, me_P_sI, me_P_sP, me_P_nx, me_N_sI, me_N_sP, me_N_nx, me_L_sI, me_L_sP, me_L_nx, show me_P M 7 0 23 = some (52, 0) from hm.1 (7, 0, 23, 52, 0) (by decide)]) kz) ?_
    refine jx_of (fun _ _ kz => jw_iload d_M_choose_152 rfl kz) ?_
    refine jx_of (fun _ _ kz => jw_ialde (0) d_M_choose_154 rfl rfl (by rw [show me_L _ 52 0 = 3 from (by simp [me_I_sI, me_I_sP, me_I_nx, me_P_sI, me_P_sP, me_P_nx, me_N_sI, me_N_sP, me_N_nx, me_L_sI, me_L_sP, me_L_nx, show me_L M 52 0 = 3 from hm.2.1 (52, 0, 3) (by decide)])]; unfold vp_in; decide) (by simp [me_I_sI, me_I_sP, me_I_nx, me_P_sI, me_P_sP, me_P_nx, me_N_sI, me_N_sP, me_N_nx, me_L_sI, me_L_sP, me_L_nx, show me_I M 52 0 0 = 0 from hm.2.2 (52, 0, 0, 0) (by decide)]) kz) ?_
    refine jx_of (fun _ _ kz => jw_iconst 1 d_M_choose_155 (by decide) kz) ?_
    refine jx_of (fun _ _ kz => jw_iadd d_M_choose_156 kz) ?_
    rw [show (0 + 1 : Int32) = 1 from by decide]
    refine jx_of (fun _ _ kz => jw_iconst 2 d_M_choose_157 (by decide) kz) ?_
    refine jx_of (fun _ _ kz => jw_idiv d_M_choose_158 (by decide) kz) ?_
    rw [show (1 / 2 : Int32) = 0 from by decide]
    refine jx_of (fun _ _ kz => jw_istore d_M_choose_159 (Nat.le_of_ble_eq_true rfl) kz) ?_
    dsimp only [List.set]
    refine jx_of (fun _ _ kz => jw_iload d_M_choose_161 rfl kz) ?_
    refine jx_if_ne 169 d_M_choose_163 (by decide) (fun h => absurd h (by decide)) (fun _ => ?_)
    refine jx_of (fun _ _ kz => jw_goto 221 d_M_choose_166 (by decide) kz) ?_
    refine jx_of (fun _ _ kz => jw_iincc 1 d_M_choose_221 (by decide) rfl (Nat.le_of_ble_eq_true rfl) kz) ?_
    dsimp only [List.set]
    rw [show (2 + 1 : Int32) = 3 from by decide]
    refine jx_of (fun _ _ kz => jw_goto 134 d_M_choose_224 (by decide) kz) ?_
    refine jx_of (fun _ _ kz => jw_iload d_M_choose_134 rfl kz) ?_
    refine jx_of (fun _ _ kz => jw_iconst 3 d_M_choose_136 (by decide) kz) ?_
    refine jx_icmp_ge 227 d_M_choose_137 (by decide) (fun _ => ?_) (fun h => absurd h (by decide))
    refine jx_of (fun _ _ kz => jw_bipush (-2) d_M_choose_227 (by decide) kz) ?_
    refine jx_iret d_M_choose_229 rfl ?_
    first | exact ⟨rfl, rfl⟩ | exact ⟨by simp [b_22], rfl⟩ | exact ⟨by simp_all, by simp_all⟩
  · skip
    refine jx_of (fun _ _ kz => jw_aload_n 0 d_M_choose_25 rfl rfl kz) ?_
    refine jx_of (fun _ _ kz => jw_getIe (0) fl_M_119 d_M_choose_26 rfl rfl (by simp [me_I_sI, me_I_sP, me_I_nx, me_P_sI, me_P_sP, me_P_nx, me_N_sI, me_N_sP, me_N_nx, me_L_sI, me_L_sP, me_L_nx, show me_I M 7 0 28 = 0 from hm.2.2 (7, 0, 28, 0) (by decide)]) kz) ?_
    refine jx_if_le 37 d_M_choose_29 (by decide) (fun _ => ?_) (fun h => absurd h (by decide))
    refine jx_of (fun _ _ kz => jw_aload_n 0 d_M_choose_37 rfl rfl kz) ?_
    refine jx_of (fun _ _ kz => jw_getPe (some (52, 0)) fl_M_77 d_M_choose_38 rfl rfl (by simp [me_I_sI, me_I_sP, me_I_nx, me_P_sI, me_P_sP, me_P_nx, me_N_sI, me_N_sP, me_N_nx, me_L_sI, me_L_sP, me_L_nx, show me_P M 7 0 23 = some (52, 0) from hm.1 (7, 0, 23, 52, 0) (by decide)]) kz) ?_
    refine jx_of (fun _ _ kz => jw_iload_n 1 d_M_choose_41 rfl rfl kz) ?_
    refine jx_of (fun _ _ kz => jw_ialde (0) d_M_choose_42 rfl rfl (by rw [show me_L _ 52 0 = 3 from (by simp [me_I_sI, me_I_sP, me_I_nx, me_P_sI, me_P_sP, me_P_nx, me_N_sI, me_N_sP, me_N_nx, me_L_sI, me_L_sP, me_L_nx, show me_L M 52 0 = 3 from hm.2.1 (52, 0, 3) (by decide)])]; unfold vp_in; decide) (by simp [me_I_sI, me_I_sP, me_I_nx, me_P_sI, me_P_sP, me_P_nx, me_N_sI, me_N_sP, me_N_nx, me_L_sI, me_L_sP, me_L_nx, show me_I M 52 0 1 = 0 from hm.2.2 (52, 0, 1, 0) (by decide)]) kz) ?_
    refine jx_if_gt 53 d_M_choose_43 (by decide) (fun h => absurd h (by decide)) (fun _ => ?_)
    refine jx_of (fun _ _ kz => jw_aload_n 0 d_M_choose_46 rfl rfl kz) ?_
    refine jx_of (fun _ _ kz => jw_getIe (0) fl_M_119 d_M_choose_47 rfl rfl (by simp [me_I_sI, me_I_sP, me_I_nx, me_P_sI, me_P_sP, me_P_nx, me_N_sI, me_N_sP, me_N_nx, me_L_sI, me_L_sP, me_L_nx, show me_I M 7 0 28 = 0 from hm.2.2 (7, 0, 28, 0) (by decide)]) kz) ?_
    refine jx_if_le 57 d_M_choose_50 (by decide) (fun _ => ?_) (fun h => absurd h (by decide))
    refine jx_of (fun _ _ kz => jw_iconst 0 d_M_choose_57 (by decide) kz) ?_
    refine jx_of (fun _ _ kz => jw_istore_n 3 d_M_choose_58 rfl (Nat.le_of_ble_eq_true rfl) kz) ?_
    dsimp only [List.set]
    refine jx_of (fun _ _ kz => jw_aload_n 0 d_M_choose_59 rfl rfl kz) ?_
    refine jx_of (fun _ _ kz => jw_getPe (some (48, 0)) fl_M_65 d_M_choose_60 rfl rfl (by simp [me_I_sI, me_I_sP, me_I_nx, me_P_sI, me_P_sP, me_P_nx, me_N_sI, me_N_sP, me_N_nx, me_L_sI, me_L_sP, me_L_nx, show me_P M 7 0 19 = some (48, 0) from hm.1 (7, 0, 19, 48, 0) (by decide)]) kz) ?_
    refine jx_of (fun _ _ kz => jw_iload_n 1 d_M_choose_63 rfl rfl kz) ?_
    refine jx_of (fun _ _ kz => jw_ialde ((-1)) d_M_choose_64 rfl rfl (by rw [show me_L _ 48 0 = 3 from (by simp [me_I_sI, me_I_sP, me_I_nx, me_P_sI, me_P_sP, me_P_nx, me_N_sI, me_N_sP, me_N_nx, me_L_sI, me_L_sP, me_L_nx, show me_L M 48 0 = 3 from hm.2.1 (48, 0, 3) (by decide)])]; unfold vp_in; decide) (by simp [me_I_sI, me_I_sP, me_I_nx, me_P_sI, me_P_sP, me_P_nx, me_N_sI, me_N_sP, me_N_nx, me_L_sI, me_L_sP, me_L_nx, show me_I M 48 0 1 = (-1) from hm.2.2 (48, 0, 1, (-1)) (by decide)]) kz) ?_
    refine jx_if_lt 104 d_M_choose_65 (by decide) (fun _ => ?_) (fun h => absurd h (by decide))
    refine jx_of (fun _ _ kz => jw_aload_n 0 d_M_choose_104 rfl rfl kz) ?_
    refine jx_of (fun _ _ kz => jw_getPe (some (52, 0)) fl_M_77 d_M_choose_105 rfl rfl (by simp [me_I_sI, me_I_sP, me_I_nx, me_P_sI, me_P_sP, me_P_nx, me_N_sI, me_N_sP, me_N_nx, me_L_sI, me_L_sP, me_L_nx, show me_P M 7 0 23 = some (52, 0) from hm.1 (7, 0, 23, 52, 0) (by decide)]) kz) ?_
    refine jx_of (fun _ _ kz => jw_iload_n 1 d_M_choose_108 rfl rfl kz) ?_
    refine jx_of (fun _ _ kz => jw_ialde (0) d_M_choose_109 rfl rfl (by rw [show me_L _ 52 0 = 3 from (by simp [me_I_sI, me_I_sP, me_I_nx, me_P_sI, me_P_sP, me_P_nx, me_N_sI, me_N_sP, me_N_nx, me_L_sI, me_L_sP, me_L_nx, show me_L M 52 0 = 3 from hm.2.1 (52, 0, 3) (by decide)])]; unfold vp_in; decide) (by simp [me_I_sI, me_I_sP, me_I_nx, me_P_sI, me_P_sP, me_P_nx, me_N_sI, me_N_sP, me_N_nx, me_L_sI, me_L_sP, me_L_nx, show me_I M 52 0 1 = 0 from hm.2.2 (52, 0, 1, 0) (by decide)]) kz) ?_
    refine jx_if_le 119 d_M_choose_110 (by decide) (fun _ => ?_) (fun h => absurd h (by decide))
    refine jx_of (fun _ _ kz => jw_aload_n 0 d_M_choose_119 rfl rfl kz) ?_
    refine jx_of (fun _ _ kz => jw_getIe (0) fl_M_119 d_M_choose_120 rfl rfl (by simp [me_I_sI, me_I_sP, me_I_nx, me_P_sI, me_P_sP, me_P_nx, me_N_sI, me_N_sP, me_N_nx, me_L_sI, me_L_sP, me_L_nx, show me_I M 7 0 28 = 0 from hm.2.2 (7, 0, 28, 0) (by decide)]) kz) ?_
    refine jx_if_le 131 d_M_choose_123 (by decide) (fun _ => ?_) (fun h => absurd h (by decide))
    refine jx_of (fun _ _ kz => jw_iconst 1 d_M_choose_131 (by decide) kz) ?_
    refine jx_of (fun _ _ kz => jw_istore d_M_choose_132 (Nat.le_of_ble_eq_true rfl) kz) ?_
    dsimp only [List.set]
    refine jx_of (fun _ _ kz => jw_iload d_M_choose_134 rfl kz) ?_
    refine jx_of (fun _ _ kz => jw_iconst 3 d_M_choose_136 (by decide) kz) ?_
    refine jx_icmp_ge 227 d_M_choose_137 (by decide) (fun h => absurd h (by decide)) (fun _ => ?_)
    refine jx_of (fun _ _ kz => jw_iload_n 1 d_M_choose_140 rfl rfl kz) ?_
    refine jx_of (fun _ _ kz => jw_iload d_M_choose_141 rfl kz) ?_
    refine jx_of (fun _ _ kz => jw_iadd d_M_choose_143 kz) ?_
    rw [show (1 + 1 : Int32) = 2 from by decide]
    refine jx_of (fun _ _ kz => jw_iconst 3 d_M_choose_144 (by decide) kz) ?_
    refine jx_of (fun _ _ kz => jw_irem d_M_choose_145 (by decide) kz) ?_
    rw [show (2 - 2 / 3 * 3 : Int32) = 2 from by decide]
    refine jx_of (fun _ _ kz => jw_istore d_M_choose_146 (Nat.le_of_ble_eq_true rfl) kz) ?_
    dsimp only [List.set]
    refine jx_of (fun _ _ kz => jw_aload_n 0 d_M_choose_148 rfl rfl kz) ?_
    refine jx_of (fun _ _ kz => jw_getPe (some (52, 0)) fl_M_77 d_M_choose_149 rfl rfl (by simp [me_I_sI, me_I_sP, me_I_nx, me_P_sI, me_P_sP, me_P_nx, me_N_sI, me_N_sP, me_N_nx, me_L_sI, me_L_sP, me_L_nx, show me_P M 7 0 23 = some (52, 0) from hm.1 (7, 0, 23, 52, 0) (by decide)]) kz) ?_
    refine jx_of (fun _ _ kz => jw_iload d_M_choose_152 rfl kz) ?_
    refine jx_of (fun _ _ kz => jw_ialde (0) d_M_choose_154 rfl rfl (by rw [show me_L _ 52 0 = 3 from (by simp [me_I_sI, me_I_sP, me_I_nx, me_P_sI, me_P_sP, me_P_nx, me_N_sI, me_N_sP, me_N_nx, me_L_sI, me_L_sP, me_L_nx, show me_L M 52 0 = 3 from hm.2.1 (52, 0, 3) (by decide)])]; unfold vp_in; decide) (by simp [me_I_sI, me_I_sP, me_I_nx, me_P_sI, me_P_sP, me_P_nx, me_N_sI, me_N_sP, me_N_nx, me_L_sI, me_L_sP, me_L_nx, show me_I M 52 0 2 = 0 from hm.2.2 (52, 0, 2, 0) (by decide)]) kz) ?_
    refine jx_of (fun _ _ kz => jw_iconst 1 d_M_choose_155 (by decide) kz) ?_
    refine jx_of (fun _ _ kz => jw_iadd d_M_choose_156 kz) ?_
    rw [show (0 + 1 : Int32) = 1 from by decide]
    refine jx_of (fun _ _ kz => jw_iconst 2 d_M_choose_157 (by decide) kz) ?_
    refine jx_of (fun _ _ kz => jw_idiv d_M_choose_158 (by decide) kz) ?_
    rw [show (1 / 2 : Int32) = 0 from by decide]
    refine jx_of (fun _ _ kz => jw_istore d_M_choose_159 (Nat.le_of_ble_eq_true rfl) kz) ?_
    dsimp only [List.set]
    refine jx_of (fun _ _ kz => jw_iload d_M_choose_161 rfl kz) ?_
    refine jx_if_ne 169 d_M_choose_163 (by decide) (fun h => absurd h (by decide)) (fun _ => ?_)
    refine jx_of (fun _ _ kz => jw_goto 221 d_M_choose_166 (by decide) kz) ?_
    refine jx_of (fun _ _ kz => jw_iincc 1 d_M_choose_221 (by decide) rfl (Nat.le_of_ble_eq_true rfl) kz) ?_
    dsimp only [List.set]
    rw [show (1 + 1 : Int32) = 2 from by decide]
    refine jx_of (fun _ _ kz => jw_goto 134 d_M_choose_224 (by decide) kz) ?_
    refine jx_of (fun _ _ kz => jw_iload d_M_choose_134 rfl kz) ?_
    refine jx_of (fun _ _ kz => jw_iconst 3 d_M_choose_136 (by decide) kz) ?_
    refine jx_icmp_ge 227 d_M_choose_137 (by decide) (fun h => absurd h (by decide)) (fun _ => ?_)
    refine jx_of (fun _ _ kz => jw_iload_n 1 d_M_choose_140 rfl rfl kz) ?_
    refine jx_of (fun _ _ kz => jw_iload d_M_choose_141 rfl kz) ?_
    refine jx_of (fun _ _ kz => jw_iadd d_M_choose_143 kz) ?_
    rw [show (1 + 2 : Int32) = 3 from by decide]
    refine jx_of (fun _ _ kz => jw_iconst 3 d_M_choose_144 (by decide) kz) ?_
    refine jx_of (fun _ _ kz => jw_irem d_M_choose_145 (by decide) kz) ?_
    rw [show (3 - 3 / 3 * 3 : Int32) = 0 from by decide]
    refine jx_of (fun _ _ kz => jw_istore d_M_choose_146 (Nat.le_of_ble_eq_true rfl) kz) ?_
    dsimp only [List.set]
    refine jx_of (fun _ _ kz => jw_aload_n 0 d_M_choose_148 rfl rfl kz) ?_
    refine jx_of (fun _ _ kz => jw_getPe (some (52, 0)) fl_M_77 d_M_choose_149 rfl rfl (by simp [me_I_sI, me_I_sP, me_I_nx, me_P_sI, me_P_sP, me_P_nx, me_N_sI, me_N_sP, me_N_nx, me_L_sI, me_L_sP, me_L_nx, show me_P M 7 0 23 = some (52, 0) from hm.1 (7, 0, 23, 52, 0) (by decide)]) kz) ?_
    refine jx_of (fun _ _ kz => jw_iload d_M_choose_152 rfl kz) ?_
    refine jx_of (fun _ _ kz => jw_ialde (0) d_M_choose_154 rfl rfl (by rw [show me_L _ 52 0 = 3 from (by simp [me_I_sI, me_I_sP, me_I_nx, me_P_sI, me_P_sP, me_P_nx, me_N_sI, me_N_sP, me_N_nx, me_L_sI, me_L_sP, me_L_nx, show me_L M 52 0 = 3 from hm.2.1 (52, 0, 3) (by decide)])]; unfold vp_in; decide) (by simp [me_I_sI, me_I_sP, me_I_nx, me_P_sI, me_P_sP, me_P_nx, me_N_sI, me_N_sP, me_N_nx, me_L_sI, me_L_sP, me_L_nx, show me_I M 52 0 0 = 0 from hm.2.2 (52, 0, 0, 0) (by decide)]) kz) ?_
    refine jx_of (fun _ _ kz => jw_iconst 1 d_M_choose_155 (by decide) kz) ?_
    refine jx_of (fun _ _ kz => jw_iadd d_M_choose_156 kz) ?_
    rw [show (0 + 1 : Int32) = 1 from by decide]
    refine jx_of (fun _ _ kz => jw_iconst 2 d_M_choose_157 (by decide) kz) ?_
    refine jx_of (fun _ _ kz => jw_idiv d_M_choose_158 (by decide) kz) ?_
    rw [show (1 / 2 : Int32) = 0 from by decide]
    refine jx_of (fun _ _ kz => jw_istore d_M_choose_159 (Nat.le_of_ble_eq_true rfl) kz) ?_
    dsimp only [List.set]
    refine jx_of (fun _ _ kz => jw_iload d_M_choose_161 rfl kz) ?_
    refine jx_if_ne 169 d_M_choose_163 (by decide) (fun h => absurd h (by decide)) (fun _ => ?_)
    refine jx_of (fun _ _ kz => jw_goto 221 d_M_choose_166 (by decide) kz) ?_
    refine jx_of (fun _ _ kz => jw_iincc 1 d_M_choose_221 (by decide) rfl (Nat.le_of_ble_eq_true rfl) kz) ?_
    dsimp only [List.set]
    rw [show (2 + 1 : Int32) = 3 from by decide]
    refine jx_of (fun _ _ kz => jw_goto 134 d_M_choose_224 (by decide) kz) ?_
    refine jx_of (fun _ _ kz => jw_iload d_M_choose_134 rfl kz) ?_
    refine jx_of (fun _ _ kz => jw_iconst 3 d_M_choose_136 (by decide) kz) ?_
    refine jx_icmp_ge 227 d_M_choose_137 (by decide) (fun _ => ?_) (fun h => absurd h (by decide))
    refine jx_of (fun _ _ kz => jw_bipush (-2) d_M_choose_227 (by decide) kz) ?_
    refine jx_iret d_M_choose_229 rfl ?_
    first | exact ⟨rfl, rfl⟩ | exact ⟨by simp [b_22], rfl⟩ | exact ⟨by simp_all, by simp_all⟩
set_option maxRecDepth 20000 in
set_option maxHeartbeats 4000000 in
theorem x_M_turn_1 {G : Gt} {M : Me} (d : Nat) (hm : mid M) : sx G yt_M_turn yn_M_turn (d + 2) [.inr (some (7, 0)), .inl 1] M (fun r M' => r = some (.inl (-2)) ∧ mid M' ∧ me_I M' 7 0 32 = me_I M 7 0 32 ∧ nC M M') := by
  refine sx_of (k := 1) (lc := [some (.inr (some (7, 0))), some (.inl 1), none]) mt_M_turn (Nat.le_of_ble_eq_true rfl) rfl ?_
  refine jx_of (fun _ _ kz => jw_iload_n 1 d_M_turn_0 rfl rfl kz) ?_
  refine jx_of (fun _ _ kz => jw_iconst 0 d_M_turn_1 (by decide) kz) ?_
  refine jx_of (fun _ _ kz => jw_iconst 2 d_M_turn_2 (by decide) kz) ?_
  refine jx_callS (x_M_is_t _ 1 0 2  (by decide) (by decide)) mt_M_is ml_M_93 sm_M_is d_M_turn_3 rfl rfl (Nat.le_of_ble_eq_true rfl) ?_
  rintro _ _ ⟨rfl, rfl⟩
  refine jx_eq (st2 := [.inl 1]) rfl rfl rfl ?_
  refine jx_if_ne 11 d_M_turn_6 (by decide) (fun _ => ?_) (fun h => absurd h (by decide))
  refine jx_of (fun _ _ kz => jw_aload_n 0 d_M_turn_11 rfl rfl kz) ?_
  refine jx_of (fun _ _ kz => jw_getPe (some (49, 0)) fl_M_68 d_M_turn_12 rfl rfl (by simp [me_I_sI, me_I_sP, me_I_nx, me_P_sI, me_P_sP, me_P_nx, me_N_sI, me_N_sP, me_N_nx, me_L_sI, me_L_sP, me_L_nx, show me_P M 7 0 20 = some (49, 0) from hm.1 (7, 0, 20, 49, 0) (by decide)]) kz) ?_
  refine jx_of (fun _ _ kz => jw_iload_n 1 d_M_turn_15 rfl rfl kz) ?_
  refine jx_of (fun _ _ kz => jw_dup2 d_M_turn_16 kz) ?_
  refine jx_of (fun _ _ kz => jw_ialde (me_I M 49 0 1) d_M_turn_17 rfl rfl (by rw [show me_L _ 49 0 = 3 from (by simp [me_I_sI, me_I_sP, me_I_nx, me_P_sI, me_P_sP, me_P_nx, me_N_sI, me_N_sP, me_N_nx, me_L_sI, me_L_sP, me_L_nx, show me_L M 49 0 = 3 from hm.2.1 (49, 0, 3) (by decide)])]; unfold vp_in; decide) (by simp [me_I_sI, me_I_sP, me_I_nx, me_P_sI, me_P_sP, me_P_nx, me_N_sI, me_N_sP, me_N_nx, me_L_sI, me_L_sP, me_L_nx]) kz) ?_
  refine jx_of (fun _ _ kz => jw_iconst 1 d_M_turn_18 (by decide) kz) ?_
  refine jx_of (fun _ _ kz => jw_iadd d_M_turn_19 kz) ?_
  refine jx_of (fun _ _ kz => jw_iast d_M_turn_20 rfl rfl (by rw [show me_L _ 49 0 = 3 from (by simp [me_I_sI, me_I_sP, me_I_nx, me_P_sI, me_P_sP, me_P_nx, me_N_sI, me_N_sP, me_N_nx, me_L_sI, me_L_sP, me_L_nx, show me_L M 49 0 = 3 from hm.2.1 (49, 0, 3) (by decide)])]; unfold vp_in; decide) kz) ?_
  rw [show Int32.toNatClampNeg 1 = 1 from by decide]
  refine jx_of (fun _ _ kz => jw_aload_n 0 d_M_turn_21 rfl rfl kz) ?_
  refine jx_of (fun _ _ kz => jw_iload_n 1 d_M_turn_22 rfl rfl kz) ?_
  refine jx_callV (x_M_choose_1 _  (mid_sN hm (by decide))) mt_M_choose cf_M rfl rfl ml_M_214 im_M_choose se_M_choose d_M_turn_23 rfl rfl (Nat.le_of_ble_eq_true rfl) ?_
  rintro _ _ ⟨rfl, rfl⟩
  refine jx_eq (st2 := [.inl ((-2))]) rfl rfl rfl ?_
  refine jx_of (fun _ _ kz => jw_istore_n 2 d_M_turn_26 rfl (Nat.le_of_ble_eq_true rfl) kz) ?_
  dsimp only [List.set]
  refine jx_of (fun _ _ kz => jw_iload_n 2 d_M_turn_27 rfl rfl kz) ?_
  refine jx_if_ge 34 d_M_turn_28 (by decide) (fun h => absurd h (by decide)) (fun _ => ?_)
  refine jx_of (fun _ _ kz => jw_bipush (-2) d_M_turn_31 (by decide) kz) ?_
  refine jx_iret d_M_turn_33 rfl ?_
  exact ⟨rfl, mid_sI (mid_sN hm (by decide)) (by decide), by simp [me_I_sI], rfl, rfl⟩
set_option maxRecDepth 20000 in
set_option maxHeartbeats 4000000 in
theorem x_M_choose_2 {G : Gt} {M : Me} (d : Nat) (hm : mid M) : sx G yt_M_choose yn_M_choose (d + 1) [.inr (some (7, 0)), .inl 2] M (fun r M' => r = some (.inl ((-2))) ∧ (me_sI M 50 0 2 (0)) = M') := by
  refine sx_of (k := 8) (lc := [some (.inr (some (7, 0))), some (.inl 2), none, none, none, none, none, none, none, none]) mt_M_choose (Nat.le_of_ble_eq_true rfl) rfl ?_
  refine jx_of (fun _ _ kz => jw_aload_n 0 d_M_choose_0 rfl rfl kz) ?_
  refine jx_of (fun _ _ kz => jw_getPe (some (50, 0)) fl_M_71 d_M_choose_1 rfl rfl (by simp [me_I_sI, me_I_sP, me_I_nx, me_P_sI, me_P_sP, me_P_nx, me_N_sI, me_N_sP, me_N_nx, me_L_sI, me_L_sP, me_L_nx, show me_P M 7 0 21 = some (50, 0) from hm.1 (7, 0, 21, 50, 0) (by decide)]) kz) ?_
  refine jx_of (fun _ _ kz => jw_iload_n 1 d_M_choose_4 rfl rfl kz) ?_
  refine jx_of (fun _ _ kz => jw_ialde (0) d_M_choose_5 rfl rfl (by rw [show me_L _ 50 0 = 3 from (by simp [me_I_sI, me_I_sP, me_I_nx, me_P_sI, me_P_sP, me_P_nx, me_N_sI, me_N_sP, me_N_nx, me_L_sI, me_L_sP, me_L_nx, show me_L M 50 0 = 3 from hm.2.1 (50, 0, 3) (by decide)])]; unfold vp_in; decide) (by simp [me_I_sI, me_I_sP, me_I_nx, me_P_sI, me_P_sP, me_P_nx, me_N_sI, me_N_sP, me_N_nx, me_L_sI, me_L_sP, me_L_nx, show me_I M 50 0 2 = 0 from hm.2.2 (50, 0, 2, 0) (by decide)]) kz) ?_
  refine jx_of (fun _ _ kz => jw_istore_n 2 d_M_choose_6 rfl (Nat.le_of_ble_eq_true rfl) kz) ?_
  dsimp only [List.set]
  refine jx_of (fun _ _ kz => jw_aload_n 0 d_M_choose_7 rfl rfl kz) ?_
  refine jx_of (fun _ _ kz => jw_getPe (some (50, 0)) fl_M_71 d_M_choose_8 rfl rfl (by simp [me_I_sI, me_I_sP, me_I_nx, me_P_sI, me_P_sP, me_P_nx, me_N_sI, me_N_sP, me_N_nx, me_L_sI, me_L_sP, me_L_nx, show me_P M 7 0 21 = some (50, 0) from hm.1 (7, 0, 21, 50, 0) (by decide)]) kz) ?_
  refine jx_of (fun _ _ kz => jw_iload_n 1 d_M_choose_11 rfl rfl kz) ?_
  refine jx_of (fun _ _ kz => jw_iconst 0 d_M_choose_12 (by decide) kz) ?_
  refine jx_of (fun _ _ kz => jw_iast d_M_choose_13 rfl rfl (by rw [show me_L _ 50 0 = 3 from (by simp [me_I_sI, me_I_sP, me_I_nx, me_P_sI, me_P_sP, me_P_nx, me_N_sI, me_N_sP, me_N_nx, me_L_sI, me_L_sP, me_L_nx, show me_L M 50 0 = 3 from hm.2.1 (50, 0, 3) (by decide)])]; unfold vp_in; decide) kz) ?_
  rw [show Int32.toNatClampNeg 2 = 2 from by decide]
  refine jx_of (fun _ _ kz => jw_aload_n 0 d_M_choose_14 rfl rfl kz) ?_
  refine jx_of (fun _ _ kz => jw_getPe (some (49, 0)) fl_M_68 d_M_choose_15 rfl rfl (by simp [me_I_sI, me_I_sP, me_I_nx, me_P_sI, me_P_sP, me_P_nx, me_N_sI, me_N_sP, me_N_nx, me_L_sI, me_L_sP, me_L_nx, show me_P M 7 0 20 = some (49, 0) from hm.1 (7, 0, 20, 49, 0) (by decide)]) kz) ?_
  refine jx_of (fun _ _ kz => jw_iload_n 1 d_M_choose_18 rfl rfl kz) ?_
  refine jx_of (fun _ _ kz => jw_ialde (me_I M 49 0 2) d_M_choose_19 rfl rfl (by rw [show me_L _ 49 0 = 3 from (by simp [me_I_sI, me_I_sP, me_I_nx, me_P_sI, me_P_sP, me_P_nx, me_N_sI, me_N_sP, me_N_nx, me_L_sI, me_L_sP, me_L_nx, show me_L M 49 0 = 3 from hm.2.1 (49, 0, 3) (by decide)])]; unfold vp_in; decide) (by simp [me_I_sI, me_I_sP, me_I_nx, me_P_sI, me_P_sP, me_P_nx, me_N_sI, me_N_sP, me_N_nx, me_L_sI, me_L_sP, me_L_nx]) kz) ?_
  refine jx_of (fun _ _ kz => jw_iconst 5 d_M_choose_20 (by decide) kz) ?_
  refine jx_of (fun _ _ kz => jw_irem d_M_choose_21 (by decide) kz) ?_
  refine jx_if_ne 37 d_M_choose_22 (by decide) (fun b_22 => ?_) (fun b_22 => ?_)
  · skip
    refine jx_of (fun _ _ kz => jw_aload_n 0 d_M_choose_37 rfl rfl kz) ?_
    refine jx_of (fun _ _ kz => jw_getPe (some (52, 0)) fl_M_77 d_M_choose_38 rfl rfl (by simp [me_I_sI, me_I_sP, me_I_nx, me_P_sI, me_P_sP, me_P_nx, me_N_sI, me_N_sP, me_N_nx, me_L_sI, me_L_sP, me_L_nx, show me_P M 7 0 23 = some (52, 0) from hm.1 (7, 0, 23, 52, 0) (by decide)]) kz) ?_
    refine jx_of (fun _ _ kz => jw_iload_n 1 d_M_choose_41 rfl rfl kz) ?_
    refine jx_of (fun _ _ kz => jw_ialde (0) d_M_choose_42 rfl rfl (by rw [show me_L _ 52 0 = 3 from (by simp [me_I_sI, me_I_sP, me_I_nx, me_P_sI, me_P_sP, me_P_nx, me_N_sI, me_N_sP, me_N_nx, me_L_sI, me_L_sP, me_L_nx, show me_L M 52 0 = 3 from hm.2.1 (52, 0, 3) (by decide)])]; unfold vp_in; decide) (by simp [me_I_sI, me_I_sP, me_I_nx, me_P_sI, me_P_sP, me_P_nx, me_N_sI, me_N_sP, me_N_nx, me_L_sI, me_L_sP, me_L_nx, show me_I M 52 0 2 = 0 from hm.2.2 (52, 0, 2, 0) (by decide)]) kz) ?_
    refine jx_if_gt 53 d_M_choose_43 (by decide) (fun h => absurd h (by decide)) (fun _ => ?_)
    refine jx_of (fun _ _ kz => jw_aload_n 0 d_M_choose_46 rfl rfl kz) ?_
    refine jx_of (fun _ _ kz => jw_getIe (0) fl_M_119 d_M_choose_47 rfl rfl (by simp [me_I_sI, me_I_sP, me_I_nx, me_P_sI, me_P_sP, me_P_nx, me_N_sI, me_N_sP, me_N_nx, me_L_sI, me_L_sP, me_L_nx, show me_I M 7 0 28 = 0 from hm.2.2 (7, 0, 28, 0) (by decide)]) kz) ?_
    refine jx_if_le 57 d_M_choose_50 (by decide) (fun _ => ?_) (fun h => absurd h (by decide))
    refine jx_of (fun _ _ kz => jw_iconst 0 d_M_choose_57 (by decide) kz) ?_
    refine jx_of (fun _ _ kz => jw_istore_n 3 d_M_choose_58 rfl (Nat.le_of_ble_eq_true rfl) kz) ?_
    dsimp only [List.set]
    refine jx_of (fun _ _ kz => jw_aload_n 0 d_M_choose_59 rfl rfl kz) ?_
    refine jx_of (fun _ _ kz => jw_getPe (some (48, 0)) fl_M_65 d_M_choose_60 rfl rfl (by simp [me_I_sI, me_I_sP, me_I_nx, me_P_sI, me_P_sP, me_P_nx, me_N_sI, me_N_sP, me_N_nx, me_L_sI, me_L_sP, me_L_nx, show me_P M 7 0 19 = some (48, 0) from hm.1 (7, 0, 19, 48, 0) (by decide)]) kz) ?_
    refine jx_of (fun _ _ kz => jw_iload_n 1 d_M_choose_63 rfl rfl kz) ?_
    refine jx_of (fun _ _ kz => jw_ialde ((-1)) d_M_choose_64 rfl rfl (by rw [show me_L _ 48 0 = 3 from (by simp [me_I_sI, me_I_sP, me_I_nx, me_P_sI, me_P_sP, me_P_nx, me_N_sI, me_N_sP, me_N_nx, me_L_sI, me_L_sP, me_L_nx, show me_L M 48 0 = 3 from hm.2.1 (48, 0, 3) (by decide)])]; unfold vp_in; decide) (by simp [me_I_sI, me_I_sP, me_I_nx, me_P_sI, me_P_sP, me_P_nx, me_N_sI, me_N_sP, me_N_nx, me_L_sI, me_L_sP, me_L_nx, show me_I M 48 0 2 = (-1) from hm.2.2 (48, 0, 2, (-1)) (by decide)]) kz) ?_
    refine jx_if_lt 104 d_M_choose_65 (by decide) (fun _ => ?_) (fun h => absurd h (by decide))
    refine jx_of (fun _ _ kz => jw_aload_n 0 d_M_choose_104 rfl rfl kz) ?_
    refine jx_of (fun _ _ kz => jw_getPe (some (52, 0)) fl_M_77 d_M_choose_105 rfl rfl (by simp [me_I_sI, me_I_sP, me_I_nx, me_P_sI, me_P_sP, me_P_nx, me_N_sI, me_N_sP, me_N_nx, me_L_sI, me_L_sP, me_L_nx, show me_P M 7 0 23 = some (52, 0) from hm.1 (7, 0, 23, 52, 0) (by decide)]) kz) ?_
    refine jx_of (fun _ _ kz => jw_iload_n 1 d_M_choose_108 rfl rfl kz) ?_
    refine jx_of (fun _ _ kz => jw_ialde (0) d_M_choose_109 rfl rfl (by rw [show me_L _ 52 0 = 3 from (by simp [me_I_sI, me_I_sP, me_I_nx, me_P_sI, me_P_sP, me_P_nx, me_N_sI, me_N_sP, me_N_nx, me_L_sI, me_L_sP, me_L_nx, show me_L M 52 0 = 3 from hm.2.1 (52, 0, 3) (by decide)])]; unfold vp_in; decide) (by simp [me_I_sI, me_I_sP, me_I_nx, me_P_sI, me_P_sP, me_P_nx, me_N_sI, me_N_sP, me_N_nx, me_L_sI, me_L_sP, me_L_nx, show me_I M 52 0 2 = 0 from hm.2.2 (52, 0, 2, 0) (by decide)]) kz) ?_
    refine jx_if_le 119 d_M_choose_110 (by decide) (fun _ => ?_) (fun h => absurd h (by decide))
    refine jx_of (fun _ _ kz => jw_aload_n 0 d_M_choose_119 rfl rfl kz) ?_
    refine jx_of (fun _ _ kz => jw_getIe (0) fl_M_119 d_M_choose_120 rfl rfl (by simp [me_I_sI, me_I_sP, me_I_nx, me_P_sI, me_P_sP, me_P_nx, me_N_sI, me_N_sP, me_N_nx, me_L_sI, me_L_sP, me_L_nx, show me_I M 7 0 28 = 0 from hm.2.2 (7, 0, 28, 0) (by decide)]) kz) ?_
    refine jx_if_le 131 d_M_choose_123 (by decide) (fun _ => ?_) (fun h => absurd h (by decide))
    refine jx_of (fun _ _ kz => jw_iconst 1 d_M_choose_131 (by decide) kz) ?_
    refine jx_of (fun _ _ kz => jw_istore d_M_choose_132 (Nat.le_of_ble_eq_true rfl) kz) ?_
    dsimp only [List.set]
    refine jx_of (fun _ _ kz => jw_iload d_M_choose_134 rfl kz) ?_
    refine jx_of (fun _ _ kz => jw_iconst 3 d_M_choose_136 (by decide) kz) ?_
    refine jx_icmp_ge 227 d_M_choose_137 (by decide) (fun h => absurd h (by decide)) (fun _ => ?_)
    refine jx_of (fun _ _ kz => jw_iload_n 1 d_M_choose_140 rfl rfl kz) ?_
    refine jx_of (fun _ _ kz => jw_iload d_M_choose_141 rfl kz) ?_
    refine jx_of (fun _ _ kz => jw_iadd d_M_choose_143 kz) ?_
    rw [show (2 + 1 : Int32) = 3 from by decide]
    refine jx_of (fun _ _ kz => jw_iconst 3 d_M_choose_144 (by decide) kz) ?_
    refine jx_of (fun _ _ kz => jw_irem d_M_choose_145 (by decide) kz) ?_
    rw [show (3 - 3 / 3 * 3 : Int32) = 0 from by decide]
    refine jx_of (fun _ _ kz => jw_istore d_M_choose_146 (Nat.le_of_ble_eq_true rfl) kz) ?_
    dsimp only [List.set]
    refine jx_of (fun _ _ kz => jw_aload_n 0 d_M_choose_148 rfl rfl kz) ?_
    refine jx_of (fun _ _ kz => jw_getPe (some (52, 0)) fl_M_77 d_M_choose_149 rfl rfl (by simp [me_I_sI, me_I_sP, me_I_nx, me_P_sI, me_P_sP, me_P_nx, me_N_sI, me_N_sP, me_N_nx, me_L_sI, me_L_sP, me_L_nx, show me_P M 7 0 23 = some (52, 0) from hm.1 (7, 0, 23, 52, 0) (by decide)]) kz) ?_
    refine jx_of (fun _ _ kz => jw_iload d_M_choose_152 rfl kz) ?_
    refine jx_of (fun _ _ kz => jw_ialde (0) d_M_choose_154 rfl rfl (by rw [show me_L _ 52 0 = 3 from (by simp [me_I_sI, me_I_sP, me_I_nx, me_P_sI, me_P_sP, me_P_nx, me_N_sI, me_N_sP, me_N_nx, me_L_sI, me_L_sP, me_L_nx, show me_L M 52 0 = 3 from hm.2.1 (52, 0, 3) (by decide)])]; unfold vp_in; decide) (by simp [me_I_sI, me_I_sP, me_I_nx, me_P_sI, me_P_sP, me_P_nx, me_N_sI, me_N_sP, me_N_nx, me_L_sI, me_L_sP, me_L_nx, show me_I M 52 0 0 = 0 from hm.2.2 (52, 0, 0, 0) (by decide)]) kz) ?_
    refine jx_of (fun _ _ kz => jw_iconst 1 d_M_choose_155 (by decide) kz) ?_
    refine jx_of (fun _ _ kz => jw_iadd d_M_choose_156 kz) ?_
    rw [show (0 + 1 : Int32) = 1 from by decide]
    refine jx_of (fun _ _ kz => jw_iconst 2 d_M_choose_157 (by decide) kz) ?_
    refine jx_of (fun _ _ kz => jw_idiv d_M_choose_158 (by decide) kz) ?_
    rw [show (1 / 2 : Int32) = 0 from by decide]
    refine jx_of (fun _ _ kz => jw_istore d_M_choose_159 (Nat.le_of_ble_eq_true rfl) kz) ?_
    dsimp only [List.set]
    refine jx_of (fun _ _ kz => jw_iload d_M_choose_161 rfl kz) ?_
    refine jx_if_ne 169 d_M_choose_163 (by decide) (fun h => absurd h (by decide)) (fun _ => ?_)
    refine jx_of (fun _ _ kz => jw_goto 221 d_M_choose_166 (by decide) kz) ?_
    refine jx_of (fun _ _ kz => jw_iincc 1 d_M_choose_221 (by decide) rfl (Nat.le_of_ble_eq_true rfl) kz) ?_
    dsimp only [List.set]
    rw [show (1 + 1 : Int32) = 2 from by decide]
    refine jx_of (fun _ _ kz => jw_goto 134 d_M_choose_224 (by decide) kz) ?_
    refine jx_of (fun _ _ kz => jw_iload d_M_choose_134 rfl kz) ?_
    refine jx_of (fun _ _ kz => jw_iconst 3 d_M_choose_136 (by decide) kz) ?_
    refine jx_icmp_ge 227 d_M_choose_137 (by decide) (fun h => absurd h (by decide)) (fun _ => ?_)
    refine jx_of (fun _ _ kz => jw_iload_n 1 d_M_choose_140 rfl rfl kz) ?_
    refine jx_of (fun _ _ kz => jw_iload d_M_choose_141 rfl kz) ?_
    refine jx_of (fun _ _ kz => jw_iadd d_M_choose_143 kz) ?_
    rw [show (2 + 2 : Int32) = 4 from by decide]
    refine jx_of (fun _ _ kz => jw_iconst 3 d_M_choose_144 (by decide) kz) ?_
    refine jx_of (fun _ _ kz => jw_irem d_M_choose_145 (by decide) kz) ?_
    rw [show (4 - 4 / 3 * 3 : Int32) = 1 from by decide]
    refine jx_of (fun _ _ kz => jw_istore d_M_choose_146 (Nat.le_of_ble_eq_true rfl) kz) ?_
    dsimp only [List.set]
    refine jx_of (fun _ _ kz => jw_aload_n 0 d_M_choose_148 rfl rfl kz) ?_
    refine jx_of (fun _ _ kz => jw_getPe (some (52, 0)) fl_M_77 d_M_choose_149 rfl rfl (by simp [me_I_sI, me_I_sP, me_I_nx, me_P_sI, me_P_sP, me_P_nx, me_N_sI, me_N_sP, me_N_nx, me_L_sI, me_L_sP, me_L_nx, show me_P M 7 0 23 = some (52, 0) from hm.1 (7, 0, 23, 52, 0) (by decide)]) kz) ?_
    refine jx_of (fun _ _ kz => jw_iload d_M_choose_152 rfl kz) ?_
    refine jx_of (fun _ _ kz => jw_ialde (0) d_M_choose_154 rfl rfl (by rw [show me_L _ 52 0 = 3 from (by simp [me_I_sI, me_I_sP, me_I_nx, me_P_sI, me_P_sP, me_P_nx, me_N_sI, me_N_sP, me_N_nx, me_L_sI, me_L_sP, me_L_nx, show me_L M 52 0 = 3 from hm.2.1 (52, 0, 3) (by decide)])]; unfold vp_in; decide) (by simp [me_I_sI, me_I_sP, me_I_nx, me_P_sI, me_P_sP, me_P_nx, me_N_sI, me_N_sP, me_N_nx, me_L_sI, me_L_sP, me_L_nx, show me_I M 52 0 1 = 0 from hm.2.2 (52, 0, 1, 0) (by decide)]) kz) ?_
    refine jx_of (fun _ _ kz => jw_iconst 1 d_M_choose_155 (by decide) kz) ?_
    refine jx_of (fun _ _ kz => jw_iadd d_M_choose_156 kz) ?_
    rw [show (0 + 1 : Int32) = 1 from by decide]
    refine jx_of (fun _ _ kz => jw_iconst 2 d_M_choose_157 (by decide) kz) ?_
    refine jx_of (fun _ _ kz => jw_idiv d_M_choose_158 (by decide) kz) ?_
    rw [show (1 / 2 : Int32) = 0 from by decide]
    refine jx_of (fun _ _ kz => jw_istore d_M_choose_159 (Nat.le_of_ble_eq_true rfl) kz) ?_
    dsimp only [List.set]
    refine jx_of (fun _ _ kz => jw_iload d_M_choose_161 rfl kz) ?_
    refine jx_if_ne 169 d_M_choose_163 (by decide) (fun h => absurd h (by decide)) (fun _ => ?_)
    refine jx_of (fun _ _ kz => jw_goto 221 d_M_choose_166 (by decide) kz) ?_
    refine jx_of (fun _ _ kz => jw_iincc 1 d_M_choose_221 (by decide) rfl (Nat.le_of_ble_eq_true rfl) kz) ?_
    dsimp only [List.set]
    rw [show (2 + 1 : Int32) = 3 from by decide]
    refine jx_of (fun _ _ kz => jw_goto 134 d_M_choose_224 (by decide) kz) ?_
    refine jx_of (fun _ _ kz => jw_iload d_M_choose_134 rfl kz) ?_
    refine jx_of (fun _ _ kz => jw_iconst 3 d_M_choose_136 (by decide) kz) ?_
    refine jx_icmp_ge 227 d_M_choose_137 (by decide) (fun _ => ?_) (fun h => absurd h (by decide))
    refine jx_of (fun _ _ kz => jw_bipush (-2) d_M_choose_227 (by decide) kz) ?_
    refine jx_iret d_M_choose_229 rfl ?_
    first | exact ⟨rfl, rfl⟩ | exact ⟨by simp [b_22], rfl⟩ | exact ⟨by simp_all, by simp_all⟩
  · skip
    refine jx_of (fun _ _ kz => jw_aload_n 0 d_M_choose_25 rfl rfl kz) ?_
    refine jx_of (fun _ _ kz => jw_getIe (0) fl_M_119 d_M_choose_26 rfl rfl (by simp [me_I_sI, me_I_sP, me_I_nx, me_P_sI, me_P_sP, me_P_nx, me_N_sI, me_N_sP, me_N_nx, me_L_sI, me_L_sP, me_L_nx, show me_I M 7 0 28 = 0 from hm.2.2 (7, 0, 28, 0) (by decide)]) kz) ?_
    refine jx_if_le 37 d_M_choose_29 (by decide) (fun _ => ?_) (fun h => absurd h (by decide))
    refine jx_of (fun _ _ kz => jw_aload_n 0 d_M_choose_37 rfl rfl kz) ?_
    refine jx_of (fun _ _ kz => jw_getPe (some (52, 0)) fl_M_77 d_M_choose_38 rfl rfl (by simp [me_I_sI, me_I_sP, me_I_nx, me_P_sI, me_P_sP, me_P_nx, me_N_sI, me_N_sP, me_N_nx, me_L_sI, me_L_sP, me_L_nx, show me_P M 7 0 23 = some (52, 0) from hm.1 (7, 0, 23, 52, 0) (by decide)]) kz) ?_
    refine jx_of (fun _ _ kz => jw_iload_n 1 d_M_choose_41 rfl rfl kz) ?_
    refine jx_of (fun _ _ kz => jw_ialde (0) d_M_choose_42 rfl rfl (by rw [show me_L _ 52 0 = 3 from (by simp [me_I_sI, me_I_sP, me_I_nx, me_P_sI, me_P_sP, me_P_nx, me_N_sI, me_N_sP, me_N_nx, me_L_sI, me_L_sP, me_L_nx, show me_L M 52 0 = 3 from hm.2.1 (52, 0, 3) (by decide)])]; unfold vp_in; decide) (by simp [me_I_sI, me_I_sP, me_I_nx, me_P_sI, me_P_sP, me_P_nx, me_N_sI, me_N_sP, me_N_nx, me_L_sI, me_L_sP, me_L_nx, show me_I M 52 0 2 = 0 from hm.2.2 (52, 0, 2, 0) (by decide)]) kz) ?_
    refine jx_if_gt 53 d_M_choose_43 (by decide) (fun h => absurd h (by decide)) (fun _ => ?_)
    refine jx_of (fun _ _ kz => jw_aload_n 0 d_M_choose_46 rfl rfl kz) ?_
    refine jx_of (fun _ _ kz => jw_getIe (0) fl_M_119 d_M_choose_47 rfl rfl (by simp [me_I_sI, me_I_sP, me_I_nx, me_P_sI, me_P_sP, me_P_nx, me_N_sI, me_N_sP, me_N_nx, me_L_sI, me_L_sP, me_L_nx, show me_I M 7 0 28 = 0 from hm.2.2 (7, 0, 28, 0) (by decide)]) kz) ?_
    refine jx_if_le 57 d_M_choose_50 (by decide) (fun _ => ?_) (fun h => absurd h (by decide))
    refine jx_of (fun _ _ kz => jw_iconst 0 d_M_choose_57 (by decide) kz) ?_
    refine jx_of (fun _ _ kz => jw_istore_n 3 d_M_choose_58 rfl (Nat.le_of_ble_eq_true rfl) kz) ?_
    dsimp only [List.set]
    refine jx_of (fun _ _ kz => jw_aload_n 0 d_M_choose_59 rfl rfl kz) ?_
    refine jx_of (fun _ _ kz => jw_getPe (some (48, 0)) fl_M_65 d_M_choose_60 rfl rfl (by simp [me_I_sI, me_I_sP, me_I_nx, me_P_sI, me_P_sP, me_P_nx, me_N_sI, me_N_sP, me_N_nx, me_L_sI, me_L_sP, me_L_nx, show me_P M 7 0 19 = some (48, 0) from hm.1 (7, 0, 19, 48, 0) (by decide)]) kz) ?_
    refine jx_of (fun _ _ kz => jw_iload_n 1 d_M_choose_63 rfl rfl kz) ?_
    refine jx_of (fun _ _ kz => jw_ialde ((-1)) d_M_choose_64 rfl rfl (by rw [show me_L _ 48 0 = 3 from (by simp [me_I_sI, me_I_sP, me_I_nx, me_P_sI, me_P_sP, me_P_nx, me_N_sI, me_N_sP, me_N_nx, me_L_sI, me_L_sP, me_L_nx, show me_L M 48 0 = 3 from hm.2.1 (48, 0, 3) (by decide)])]; unfold vp_in; decide) (by simp [me_I_sI, me_I_sP, me_I_nx, me_P_sI, me_P_sP, me_P_nx, me_N_sI, me_N_sP, me_N_nx, me_L_sI, me_L_sP, me_L_nx, show me_I M 48 0 2 = (-1) from hm.2.2 (48, 0, 2, (-1)) (by decide)]) kz) ?_
    refine jx_if_lt 104 d_M_choose_65 (by decide) (fun _ => ?_) (fun h => absurd h (by decide))
    refine jx_of (fun _ _ kz => jw_aload_n 0 d_M_choose_104 rfl rfl kz) ?_
    refine jx_of (fun _ _ kz => jw_getPe (some (52, 0)) fl_M_77 d_M_choose_105 rfl rfl (by simp [me_I_sI, me_I_sP, me_I_nx, me_P_sI, me_P_sP, me_P_nx, me_N_sI, me_N_sP, me_N_nx, me_L_sI, me_L_sP, me_L_nx, show me_P M 7 0 23 = some (52, 0) from hm.1 (7, 0, 23, 52, 0) (by decide)]) kz) ?_
    refine jx_of (fun _ _ kz => jw_iload_n 1 d_M_choose_108 rfl rfl kz) ?_
    refine jx_of (fun _ _ kz => jw_ialde (0) d_M_choose_109 rfl rfl (by rw [show me_L _ 52 0 = 3 from (by simp [me_I_sI, me_I_sP, me_I_nx, me_P_sI, me_P_sP, me_P_nx, me_N_sI, me_N_sP, me_N_nx, me_L_sI, me_L_sP, me_L_nx, show me_L M 52 0 = 3 from hm.2.1 (52, 0, 3) (by decide)])]; unfold vp_in; decide) (by simp [me_I_sI, me_I_sP, me_I_nx, me_P_sI, me_P_sP, me_P_nx, me_N_sI, me_N_sP, me_N_nx, me_L_sI, me_L_sP, me_L_nx, show me_I M 52 0 2 = 0 from hm.2.2 (52, 0, 2, 0) (by decide)]) kz) ?_
    refine jx_if_le 119 d_M_choose_110 (by decide) (fun _ => ?_) (fun h => absurd h (by decide))
    refine jx_of (fun _ _ kz => jw_aload_n 0 d_M_choose_119 rfl rfl kz) ?_
    refine jx_of (fun _ _ kz => jw_getIe (0) fl_M_119 d_M_choose_120 rfl rfl (by simp [me_I_sI, me_I_sP, me_I_nx, me_P_sI, me_P_sP, me_P_nx, me_N_sI, me_N_sP, me_N_nx, me_L_sI, me_L_sP, me_L_nx, show me_I M 7 0 28 = 0 from hm.2.2 (7, 0, 28, 0) (by decide)]) kz) ?_
    refine jx_if_le 131 d_M_choose_123 (by decide) (fun _ => ?_) (fun h => absurd h (by decide))
    refine jx_of (fun _ _ kz => jw_iconst 1 d_M_choose_131 (by decide) kz) ?_
    refine jx_of (fun _ _ kz => jw_istore d_M_choose_132 (Nat.le_of_ble_eq_true rfl) kz) ?_
    dsimp only [List.set]
    refine jx_of (fun _ _ kz => jw_iload d_M_choose_134 rfl kz) ?_
    refine jx_of (fun _ _ kz => jw_iconst 3 d_M_choose_136 (by decide) kz) ?_
    refine jx_icmp_ge 227 d_M_choose_137 (by decide) (fun h => absurd h (by decide)) (fun _ => ?_)
    refine jx_of (fun _ _ kz => jw_iload_n 1 d_M_choose_140 rfl rfl kz) ?_
    refine jx_of (fun _ _ kz => jw_iload d_M_choose_141 rfl kz) ?_
    refine jx_of (fun _ _ kz => jw_iadd d_M_choose_143 kz) ?_
    rw [show (2 + 1 : Int32) = 3 from by decide]
    refine jx_of (fun _ _ kz => jw_iconst 3 d_M_choose_144 (by decide) kz) ?_
    refine jx_of (fun _ _ kz => jw_irem d_M_choose_145 (by decide) kz) ?_
    rw [show (3 - 3 / 3 * 3 : Int32) = 0 from by decide]
    refine jx_of (fun _ _ kz => jw_istore d_M_choose_146 (Nat.le_of_ble_eq_true rfl) kz) ?_
    dsimp only [List.set]
    refine jx_of (fun _ _ kz => jw_aload_n 0 d_M_choose_148 rfl rfl kz) ?_
    refine jx_of (fun _ _ kz => jw_getPe (some (52, 0)) fl_M_77 d_M_choose_149 rfl rfl (by simp [me_I_sI, me_I_sP, me_I_nx, me_P_sI, me_P_sP, me_P_nx, me_N_sI, me_N_sP, me_N_nx, me_L_sI, me_L_sP, me_L_nx, show me_P M 7 0 23 = some (52, 0) from hm.1 (7, 0, 23, 52, 0) (by decide)]) kz) ?_
    refine jx_of (fun _ _ kz => jw_iload d_M_choose_152 rfl kz) ?_
    refine jx_of (fun _ _ kz => jw_ialde (0) d_M_choose_154 rfl rfl (by rw [show me_L _ 52 0 = 3 from (by simp [me_I_sI, me_I_sP, me_I_nx, me_P_sI, me_P_sP, me_P_nx, me_N_sI, me_N_sP, me_N_nx, me_L_sI, me_L_sP, me_L_nx, show me_L M 52 0 = 3 from hm.2.1 (52, 0, 3) (by decide)])]; unfold vp_in; decide) (by simp [me_I_sI, me_I_sP, me_I_nx, me_P_sI, me_P_sP, me_P_nx, me_N_sI, me_N_sP, me_N_nx, me_L_sI, me_L_sP, me_L_nx, show me_I M 52 0 0 = 0 from hm.2.2 (52, 0, 0, 0) (by decide)]) kz) ?_
    refine jx_of (fun _ _ kz => jw_iconst 1 d_M_choose_155 (by decide) kz) ?_
    refine jx_of (fun _ _ kz => jw_iadd d_M_choose_156 kz) ?_
    rw [show (0 + 1 : Int32) = 1 from by decide]
    refine jx_of (fun _ _ kz => jw_iconst 2 d_M_choose_157 (by decide) kz) ?_
    refine jx_of (fun _ _ kz => jw_idiv d_M_choose_158 (by decide) kz) ?_
    rw [show (1 / 2 : Int32) = 0 from by decide]
    refine jx_of (fun _ _ kz => jw_istore d_M_choose_159 (Nat.le_of_ble_eq_true rfl) kz) ?_
    dsimp only [List.set]
    refine jx_of (fun _ _ kz => jw_iload d_M_choose_161 rfl kz) ?_
    refine jx_if_ne 169 d_M_choose_163 (by decide) (fun h => absurd h (by decide)) (fun _ => ?_)
    refine jx_of (fun _ _ kz => jw_goto 221 d_M_choose_166 (by decide) kz) ?_
    refine jx_of (fun _ _ kz => jw_iincc 1 d_M_choose_221 (by decide) rfl (Nat.le_of_ble_eq_true rfl) kz) ?_
    dsimp only [List.set]
    rw [show (1 + 1 : Int32) = 2 from by decide]
    refine jx_of (fun _ _ kz => jw_goto 134 d_M_choose_224 (by decide) kz) ?_
    refine jx_of (fun _ _ kz => jw_iload d_M_choose_134 rfl kz) ?_
    refine jx_of (fun _ _ kz => jw_iconst 3 d_M_choose_136 (by decide) kz) ?_
    refine jx_icmp_ge 227 d_M_choose_137 (by decide) (fun h => absurd h (by decide)) (fun _ => ?_)
    refine jx_of (fun _ _ kz => jw_iload_n 1 d_M_choose_140 rfl rfl kz) ?_
    refine jx_of (fun _ _ kz => jw_iload d_M_choose_141 rfl kz) ?_
    refine jx_of (fun _ _ kz => jw_iadd d_M_choose_143 kz) ?_
    rw [show (2 + 2 : Int32) = 4 from by decide]
    refine jx_of (fun _ _ kz => jw_iconst 3 d_M_choose_144 (by decide) kz) ?_
    refine jx_of (fun _ _ kz => jw_irem d_M_choose_145 (by decide) kz) ?_
    rw [show (4 - 4 / 3 * 3 : Int32) = 1 from by decide]
    refine jx_of (fun _ _ kz => jw_istore d_M_choose_146 (Nat.le_of_ble_eq_true rfl) kz) ?_
    dsimp only [List.set]
    refine jx_of (fun _ _ kz => jw_aload_n 0 d_M_choose_148 rfl rfl kz) ?_
    refine jx_of (fun _ _ kz => jw_getPe (some (52, 0)) fl_M_77 d_M_choose_149 rfl rfl (by simp [me_I_sI, me_I_sP, me_I_nx, me_P_sI, me_P_sP, me_P_nx, me_N_sI, me_N_sP, me_N_nx, me_L_sI, me_L_sP, me_L_nx, show me_P M 7 0 23 = some (52, 0) from hm.1 (7, 0, 23, 52, 0) (by decide)]) kz) ?_
    refine jx_of (fun _ _ kz => jw_iload d_M_choose_152 rfl kz) ?_
    refine jx_of (fun _ _ kz => jw_ialde (0) d_M_choose_154 rfl rfl (by rw [show me_L _ 52 0 = 3 from (by simp [me_I_sI, me_I_sP, me_I_nx, me_P_sI, me_P_sP, me_P_nx, me_N_sI, me_N_sP, me_N_nx, me_L_sI, me_L_sP, me_L_nx, show me_L M 52 0 = 3 from hm.2.1 (52, 0, 3) (by decide)])]; unfold vp_in; decide) (by simp [me_I_sI, me_I_sP, me_I_nx, me_P_sI, me_P_sP, me_P_nx, me_N_sI, me_N_sP, me_N_nx, me_L_sI, me_L_sP, me_L_nx, show me_I M 52 0 1 = 0 from hm.2.2 (52, 0, 1, 0) (by decide)]) kz) ?_
    refine jx_of (fun _ _ kz => jw_iconst 1 d_M_choose_155 (by decide) kz) ?_
    refine jx_of (fun _ _ kz => jw_iadd d_M_choose_156 kz) ?_
    rw [show (0 + 1 : Int32) = 1 from by decide]
    refine jx_of (fun _ _ kz => jw_iconst 2 d_M_choose_157 (by decide) kz) ?_
    refine jx_of (fun _ _ kz => jw_idiv d_M_choose_158 (by decide) kz) ?_
    rw [show (1 / 2 : Int32) = 0 from by decide]
    refine jx_of (fun _ _ kz => jw_istore d_M_choose_159 (Nat.le_of_ble_eq_true rfl) kz) ?_
    dsimp only [List.set]
    refine jx_of (fun _ _ kz => jw_iload d_M_choose_161 rfl kz) ?_
    refine jx_if_ne 169 d_M_choose_163 (by decide) (fun h => absurd h (by decide)) (fun _ => ?_)
    refine jx_of (fun _ _ kz => jw_goto 221 d_M_choose_166 (by decide) kz) ?_
    refine jx_of (fun _ _ kz => jw_iincc 1 d_M_choose_221 (by decide) rfl (Nat.le_of_ble_eq_true rfl) kz) ?_
    dsimp only [List.set]
    rw [show (2 + 1 : Int32) = 3 from by decide]
    refine jx_of (fun _ _ kz => jw_goto 134 d_M_choose_224 (by decide) kz) ?_
    refine jx_of (fun _ _ kz => jw_iload d_M_choose_134 rfl kz) ?_
    refine jx_of (fun _ _ kz => jw_iconst 3 d_M_choose_136 (by decide) kz) ?_
    refine jx_icmp_ge 227 d_M_choose_137 (by decide) (fun _ => ?_) (fun h => absurd h (by decide))
    refine jx_of (fun _ _ kz => jw_bipush (-2) d_M_choose_227 (by decide) kz) ?_
    refine jx_iret d_M_choose_229 rfl ?_
    first | exact ⟨rfl, rfl⟩ | exact ⟨by simp [b_22], rfl⟩ | exact ⟨by simp_all, by simp_all⟩
set_option maxRecDepth 20000 in
set_option maxHeartbeats 4000000 in
theorem x_M_turn_2 {G : Gt} {M : Me} (d : Nat) (hm : mid M) : sx G yt_M_turn yn_M_turn (d + 2) [.inr (some (7, 0)), .inl 2] M (fun r M' => r = some (.inl (-2)) ∧ mid M' ∧ me_I M' 7 0 32 = me_I M 7 0 32 ∧ nC M M') := by
  refine sx_of (k := 1) (lc := [some (.inr (some (7, 0))), some (.inl 2), none]) mt_M_turn (Nat.le_of_ble_eq_true rfl) rfl ?_
  refine jx_of (fun _ _ kz => jw_iload_n 1 d_M_turn_0 rfl rfl kz) ?_
  refine jx_of (fun _ _ kz => jw_iconst 0 d_M_turn_1 (by decide) kz) ?_
  refine jx_of (fun _ _ kz => jw_iconst 2 d_M_turn_2 (by decide) kz) ?_
  refine jx_callS (x_M_is_t _ 2 0 2  (by decide) (by decide)) mt_M_is ml_M_93 sm_M_is d_M_turn_3 rfl rfl (Nat.le_of_ble_eq_true rfl) ?_
  rintro _ _ ⟨rfl, rfl⟩
  refine jx_eq (st2 := [.inl 1]) rfl rfl rfl ?_
  refine jx_if_ne 11 d_M_turn_6 (by decide) (fun _ => ?_) (fun h => absurd h (by decide))
  refine jx_of (fun _ _ kz => jw_aload_n 0 d_M_turn_11 rfl rfl kz) ?_
  refine jx_of (fun _ _ kz => jw_getPe (some (49, 0)) fl_M_68 d_M_turn_12 rfl rfl (by simp [me_I_sI, me_I_sP, me_I_nx, me_P_sI, me_P_sP, me_P_nx, me_N_sI, me_N_sP, me_N_nx, me_L_sI, me_L_sP, me_L_nx, show me_P M 7 0 20 = some (49, 0) from hm.1 (7, 0, 20, 49, 0) (by decide)]) kz) ?_
  refine jx_of (fun _ _ kz => jw_iload_n 1 d_M_turn_15 rfl rfl kz) ?_
  refine jx_of (fun _ _ kz => jw_dup2 d_M_turn_16 kz) ?_
  refine jx_of (fun _ _ kz => jw_ialde (me_I M 49 0 2) d_M_turn_17 rfl rfl (by rw [show me_L _ 49 0 = 3 from (by simp [me_I_sI, me_I_sP, me_I_nx, me_P_sI, me_P_sP, me_P_nx, me_N_sI, me_N_sP, me_N_nx, me_L_sI, me_L_sP, me_L_nx, show me_L M 49 0 = 3 from hm.2.1 (49, 0, 3) (by decide)])]; unfold vp_in; decide) (by simp [me_I_sI, me_I_sP, me_I_nx, me_P_sI, me_P_sP, me_P_nx, me_N_sI, me_N_sP, me_N_nx, me_L_sI, me_L_sP, me_L_nx]) kz) ?_
  refine jx_of (fun _ _ kz => jw_iconst 1 d_M_turn_18 (by decide) kz) ?_
  refine jx_of (fun _ _ kz => jw_iadd d_M_turn_19 kz) ?_
  refine jx_of (fun _ _ kz => jw_iast d_M_turn_20 rfl rfl (by rw [show me_L _ 49 0 = 3 from (by simp [me_I_sI, me_I_sP, me_I_nx, me_P_sI, me_P_sP, me_P_nx, me_N_sI, me_N_sP, me_N_nx, me_L_sI, me_L_sP, me_L_nx, show me_L M 49 0 = 3 from hm.2.1 (49, 0, 3) (by decide)])]; unfold vp_in; decide) kz) ?_
  rw [show Int32.toNatClampNeg 2 = 2 from by decide]
  refine jx_of (fun _ _ kz => jw_aload_n 0 d_M_turn_21 rfl rfl kz) ?_
  refine jx_of (fun _ _ kz => jw_iload_n 1 d_M_turn_22 rfl rfl kz) ?_
  refine jx_callV (x_M_choose_2 _  (mid_sN hm (by decide))) mt_M_choose cf_M rfl rfl ml_M_214 im_M_choose se_M_choose d_M_turn_23 rfl rfl (Nat.le_of_ble_eq_true rfl) ?_
  rintro _ _ ⟨rfl, rfl⟩
  refine jx_eq (st2 := [.inl ((-2))]) rfl rfl rfl ?_
  refine jx_of (fun _ _ kz => jw_istore_n 2 d_M_turn_26 rfl (Nat.le_of_ble_eq_true rfl) kz) ?_
  dsimp only [List.set]
  refine jx_of (fun _ _ kz => jw_iload_n 2 d_M_turn_27 rfl rfl kz) ?_
  refine jx_if_ge 34 d_M_turn_28 (by decide) (fun h => absurd h (by decide)) (fun _ => ?_)
  refine jx_of (fun _ _ kz => jw_bipush (-2) d_M_turn_31 (by decide) kz) ?_
  refine jx_iret d_M_turn_33 rfl ?_
  exact ⟨rfl, mid_sI (mid_sN hm (by decide)) (by decide), by simp [me_I_sI], rfl, rfl⟩
set_option maxRecDepth 20000 in
set_option maxHeartbeats 4000000 in
theorem x_M_turn_x {G : Gt} {M : Me} (d : Nat) (x : Int32) (hm : mfr M) (h1 : x < 0 ∨ 2 < x) : sx G yt_M_turn yn_M_turn (d + 2) [.inr (some (7, 0)), .inl x] M (fun r M' => r = some (.inl (-1)) ∧ nC M M') := by
  refine sx_of (k := 1) (lc := [some (.inr (some (7, 0))), some (.inl x), none]) mt_M_turn (Nat.le_of_ble_eq_true rfl) rfl ?_
  refine jx_of (fun _ _ kz => jw_iload_n 1 d_M_turn_0 rfl rfl kz) ?_
  refine jx_of (fun _ _ kz => jw_iconst 0 d_M_turn_1 (by decide) kz) ?_
  refine jx_of (fun _ _ kz => jw_iconst 2 d_M_turn_2 (by decide) kz) ?_
  refine jx_callS (x_M_is_f _ x 0 2  h1) mt_M_is ml_M_93 sm_M_is d_M_turn_3 rfl rfl (Nat.le_of_ble_eq_true rfl) ?_
  rintro _ _ ⟨rfl, rfl⟩
  refine jx_eq (st2 := [.inl 0]) rfl rfl rfl ?_
  refine jx_if_ne 11 d_M_turn_6 (by decide) (fun h => absurd h (by decide)) (fun _ => ?_)
  refine jx_of (fun _ _ kz => jw_iconst (-1) d_M_turn_9 (by decide) kz) ?_
  refine jx_iret d_M_turn_10 rfl ?_
  exact ⟨rfl, rfl, rfl⟩
set_option maxRecDepth 20000 in
set_option maxHeartbeats 4000000 in
theorem x_M_run_loop {G : Gt} (d n : Nat) (hn : n ≤ 30) : ∀ (m i : Nat) (M : Me) (o : Option AV), i + m = n → mid M → (me_I M 7 0 32 = 0 ∨ me_I M 7 0 32 = 1 ∨ me_I M 7 0 32 = 2) → ∀ c0 s0 : Nat, jx G yt_M_run (d + 3) c0 s0 M 16 [some (.inr (some (7, 0))), some (.inl (nI n)), some (.inl 0), some (.inl (nI i)), o] [] (fun r M' => r = some (.inl 0) ∧ nC M M') := by
  intro m
  induction m with
  | zero =>
    intro i M o hi hm hx c0 s0
    refine jx_of (fun _ _ kz => jw_iload_n 3 d_M_run_16 rfl rfl kz) ?_
    refine jx_of (fun _ _ kz => jw_iload_n 1 d_M_run_17 rfl rfl kz) ?_
    refine jx_icmp_ge 57 d_M_run_18 (by decide) (fun _ => ?_) (fun h => absurd (nI_le (by omega) (by omega)) h)
    refine jx_of (fun _ _ kz => jw_iload_n 2 d_M_run_57 rfl rfl kz) ?_
    refine jx_iret d_M_run_58 rfl ?_
    exact ⟨rfl, rfl, rfl⟩
  | succ m ih =>
    intro i M o hi hm hx c0 s0
    rcases hx with f0 | f0 | f0
    · skip
      refine jx_of (fun _ _ kz => jw_iload_n 3 d_M_run_16 rfl rfl kz) ?_
      refine jx_of (fun _ _ kz => jw_iload_n 1 d_M_run_17 rfl rfl kz) ?_
      refine jx_icmp_ge 57 d_M_run_18 (by decide) (fun h => absurd h (nI_ge (by omega) (by omega))) (fun _ => ?_)
      refine jx_of (fun _ _ kz => jw_aload_n 0 d_M_run_21 rfl rfl kz) ?_
      refine jx_of (fun _ _ kz => jw_aload_n 0 d_M_run_22 rfl rfl kz) ?_
      refine jx_of (fun _ _ kz => jw_getIe (0) fl_M_220 d_M_run_23 rfl rfl (by simp [me_I_sI, me_I_sP, me_I_nx, me_P_sI, me_P_sP, me_P_nx, me_N_sI, me_N_sP, me_N_nx, me_L_sI, me_L_sP, me_L_nx, f0]) kz) ?_
      refine jx_callV (x_M_turn_0 _  hm) mt_M_turn cf_M rfl rfl ml_M_223 im_M_turn se_M_turn d_M_run_26 rfl rfl (Nat.le_of_ble_eq_true rfl) ?_
      rintro _ M1 ⟨rfl, hm1, hn1, hc1⟩
      refine jx_eq (st2 := [.inl (-2)]) rfl rfl rfl ?_
      rw [f0] at hn1
      refine jx_of (fun _ _ kz => jw_istore d_M_run_29 (Nat.le_of_ble_eq_true rfl) kz) ?_
      dsimp only [List.set]
      refine jx_of (fun _ _ kz => jw_iload d_M_run_31 rfl kz) ?_
      refine jx_if_lt 39 d_M_run_33 (by decide) (fun _ => ?_) (fun h => absurd h (by decide))
      refine jx_of (fun _ _ kz => jw_aload_n 0 d_M_run_39 rfl rfl kz) ?_
      refine jx_of (fun _ _ kz => jw_aload_n 0 d_M_run_40 rfl rfl kz) ?_
      refine jx_of (fun _ _ kz => jw_getIe (0) fl_M_220 d_M_run_41 rfl rfl hn1 kz) ?_
      refine jx_of (fun _ _ kz => jw_iconst 1 d_M_run_44 (by decide) kz) ?_
      refine jx_of (fun _ _ kz => jw_iadd d_M_run_45 kz) ?_
      rw [show (0 + 1 : Int32) = 1 from by decide]
      refine jx_of (fun _ _ kz => jw_iconst 3 d_M_run_46 (by decide) kz) ?_
      refine jx_of (fun _ _ kz => jw_irem d_M_run_47 (by decide) kz) ?_
      rw [show (1 - 1 / 3 * 3 : Int32) = 1 from by decide]
      refine jx_of (fun _ _ kz => jw_putI fl_M_220 (Or.inl rfl) rfl rfl d_M_run_48 rfl rfl kz) ?_
      refine jx_of (fun _ _ kz => jw_iincc 1 d_M_run_51 (by decide) rfl (Nat.le_of_ble_eq_true rfl) kz) ?_
      dsimp only [List.set]
      refine jx_of (fun _ _ kz => jw_goto 16 d_M_run_54 (by decide) kz) ?_
      rw [nI_1]
      exact jx_mono (ih (i + 1) _ _ (by omega) (mid_sN hm1 (by decide)) (by simp [me_I_sI]) c0 s0) (fun r M2 h => ⟨h.1, h.2.1.trans hc1.1, h.2.2.trans hc1.2⟩)
    · skip
      refine jx_of (fun _ _ kz => jw_iload_n 3 d_M_run_16 rfl rfl kz) ?_
      refine jx_of (fun _ _ kz => jw_iload_n 1 d_M_run_17 rfl rfl kz) ?_
      refine jx_icmp_ge 57 d_M_run_18 (by decide) (fun h => absurd h (nI_ge (by omega) (by omega))) (fun _ => ?_)
      refine jx_of (fun _ _ kz => jw_aload_n 0 d_M_run_21 rfl rfl kz) ?_
      refine jx_of (fun _ _ kz => jw_aload_n 0 d_M_run_22 rfl rfl kz) ?_
      refine jx_of (fun _ _ kz => jw_getIe (1) fl_M_220 d_M_run_23 rfl rfl (by simp [me_I_sI, me_I_sP, me_I_nx, me_P_sI, me_P_sP, me_P_nx, me_N_sI, me_N_sP, me_N_nx, me_L_sI, me_L_sP, me_L_nx, f0]) kz) ?_
      refine jx_callV (x_M_turn_1 _  hm) mt_M_turn cf_M rfl rfl ml_M_223 im_M_turn se_M_turn d_M_run_26 rfl rfl (Nat.le_of_ble_eq_true rfl) ?_
      rintro _ M1 ⟨rfl, hm1, hn1, hc1⟩
      refine jx_eq (st2 := [.inl (-2)]) rfl rfl rfl ?_
      rw [f0] at hn1
      refine jx_of (fun _ _ kz => jw_istore d_M_run_29 (Nat.le_of_ble_eq_true rfl) kz) ?_
      dsimp only [List.set]
      refine jx_of (fun _ _ kz => jw_iload d_M_run_31 rfl kz) ?_
      refine jx_if_lt 39 d_M_run_33 (by decide) (fun _ => ?_) (fun h => absurd h (by decide))
      refine jx_of (fun _ _ kz => jw_aload_n 0 d_M_run_39 rfl rfl kz) ?_
      refine jx_of (fun _ _ kz => jw_aload_n 0 d_M_run_40 rfl rfl kz) ?_
      refine jx_of (fun _ _ kz => jw_getIe (1) fl_M_220 d_M_run_41 rfl rfl hn1 kz) ?_
      refine jx_of (fun _ _ kz => jw_iconst 1 d_M_run_44 (by decide) kz) ?_
      refine jx_of (fun _ _ kz => jw_iadd d_M_run_45 kz) ?_
      rw [show (1 + 1 : Int32) = 2 from by decide]
      refine jx_of (fun _ _ kz => jw_iconst 3 d_M_run_46 (by decide) kz) ?_
      refine jx_of (fun _ _ kz => jw_irem d_M_run_47 (by decide) kz) ?_
      rw [show (2 - 2 / 3 * 3 : Int32) = 2 from by decide]
      refine jx_of (fun _ _ kz => jw_putI fl_M_220 (Or.inl rfl) rfl rfl d_M_run_48 rfl rfl kz) ?_
      refine jx_of (fun _ _ kz => jw_iincc 1 d_M_run_51 (by decide) rfl (Nat.le_of_ble_eq_true rfl) kz) ?_
      dsimp only [List.set]
      refine jx_of (fun _ _ kz => jw_goto 16 d_M_run_54 (by decide) kz) ?_
      rw [nI_1]
      exact jx_mono (ih (i + 1) _ _ (by omega) (mid_sN hm1 (by decide)) (by simp [me_I_sI]) c0 s0) (fun r M2 h => ⟨h.1, h.2.1.trans hc1.1, h.2.2.trans hc1.2⟩)
    · skip
      refine jx_of (fun _ _ kz => jw_iload_n 3 d_M_run_16 rfl rfl kz) ?_
      refine jx_of (fun _ _ kz => jw_iload_n 1 d_M_run_17 rfl rfl kz) ?_
      refine jx_icmp_ge 57 d_M_run_18 (by decide) (fun h => absurd h (nI_ge (by omega) (by omega))) (fun _ => ?_)
      refine jx_of (fun _ _ kz => jw_aload_n 0 d_M_run_21 rfl rfl kz) ?_
      refine jx_of (fun _ _ kz => jw_aload_n 0 d_M_run_22 rfl rfl kz) ?_
      refine jx_of (fun _ _ kz => jw_getIe (2) fl_M_220 d_M_run_23 rfl rfl (by simp [me_I_sI, me_I_sP, me_I_nx, me_P_sI, me_P_sP, me_P_nx, me_N_sI, me_N_sP, me_N_nx, me_L_sI, me_L_sP, me_L_nx, f0]) kz) ?_
      refine jx_callV (x_M_turn_2 _  hm) mt_M_turn cf_M rfl rfl ml_M_223 im_M_turn se_M_turn d_M_run_26 rfl rfl (Nat.le_of_ble_eq_true rfl) ?_
      rintro _ M1 ⟨rfl, hm1, hn1, hc1⟩
      refine jx_eq (st2 := [.inl (-2)]) rfl rfl rfl ?_
      rw [f0] at hn1
      refine jx_of (fun _ _ kz => jw_istore d_M_run_29 (Nat.le_of_ble_eq_true rfl) kz) ?_
      dsimp only [List.set]
      refine jx_of (fun _ _ kz => jw_iload d_M_run_31 rfl kz) ?_
      refine jx_if_lt 39 d_M_run_33 (by decide) (fun _ => ?_) (fun h => absurd h (by decide))
      refine jx_of (fun _ _ kz => jw_aload_n 0 d_M_run_39 rfl rfl kz) ?_
      refine jx_of (fun _ _ kz => jw_aload_n 0 d_M_run_40 rfl rfl kz) ?_
      refine jx_of (fun _ _ kz => jw_getIe (2) fl_M_220 d_M_run_41 rfl rfl hn1 kz) ?_
      refine jx_of (fun _ _ kz => jw_iconst 1 d_M_run_44 (by decide) kz) ?_
      refine jx_of (fun _ _ kz => jw_iadd d_M_run_45 kz) ?_
      rw [show (2 + 1 : Int32) = 3 from by decide]
      refine jx_of (fun _ _ kz => jw_iconst 3 d_M_run_46 (by decide) kz) ?_
      refine jx_of (fun _ _ kz => jw_irem d_M_run_47 (by decide) kz) ?_
      rw [show (3 - 3 / 3 * 3 : Int32) = 0 from by decide]
      refine jx_of (fun _ _ kz => jw_putI fl_M_220 (Or.inl rfl) rfl rfl d_M_run_48 rfl rfl kz) ?_
      refine jx_of (fun _ _ kz => jw_iincc 1 d_M_run_51 (by decide) rfl (Nat.le_of_ble_eq_true rfl) kz) ?_
      dsimp only [List.set]
      refine jx_of (fun _ _ kz => jw_goto 16 d_M_run_54 (by decide) kz) ?_
      rw [nI_1]
      exact jx_mono (ih (i + 1) _ _ (by omega) (mid_sN hm1 (by decide)) (by simp [me_I_sI]) c0 s0) (fun r M2 h => ⟨h.1, h.2.1.trans hc1.1, h.2.2.trans hc1.2⟩)
set_option maxRecDepth 20000 in
set_option maxHeartbeats 4000000 in
theorem x_M_tick_loop {G : Gt} (d n : Nat) (hn : n ≤ 20) : ∀ (m i : Nat) (M : Me) (o : Option AV), i + m = n → mid M → me_I M 7 0 29 = nI i → ∀ c0 s0 : Nat, jx G yt_M_tick (d + 2) c0 s0 M 14 [some (.inr (some (7, 0))), some (.inl (nI n)), some (.inl (nI i)), o, none, none] [] (fun r M' => r = some (.inl (nI n)) ∧ nC M M') := by
  intro m
  induction m with
  | zero =>
    intro i M o hi hm f0 c0 s0
    refine jx_of (fun _ _ kz => jw_iload_n 2 d_M_tick_14 rfl rfl kz) ?_
    refine jx_of (fun _ _ kz => jw_iload_n 1 d_M_tick_15 rfl rfl kz) ?_
    refine jx_icmp_ge 157 d_M_tick_16 (by decide) (fun _ => ?_) (fun h => absurd (nI_le (by omega) (by omega)) h)
    refine jx_of (fun _ _ kz => jw_aload_n 0 d_M_tick_157 rfl rfl kz) ?_
    refine jx_of (fun _ _ kz => jw_getIe (nI i) fl_M_162 d_M_tick_158 rfl rfl (by simp [me_I_sI, me_I_sP, me_I_nx, me_P_sI, me_P_sP, me_P_nx, me_N_sI, me_N_sP, me_N_nx, me_L_sI, me_L_sP, me_L_nx, f0]) kz) ?_
    refine jx_iret d_M_tick_161 rfl ?_
    exact ⟨by rw [show i = n by omega], rfl, rfl⟩
  | succ m ih =>
    intro i M o hi hm f0 c0 s0
    refine jx_of (fun _ _ kz => jw_iload_n 2 d_M_tick_14 rfl rfl kz) ?_
    refine jx_of (fun _ _ kz => jw_iload_n 1 d_M_tick_15 rfl rfl kz) ?_
    refine jx_icmp_ge 157 d_M_tick_16 (by decide) (fun h => absurd h (nI_ge (by omega) (by omega))) (fun _ => ?_)
    refine jx_of (fun _ _ kz => jw_aload_n 0 d_M_tick_19 rfl rfl kz) ?_
    refine jx_of (fun _ _ kz => jw_dup d_M_tick_20 kz) ?_
    refine jx_of (fun _ _ kz => jw_getIe (nI i) fl_M_162 d_M_tick_21 rfl rfl (by simp [me_I_sI, me_I_sP, me_I_nx, me_P_sI, me_P_sP, me_P_nx, me_N_sI, me_N_sP, me_N_nx, me_L_sI, me_L_sP, me_L_nx, f0]) kz) ?_
    refine jx_of (fun _ _ kz => jw_iconst 1 d_M_tick_24 (by decide) kz) ?_
    refine jx_of (fun _ _ kz => jw_iadd d_M_tick_25 kz) ?_
    refine jx_of (fun _ _ kz => jw_putI fl_M_162 (Or.inl rfl) rfl rfl d_M_tick_26 rfl rfl kz) ?_
    refine jx_of (fun _ _ kz => jw_iconst 0 d_M_tick_29 (by decide) kz) ?_
    refine jx_of (fun _ _ kz => jw_istore_n 3 d_M_tick_30 rfl (Nat.le_of_ble_eq_true rfl) kz) ?_
    dsimp only [List.set]
    refine jx_of (fun _ _ kz => jw_iload_n 3 d_M_tick_31 rfl rfl kz) ?_
    refine jx_of (fun _ _ kz => jw_aload_n 0 d_M_tick_32 rfl rfl kz) ?_
    refine jx_of (fun _ _ kz => jw_getIe (0) fl_M_112 d_M_tick_33 rfl rfl (by simp [me_I_sI, me_I_sP, me_I_nx, me_P_sI, me_P_sP, me_P_nx, me_N_sI, me_N_sP, me_N_nx, me_L_sI, me_L_sP, me_L_nx, f0, show me_I M 7 0 27 = 0 from hm.2.2 (7, 0, 27, 0) (by decide)]) kz) ?_
    refine jx_icmp_ge 151 d_M_tick_36 (by decide) (fun _ => ?_) (fun h => absurd h (by decide))
    refine jx_of (fun _ _ kz => jw_iincc 1 d_M_tick_151 (by decide) rfl (Nat.le_of_ble_eq_true rfl) kz) ?_
    dsimp only [List.set]
    refine jx_of (fun _ _ kz => jw_goto 14 d_M_tick_154 (by decide) kz) ?_
    rw [nI_1]
    exact jx_mono (ih (i + 1) _ _ (by omega) (mid_sN hm (by decide)) (by simp [me_I_sI]) c0 s0) (fun r M2 h => ⟨h.1, h.2.1, h.2.2⟩)
