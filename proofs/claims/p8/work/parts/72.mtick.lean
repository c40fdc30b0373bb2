def pk8 (s k : Nat) : Prop := (s ≠ 7 ∧ s < 33) ∨ (s = 7 ∧ k = 3)
/-- programs and draft are left alone -/
def pg (M M' : Me) : Prop := sq M M' ∧ ∀ s i k, pk8 s k → me_I M' s i k = me_I M s i k
theorem pg_rf {M : Me} : pg M M := ⟨sq_rf, fun _ _ _ _ => rfl⟩
theorem pg_tr {M M1 M2 : Me} (h : pg M M1) (h2 : pg M1 M2) : pg M M2 := ⟨sq_tr h.1 h2.1, fun s i k q => (h2.2 s i k q).trans (h.2 s i k q)⟩
theorem pg_pf {M M' : Me} (h : pf M M') : pg M M' := ⟨h.1, fun s i k q => h.2 s i k (by unfold pk8 at q; unfold pk7; omega)⟩
theorem pg_clk {M M1 : Me} {v : Int32} (h : pg M M1) : pg M (me_sI M1 7 0 29 v) := by
  refine ⟨sq_sI h.1, fun s' i k' q => ?_⟩
  rw [mx_ne (by unfold pk8 at q; omega)]; exact h.2 s' i k' q
theorem mJ_clk {M : Me} {np nt : Nat} {v : Int32} (h : mJ M np nt) : mJ (me_sI M 7 0 29 v) np nt :=
  ⟨mI_any h.1 (Or.inr (Or.inr (Or.inr ⟨rfl, Or.inl rfl⟩))), by rw [mx_ne (by omega)]; exact h.2.1, by rw [mx_ne (by omega)]; exact h.2.2⟩
set_option maxRecDepth 20000 in
set_option maxHeartbeats 4000000 in
theorem tc_in {G : Gt} {M1 : Me} (d n c t p len : Nat) (o : Nat → Nat) (c0 s0 : Nat) (Q : Option AV → Me → Prop) (hm1 : mSh M1) (ht : t < 12) (hq : tP M1 t p len o) (hK : ∀ (w : Int32) (o5 : Option AV), jx G yt_M_tick (d + 5) c0 s0 M1 135 [some (.inr (some (7, 0))), some (.inl (nI n)), some (.inl (nI c)), some (.inl (nI t)), some (.inl w), o5] [] Q) : ∀ (m j : Nat) (w : Int32), j + m = len → jx G yt_M_tick (d + 5) c0 s0 M1 45 [some (.inr (some (7, 0))), some (.inl (nI n)), some (.inl (nI c)), some (.inl (nI t)), some (.inl w), some (.inl (nI j))] [] Q := by
  have hle := hq.2.2.1
  intro m
  induction m with
  | zero =>
    intro j w hk
    refine jx_of (fun _ _ kz => jw_iload d_M_tick_45 rfl kz) ?_
    refine jx_of (fun _ _ kz => jw_aload_n 0 d_M_tick_47 rfl rfl kz) ?_
    refine jx_of (fun _ _ kz => jw_getPe (some (32, 0)) fl_M_16 d_M_tick_48 rfl rfl (by simp [me_I_sI, me_I_sP, me_I_nx, me_P_sI, me_P_sP, me_P_nx, me_N_sI, me_N_sP, me_N_nx, me_L_sI, me_L_sP, me_L_nx, show me_P M1 7 0 2 = some (32, 0) from hm1.1 (7, 0, 2, 32, 0) (by decide)]) kz) ?_
    refine jx_of (fun _ _ kz => jw_aload_n 0 d_M_tick_51 rfl rfl kz) ?_
    refine jx_of (fun _ _ kz => jw_getPe (some (36, 0)) fl_M_28 d_M_tick_52 rfl rfl (by simp [me_I_sI, me_I_sP, me_I_nx, me_P_sI, me_P_sP, me_P_nx, me_N_sI, me_N_sP, me_N_nx, me_L_sI, me_L_sP, me_L_nx, show me_P M1 7 0 7 = some (36, 0) from hm1.1 (7, 0, 7, 36, 0) (by decide)]) kz) ?_
    refine jx_of (fun _ _ kz => jw_iload_n 3 d_M_tick_55 rfl rfl kz) ?_
    refine jx_of (fun _ _ kz => jw_ialde (nI p) d_M_tick_56 rfl rfl (by rw [show me_L _ 36 0 = 12 from (by simp [me_I_sI, me_I_sP, me_I_nx, me_P_sI, me_P_sP, me_P_nx, me_N_sI, me_N_sP, me_N_nx, me_L_sI, me_L_sP, me_L_nx, show me_L M1 36 0 = 12 from hm1.2 (36, 0, 12) (by decide)])]; exact (vp_in_nI (by omega) (by decide))) (by rw [nI_clamp (by omega)]; exact hq.1) kz) ?_
    refine jx_of (fun _ _ kz => jw_ialde (nI len) d_M_tick_57 rfl rfl (by rw [show me_L _ 32 0 = 7 from (by simp [me_I_sI, me_I_sP, me_I_nx, me_P_sI, me_P_sP, me_P_nx, me_N_sI, me_N_sP, me_N_nx, me_L_sI, me_L_sP, me_L_nx, show me_L M1 32 0 = 7 from hm1.2 (32, 0, 7) (by decide)])]; exact (vp_in_nI (by have := hq.2.1; omega) (by decide))) (by rw [nI_clamp (by have := hq.2.1; omega)]; exact hq.2.2.2.1) kz) ?_
    refine jx_icmp_ge 135 d_M_tick_58 (by decide) (fun _ => ?_) (fun h => absurd (nI_le (by omega) (by omega)) h)
    exact hK _ _
  | succ m ih =>
    intro j w hk
    refine jx_of (fun _ _ kz => jw_iload d_M_tick_45 rfl kz) ?_
    refine jx_of (fun _ _ kz => jw_aload_n 0 d_M_tick_47 rfl rfl kz) ?_
    refine jx_of (fun _ _ kz => jw_getPe (some (32, 0)) fl_M_16 d_M_tick_48 rfl rfl (by simp [me_I_sI, me_I_sP, me_I_nx, me_P_sI, me_P_sP, me_P_nx, me_N_sI, me_N_sP, me_N_nx, me_L_sI, me_L_sP, me_L_nx, show me_P M1 7 0 2 = some (32, 0) from hm1.1 (7, 0, 2, 32, 0) (by decide)]) kz) ?_
    refine jx_of (fun _ _ kz => jw_aload_n 0 d_M_tick_51 rfl rfl kz) ?_
    refine jx_of (fun _ _ kz => jw_getPe (some (36, 0)) fl_M_28 d_M_tick_52 rfl rfl (by simp [me_I_sI, me_I_sP, me_I_nx, me_P_sI, me_P_sP, me_P_nx, me_N_sI, me_N_sP, me_N_nx, me_L_sI, me_L_sP, me_L_nx, show me_P M1 7 0 7 = some (36, 0) from hm1.1 (7, 0, 7, 36, 0) (by decide)]) kz) ?_
    refine jx_of (fun _ _ kz => jw_iload_n 3 d_M_tick_55 rfl rfl kz) ?_
    refine jx_of (fun _ _ kz => jw_ialde (nI p) d_M_tick_56 rfl rfl (by rw [show me_L _ 36 0 = 12 from (by simp [me_I_sI, me_I_sP, me_I_nx, me_P_sI, me_P_sP, me_P_nx, me_N_sI, me_N_sP, me_N_nx, me_L_sI, me_L_sP, me_L_nx, show me_L M1 36 0 = 12 from hm1.2 (36, 0, 12) (by decide)])]; exact (vp_in_nI (by omega) (by decide))) (by rw [nI_clamp (by omega)]; exact hq.1) kz) ?_
    refine jx_of (fun _ _ kz => jw_ialde (nI len) d_M_tick_57 rfl rfl (by rw [show me_L _ 32 0 = 7 from (by simp [me_I_sI, me_I_sP, me_I_nx, me_P_sI, me_P_sP, me_P_nx, me_N_sI, me_N_sP, me_N_nx, me_L_sI, me_L_sP, me_L_nx, show me_L M1 32 0 = 7 from hm1.2 (32, 0, 7) (by decide)])]; exact (vp_in_nI (by have := hq.2.1; omega) (by decide))) (by rw [nI_clamp (by have := hq.2.1; omega)]; exact hq.2.2.2.1) kz) ?_
    refine jx_icmp_ge 135 d_M_tick_58 (by decide) (fun h => absurd h (nI_ge (by omega) (by omega))) (fun _ => ?_)
    refine jx_of (fun _ _ kz => jw_iload d_M_tick_61 rfl kz) ?_
    refine jx_of (fun _ _ kz => jw_aload_n 0 d_M_tick_63 rfl rfl kz) ?_
    refine jx_of (fun _ _ kz => jw_iload_n 3 d_M_tick_64 rfl rfl kz) ?_
    refine jx_of (fun _ _ kz => jw_iload d_M_tick_65 rfl kz) ?_
    refine jx_callV (z_M_opOf (d + 3) t j p hm1  (by omega) (by omega) hq.1 hq.2.1) mt_M_opOf cf_M rfl rfl ml_M_108 im_M_opOf se_M_opOf d_M_tick_67 rfl rfl (Nat.le_of_ble_eq_true rfl) ?_
    rintro _ _ ⟨rfl, rfl⟩
    refine jx_eq (st2 := [.inl (me_I M1 30 0 (12 * p + j)), .inl w]) rfl rfl rfl ?_
    refine jx_of (fun _ _ kz => jw_iconst 2 d_M_tick_70 (by decide) kz) ?_
    refine jx_icmp_eq 86 d_M_tick_71 (by decide) (fun b_71 => ?_) (fun b_71 => ?_)
    · skip
      refine jx_of (fun _ _ kz => jw_aload_n 0 d_M_tick_86 rfl rfl kz) ?_
      refine jx_of (fun _ _ kz => jw_getPe (some (40, 0)) fl_M_41 d_M_tick_87 rfl rfl (by simp [me_I_sI, me_I_sP, me_I_nx, me_P_sI, me_P_sP, me_P_nx, me_N_sI, me_N_sP, me_N_nx, me_L_sI, me_L_sP, me_L_nx, show me_P M1 7 0 11 = some (40, 0) from hm1.1 (7, 0, 11, 40, 0) (by decide)]) kz) ?_
      refine jx_of (fun _ _ kz => jw_bipush 12 d_M_tick_90 (by decide) kz) ?_
      refine jx_of (fun _ _ kz => jw_iload_n 3 d_M_tick_92 rfl rfl kz) ?_
      refine jx_of (fun _ _ kz => jw_imul d_M_tick_93 kz) ?_
      rw [show (12 * (nI t) : Int32) = nI (12 * t) from n12 t]
      refine jx_of (fun _ _ kz => jw_iload d_M_tick_94 rfl kz) ?_
      refine jx_of (fun _ _ kz => jw_iadd d_M_tick_96 kz) ?_
      rw [show ((nI (12 * t)) + (nI j) : Int32) = nI (12 * t + j) from nI_add _ _]
      refine jx_of (fun _ _ kz => jw_ialde (_) d_M_tick_97 rfl rfl (by rw [show me_L _ 40 0 = 144 from (by simp [me_I_sI, me_I_sP, me_I_nx, me_P_sI, me_P_sP, me_P_nx, me_N_sI, me_N_sP, me_N_nx, me_L_sI, me_L_sP, me_L_nx, show me_L M1 40 0 = 144 from hm1.2 (40, 0, 144) (by decide)])]; exact (vp_in_nI (by omega) (by decide))) rfl kz) ?_
      refine jx_of (fun _ _ kz => jw_iconst 1 d_M_tick_98 (by decide) kz) ?_
      refine jx_icmp_ne 125 d_M_tick_99 (by decide) (fun b_99 => ?_) (fun b_99 => ?_)
      · skip
        refine jx_of (fun _ _ kz => jw_iconst 0 d_M_tick_125 (by decide) kz) ?_
        refine jx_of (fun _ _ kz => jw_ior d_M_tick_126 kz) ?_
        refine jx_of (fun _ _ kz => jw_istore d_M_tick_127 (Nat.le_of_ble_eq_true rfl) kz) ?_
        dsimp only [List.set]
        refine jx_of (fun _ _ kz => jw_iincc 1 d_M_tick_129 (by decide) rfl (Nat.le_of_ble_eq_true rfl) kz) ?_
        dsimp only [List.set]
        refine jx_of (fun _ _ kz => jw_goto 45 d_M_tick_132 (by decide) kz) ?_
        rw [nI_1]
        exact ih (j + 1) _ (by omega)
      · skip
        refine jx_of (fun _ _ kz => jw_aload_n 0 d_M_tick_102 rfl rfl kz) ?_
        refine jx_of (fun _ _ kz => jw_getPe (some (42, 0)) fl_M_47 d_M_tick_103 rfl rfl (by simp [me_I_sI, me_I_sP, me_I_nx, me_P_sI, me_P_sP, me_P_nx, me_N_sI, me_N_sP, me_N_nx, me_L_sI, me_L_sP, me_L_nx, show me_P M1 7 0 13 = some (42, 0) from hm1.1 (7, 0, 13, 42, 0) (by decide)]) kz) ?_
        refine jx_of (fun _ _ kz => jw_bipush 12 d_M_tick_106 (by decide) kz) ?_
        refine jx_of (fun _ _ kz => jw_iload_n 3 d_M_tick_108 rfl rfl kz) ?_
        refine jx_of (fun _ _ kz => jw_imul d_M_tick_109 kz) ?_
        rw [show (12 * (nI t) : Int32) = nI (12 * t) from n12 t]
        refine jx_of (fun _ _ kz => jw_iload d_M_tick_110 rfl kz) ?_
        refine jx_of (fun _ _ kz => jw_iadd d_M_tick_112 kz) ?_
        rw [show ((nI (12 * t)) + (nI j) : Int32) = nI (12 * t + j) from nI_add _ _]
        refine jx_of (fun _ _ kz => jw_ialde (_) d_M_tick_113 rfl rfl (by rw [show me_L _ 42 0 = 144 from (by simp [me_I_sI, me_I_sP, me_I_nx, me_P_sI, me_P_sP, me_P_nx, me_N_sI, me_N_sP, me_N_nx, me_L_sI, me_L_sP, me_L_nx, show me_L M1 42 0 = 144 from hm1.2 (42, 0, 144) (by decide)])]; exact (vp_in_nI (by omega) (by decide))) rfl kz) ?_
        refine jx_of (fun _ _ kz => jw_aload_n 0 d_M_tick_114 rfl rfl kz) ?_
        refine jx_of (fun _ _ kz => jw_getIe (_) fl_M_162 d_M_tick_115 rfl rfl rfl kz) ?_
        refine jx_icmp_ne 125 d_M_tick_118 (by decide) (fun b_118 => ?_) (fun b_118 => ?_)
        · skip
          refine jx_of (fun _ _ kz => jw_iconst 0 d_M_tick_125 (by decide) kz) ?_
          refine jx_of (fun _ _ kz => jw_ior d_M_tick_126 kz) ?_
          refine jx_of (fun _ _ kz => jw_istore d_M_tick_127 (Nat.le_of_ble_eq_true rfl) kz) ?_
          dsimp only [List.set]
          refine jx_of (fun _ _ kz => jw_iincc 1 d_M_tick_129 (by decide) rfl (Nat.le_of_ble_eq_true rfl) kz) ?_
          dsimp only [List.set]
          refine jx_of (fun _ _ kz => jw_goto 45 d_M_tick_132 (by decide) kz) ?_
          rw [nI_1]
          exact ih (j + 1) _ (by omega)
        · skip
          refine jx_of (fun _ _ kz => jw_iconst 1 d_M_tick_121 (by decide) kz) ?_
          refine jx_of (fun _ _ kz => jw_goto 126 d_M_tick_122 (by decide) kz) ?_
          refine jx_of (fun _ _ kz => jw_ior d_M_tick_126 kz) ?_
          refine jx_of (fun _ _ kz => jw_istore d_M_tick_127 (Nat.le_of_ble_eq_true rfl) kz) ?_
          dsimp only [List.set]
          refine jx_of (fun _ _ kz => jw_iincc 1 d_M_tick_129 (by decide) rfl (Nat.le_of_ble_eq_true rfl) kz) ?_
          dsimp only [List.set]
          refine jx_of (fun _ _ kz => jw_goto 45 d_M_tick_132 (by decide) kz) ?_
          rw [nI_1]
          exact ih (j + 1) _ (by omega)
    · skip
      refine jx_of (fun _ _ kz => jw_aload_n 0 d_M_tick_74 rfl rfl kz) ?_
      refine jx_of (fun _ _ kz => jw_iload_n 3 d_M_tick_75 rfl rfl kz) ?_
      refine jx_of (fun _ _ kz => jw_iload d_M_tick_76 rfl kz) ?_
      refine jx_callV (z_M_opOf (d + 3) t j p hm1  (by omega) (by omega) hq.1 hq.2.1) mt_M_opOf cf_M rfl rfl ml_M_108 im_M_opOf se_M_opOf d_M_tick_78 rfl rfl (Nat.le_of_ble_eq_true rfl) ?_
      rintro _ _ ⟨rfl, rfl⟩
      refine jx_eq (st2 := [.inl (me_I M1 30 0 (12 * p + j)), .inl w]) rfl rfl rfl ?_
      refine jx_of (fun _ _ kz => jw_bipush 13 d_M_tick_81 (by decide) kz) ?_
      refine jx_icmp_ne 125 d_M_tick_83 (by decide) (fun b_83 => ?_) (fun b_83 => ?_)
      · skip
        refine jx_of (fun _ _ kz => jw_iconst 0 d_M_tick_125 (by decide) kz) ?_
        refine jx_of (fun _ _ kz => jw_ior d_M_tick_126 kz) ?_
        refine jx_of (fun _ _ kz => jw_istore d_M_tick_127 (Nat.le_of_ble_eq_true rfl) kz) ?_
        dsimp only [List.set]
        refine jx_of (fun _ _ kz => jw_iincc 1 d_M_tick_129 (by decide) rfl (Nat.le_of_ble_eq_true rfl) kz) ?_
        dsimp only [List.set]
        refine jx_of (fun _ _ kz => jw_goto 45 d_M_tick_132 (by decide) kz) ?_
        rw [nI_1]
        exact ih (j + 1) _ (by omega)
      · skip
        refine jx_of (fun _ _ kz => jw_aload_n 0 d_M_tick_86 rfl rfl kz) ?_
        refine jx_of (fun _ _ kz => jw_getPe (some (40, 0)) fl_M_41 d_M_tick_87 rfl rfl (by simp [me_I_sI, me_I_sP, me_I_nx, me_P_sI, me_P_sP, me_P_nx, me_N_sI, me_N_sP, me_N_nx, me_L_sI, me_L_sP, me_L_nx, show me_P M1 7 0 11 = some (40, 0) from hm1.1 (7, 0, 11, 40, 0) (by decide)]) kz) ?_
        refine jx_of (fun _ _ kz => jw_bipush 12 d_M_tick_90 (by decide) kz) ?_
        refine jx_of (fun _ _ kz => jw_iload_n 3 d_M_tick_92 rfl rfl kz) ?_
        refine jx_of (fun _ _ kz => jw_imul d_M_tick_93 kz) ?_
        rw [show (12 * (nI t) : Int32) = nI (12 * t) from n12 t]
        refine jx_of (fun _ _ kz => jw_iload d_M_tick_94 rfl kz) ?_
        refine jx_of (fun _ _ kz => jw_iadd d_M_tick_96 kz) ?_
        rw [show ((nI (12 * t)) + (nI j) : Int32) = nI (12 * t + j) from nI_add _ _]
        refine jx_of (fun _ _ kz => jw_ialde (_) d_M_tick_97 rfl rfl (by rw [show me_L _ 40 0 = 144 from (by simp [me_I_sI, me_I_sP, me_I_nx, me_P_sI, me_P_sP, me_P_nx, me_N_sI, me_N_sP, me_N_nx, me_L_sI, me_L_sP, me_L_nx, show me_L M1 40 0 = 144 from hm1.2 (40, 0, 144) (by decide)])]; exact (vp_in_nI (by omega) (by decide))) rfl kz) ?_
        refine jx_of (fun _ _ kz => jw_iconst 1 d_M_tick_98 (by decide) kz) ?_
        refine jx_icmp_ne 125 d_M_tick_99 (by decide) (fun b_99 => ?_) (fun b_99 => ?_)
        · skip
          refine jx_of (fun _ _ kz => jw_iconst 0 d_M_tick_125 (by decide) kz) ?_
          refine jx_of (fun _ _ kz => jw_ior d_M_tick_126 kz) ?_
          refine jx_of (fun _ _ kz => jw_istore d_M_tick_127 (Nat.le_of_ble_eq_true rfl) kz) ?_
          dsimp only [List.set]
          refine jx_of (fun _ _ kz => jw_iincc 1 d_M_tick_129 (by decide) rfl (Nat.le_of_ble_eq_true rfl) kz) ?_
          dsimp only [List.set]
          refine jx_of (fun _ _ kz => jw_goto 45 d_M_tick_132 (by decide) kz) ?_
          rw [nI_1]
          exact ih (j + 1) _ (by omega)
        · skip
          refine jx_of (fun _ _ kz => jw_aload_n 0 d_M_tick_102 rfl rfl kz) ?_
          refine jx_of (fun _ _ kz => jw_getPe (some (42, 0)) fl_M_47 d_M_tick_103 rfl rfl (by simp [me_I_sI, me_I_sP, me_I_nx, me_P_sI, me_P_sP, me_P_nx, me_N_sI, me_N_sP, me_N_nx, me_L_sI, me_L_sP, me_L_nx, show me_P M1 7 0 13 = some (42, 0) from hm1.1 (7, 0, 13, 42, 0) (by decide)]) kz) ?_
          refine jx_of (fun _ _ kz => jw_bipush 12 d_M_tick_106 (by decide) kz) ?_
          refine jx_of (fun _ _ kz => jw_iload_n 3 d_M_tick_108 rfl rfl kz) ?_
          refine jx_of (fun _ _ kz => jw_imul d_M_tick_109 kz) ?_
          rw [show (12 * (nI t) : Int32) = nI (12 * t) from n12 t]
          refine jx_of (fun _ _ kz => jw_iload d_M_tick_110 rfl kz) ?_
          refine jx_of (fun _ _ kz => jw_iadd d_M_tick_112 kz) ?_
          rw [show ((nI (12 * t)) + (nI j) : Int32) = nI (12 * t + j) from nI_add _ _]
          refine jx_of (fun _ _ kz => jw_ialde (_) d_M_tick_113 rfl rfl (by rw [show me_L _ 42 0 = 144 from (by simp [me_I_sI, me_I_sP, me_I_nx, me_P_sI, me_P_sP, me_P_nx, me_N_sI, me_N_sP, me_N_nx, me_L_sI, me_L_sP, me_L_nx, show me_L M1 42 0 = 144 from hm1.2 (42, 0, 144) (by decide)])]; exact (vp_in_nI (by omega) (by decide))) rfl kz) ?_
          refine jx_of (fun _ _ kz => jw_aload_n 0 d_M_tick_114 rfl rfl kz) ?_
          refine jx_of (fun _ _ kz => jw_getIe (_) fl_M_162 d_M_tick_115 rfl rfl rfl kz) ?_
          refine jx_icmp_ne 125 d_M_tick_118 (by decide) (fun b_118 => ?_) (fun b_118 => ?_)
          · skip
            refine jx_of (fun _ _ kz => jw_iconst 0 d_M_tick_125 (by decide) kz) ?_
            refine jx_of (fun _ _ kz => jw_ior d_M_tick_126 kz) ?_
            refine jx_of (fun _ _ kz => jw_istore d_M_tick_127 (Nat.le_of_ble_eq_true rfl) kz) ?_
            dsimp only [List.set]
            refine jx_of (fun _ _ kz => jw_iincc 1 d_M_tick_129 (by decide) rfl (Nat.le_of_ble_eq_true rfl) kz) ?_
            dsimp only [List.set]
            refine jx_of (fun _ _ kz => jw_goto 45 d_M_tick_132 (by decide) kz) ?_
            rw [nI_1]
            exact ih (j + 1) _ (by omega)
          · skip
            refine jx_of (fun _ _ kz => jw_iconst 1 d_M_tick_121 (by decide) kz) ?_
            refine jx_of (fun _ _ kz => jw_goto 126 d_M_tick_122 (by decide) kz) ?_
            refine jx_of (fun _ _ kz => jw_ior d_M_tick_126 kz) ?_
            refine jx_of (fun _ _ kz => jw_istore d_M_tick_127 (Nat.le_of_ble_eq_true rfl) kz) ?_
            dsimp only [List.set]
            refine jx_of (fun _ _ kz => jw_iincc 1 d_M_tick_129 (by decide) rfl (Nat.le_of_ble_eq_true rfl) kz) ?_
            dsimp only [List.set]
            refine jx_of (fun _ _ kz => jw_goto 45 d_M_tick_132 (by decide) kz) ?_
            rw [nI_1]
            exact ih (j + 1) _ (by omega)
set_option maxRecDepth 20000 in
set_option maxHeartbeats 4000000 in
theorem tc_mid {G : Gt} {M0 : Me} (d n c np nt : Nat) (hnt : nt ≤ 12) (c0 s0 : Nat) (Q : Option AV → Me → Prop) (hK : ∀ (M1 : Me) (o3 o4 o5 : Option AV), iv np nt nt [] M0 M1 → jx G yt_M_tick (d + 5) c0 s0 M1 151 [some (.inr (some (7, 0))), some (.inl (nI n)), some (.inl (nI c)), o3, o4, o5] [] Q) : ∀ (m t : Nat) (M1 : Me) (o4 o5 : Option AV), t + m = nt → iv np nt nt [] M0 M1 → jx G yt_M_tick (d + 5) c0 s0 M1 31 [some (.inr (some (7, 0))), some (.inl (nI n)), some (.inl (nI c)), some (.inl (nI t)), o4, o5] [] Q := by
  intro m
  induction m with
  | zero =>
    intro t M1 o4 o5 hk h1
    have hm1 := h1.2.1.1
    refine jx_of (fun _ _ kz => jw_iload_n 3 d_M_tick_31 rfl rfl kz) ?_
    refine jx_of (fun _ _ kz => jw_aload_n 0 d_M_tick_32 rfl rfl kz) ?_
    refine jx_of (fun _ _ kz => jw_getIe (nI nt) fl_M_112 d_M_tick_33 rfl rfl h1.2.1.2.2.1.1 kz) ?_
    refine jx_icmp_ge 151 d_M_tick_36 (by decide) (fun _ => ?_) (fun h => absurd (nI_le (by omega) (by omega)) h)
    exact hK _ _ _ _ h1
  | succ m ih =>
    intro t M1 o4 o5 hk h1
    have hm1 := h1.2.1.1
    obtain ⟨p, len, o, hq⟩ := tP_mI h1.2.1 (t := t) (by omega)
    have h135 : ∀ (w : Int32) (o5 : Option AV), jx G yt_M_tick (d + 5) c0 s0 M1 135 [some (.inr (some (7, 0))), some (.inl (nI n)), some (.inl (nI c)), some (.inl (nI t)), some (.inl w), o5] [] Q := by
      intro w o5
      refine jx_of (fun _ _ kz => jw_iload d_M_tick_135 rfl kz) ?_
      refine jx_if_eq 145 d_M_tick_137 (by decide) (fun b_137 => ?_) (fun b_137 => ?_)
      · skip
        refine jx_of (fun _ _ kz => jw_iincc 1 d_M_tick_145 (by decide) rfl (Nat.le_of_ble_eq_true rfl) kz) ?_
        dsimp only [List.set]
        refine jx_of (fun _ _ kz => jw_goto 31 d_M_tick_148 (by decide) kz) ?_
        rw [nI_1]
        first | exact ih (t + 1) _ _ _ (by omega) h2 | exact ih (t + 1) _ _ _ (by omega) h1
      · skip
        refine jx_of (fun _ _ kz => jw_aload_n 0 d_M_tick_140 rfl rfl kz) ?_
        refine jx_of (fun _ _ kz => jw_iload_n 3 d_M_tick_141 rfl rfl kz) ?_
        refine jx_callV (z_M_wakeUp d t nt ([]) hm1  (by omega) h1.2.1.2.2.2.2 h1.2.1.2.2.2.1) mt_M_wakeUp cf_M rfl rfl ml_M_115 im_M_wakeUp se_M_wakeUp d_M_tick_142 rfl rfl (Nat.le_of_ble_eq_true rfl) ?_
        rintro _ M2 ⟨rfl, q9, c9, t9⟩
        have h2 := iv_mc h1 q9 c9 t9
        refine jx_eq (st2 := []) rfl rfl rfl ?_
        refine jx_of (fun _ _ kz => jw_iincc 1 d_M_tick_145 (by decide) rfl (Nat.le_of_ble_eq_true rfl) kz) ?_
        dsimp only [List.set]
        refine jx_of (fun _ _ kz => jw_goto 31 d_M_tick_148 (by decide) kz) ?_
        rw [nI_1]
        first | exact ih (t + 1) _ _ _ (by omega) h2 | exact ih (t + 1) _ _ _ (by omega) h1
    refine jx_of (fun _ _ kz => jw_iload_n 3 d_M_tick_31 rfl rfl kz) ?_
    refine jx_of (fun _ _ kz => jw_aload_n 0 d_M_tick_32 rfl rfl kz) ?_
    refine jx_of (fun _ _ kz => jw_getIe (nI nt) fl_M_112 d_M_tick_33 rfl rfl h1.2.1.2.2.1.1 kz) ?_
    refine jx_icmp_ge 151 d_M_tick_36 (by decide) (fun h => absurd h (nI_ge (by omega) (by omega))) (fun _ => ?_)
    refine jx_of (fun _ _ kz => jw_iconst 0 d_M_tick_39 (by decide) kz) ?_
    refine jx_of (fun _ _ kz => jw_istore d_M_tick_40 (Nat.le_of_ble_eq_true rfl) kz) ?_
    dsimp only [List.set]
    refine jx_of (fun _ _ kz => jw_iconst 0 d_M_tick_42 (by decide) kz) ?_
    refine jx_of (fun _ _ kz => jw_istore d_M_tick_43 (Nat.le_of_ble_eq_true rfl) kz) ?_
    dsimp only [List.set]
    exact tc_in d n c t p len o _ _ _ hm1 (by omega) hq h135 len 0 0 (by omega)
set_option maxRecDepth 20000 in
set_option maxHeartbeats 4000000 in
theorem tc_out {G : Gt} {M : Me} (d n np nt : Nat) (hn : n ≤ 20) (c0 s0 : Nat) : ∀ (m c : Nat) (M1 : Me) (o3 o4 o5 : Option AV), c + m = n → mJ M1 np nt → pg M M1 → me_I M1 7 0 29 = me_I M 7 0 29 + nI c → jx G yt_M_tick (d + 5) c0 s0 M1 14 [some (.inr (some (7, 0))), some (.inl (nI n)), some (.inl (nI c)), o3, o4, o5] [] (fun r M' => r = some (.inl (me_I M 7 0 29 + nI n)) ∧ mJ M' np nt ∧ pg M M' ∧ me_I M' 7 0 29 = me_I M 7 0 29 + nI n) := by
  intro m
  induction m with
  | zero =>
    intro c M1 o3 o4 o5 hk h1 g1 e1
    refine jx_of (fun _ _ kz => jw_iload_n 2 d_M_tick_14 rfl rfl kz) ?_
    refine jx_of (fun _ _ kz => jw_iload_n 1 d_M_tick_15 rfl rfl kz) ?_
    refine jx_icmp_ge 157 d_M_tick_16 (by decide) (fun _ => ?_) (fun h => absurd (nI_le (by omega) (by omega)) h)
    refine jx_of (fun _ _ kz => jw_aload_n 0 d_M_tick_157 rfl rfl kz) ?_
    refine jx_of (fun _ _ kz => jw_getIe (me_I M 7 0 29 + nI c) fl_M_162 d_M_tick_158 rfl rfl e1 kz) ?_
    refine jx_iret d_M_tick_161 rfl ?_
    exact ⟨by rw [show n = c by omega], h1, g1, by rw [show n = c by omega]; exact e1⟩
  | succ m ih =>
    intro c M1 o3 o4 o5 hk h1 g1 e1
    have h151 : ∀ (M2 : Me) (o3 o4 o5 : Option AV), iv np nt nt [] (me_sI M1 7 0 29 (me_I M 7 0 29 + nI (c + 1))) M2 → jx G yt_M_tick (d + 5) c0 s0 M2 151 [some (.inr (some (7, 0))), some (.inl (nI n)), some (.inl (nI c)), o3, o4, o5] [] (fun r M' => r = some (.inl (me_I M 7 0 29 + nI n)) ∧ mJ M' np nt ∧ pg M M' ∧ me_I M' 7 0 29 = me_I M 7 0 29 + nI n) := by
      intro M2 o3 o4 o5 h2
      refine jx_of (fun _ _ kz => jw_iincc 1 d_M_tick_151 (by decide) rfl (Nat.le_of_ble_eq_true rfl) kz) ?_
      dsimp only [List.set]
      refine jx_of (fun _ _ kz => jw_goto 14 d_M_tick_154 (by decide) kz) ?_
      rw [nI_1]
      exact ih (c + 1) M2 _ _ _ (by omega) (mJ_iw (mJ_clk h1) (iw_iv h2)) (pg_tr (pg_clk g1) (pg_pf (pf_fw (iw_iv h2).2.2.1))) ((h2.2.2.1.2.1 7 0 29 (by unfold kg; omega)).trans (by simp [me_I_sI]))
    refine jx_of (fun _ _ kz => jw_iload_n 2 d_M_tick_14 rfl rfl kz) ?_
    refine jx_of (fun _ _ kz => jw_iload_n 1 d_M_tick_15 rfl rfl kz) ?_
    refine jx_icmp_ge 157 d_M_tick_16 (by decide) (fun h => absurd h (nI_ge (by omega) (by omega))) (fun _ => ?_)
    refine jx_of (fun _ _ kz => jw_aload_n 0 d_M_tick_19 rfl rfl kz) ?_
    refine jx_of (fun _ _ kz => jw_dup d_M_tick_20 kz) ?_
    refine jx_of (fun _ _ kz => jw_getIe (me_I M 7 0 29 + nI c) fl_M_162 d_M_tick_21 rfl rfl e1 kz) ?_
    refine jx_of (fun _ _ kz => jw_iconst 1 d_M_tick_24 (by decide) kz) ?_
    refine jx_of (fun _ _ kz => jw_iadd d_M_tick_25 kz) ?_
    rw [show ((me_I M 7 0 29 + nI c) + 1 : Int32) = me_I M 7 0 29 + nI (c + 1) from (by rw [Int32.add_assoc, nI_1])]
    refine jx_of (fun _ _ kz => jw_putI fl_M_162 (Or.inl rfl) rfl rfl d_M_tick_26 rfl rfl kz) ?_
    refine jx_of (fun _ _ kz => jw_iconst 0 d_M_tick_29 (by decide) kz) ?_
    refine jx_of (fun _ _ kz => jw_istore_n 3 d_M_tick_30 rfl (Nat.le_of_ble_eq_true rfl) kz) ?_
    dsimp only [List.set]
    exact tc_mid d n c np nt h1.1.2.2.1.2.1 _ _ _ h151 nt 0 _ _ _ (by omega) (iv_rf (mJ_clk h1).1)
set_option maxRecDepth 20000 in
set_option maxHeartbeats 4000000 in
theorem z_M_tick_f {G : Gt} {M : Me} (d : Nat) (u : Int32) (np : Nat) (nt : Nat) (hJ : mJ M np nt) (hu : u < 1 ∨ 20 < u) : sx G yt_M_tick yn_M_tick (d + 5) [.inr (some (7, 0)), .inl u] M (fun r M' => r = some (.inl (-1)) ∧ M = M') := by
  refine sx_of (k := 4) (lc := [some (.inr (some (7, 0))), some (.inl u), none, none, none, none]) mt_M_tick (Nat.le_of_ble_eq_true rfl) rfl ?_
  refine jx_of (fun _ _ kz => jw_iload_n 1 d_M_tick_0 rfl rfl kz) ?_
  refine jx_of (fun _ _ kz => jw_iconst 1 d_M_tick_1 (by decide) kz) ?_
  refine jx_of (fun _ _ kz => jw_bipush 20 d_M_tick_2 (by decide) kz) ?_
  refine jx_callS (x_M_is_f (d + 3) u 1 20  hu) mt_M_is ml_M_93 sm_M_is d_M_tick_4 rfl rfl (Nat.le_of_ble_eq_true rfl) ?_
  rintro _ _ ⟨rfl, rfl⟩
  refine jx_eq (st2 := [.inl 0]) rfl rfl rfl ?_
  refine jx_if_ne 12 d_M_tick_7 (by decide) (fun h => absurd h (by decide)) (fun _ => ?_)
  refine jx_of (fun _ _ kz => jw_iconst (-1) d_M_tick_10 (by decide) kz) ?_
  refine jx_iret d_M_tick_11 rfl ?_
  exact ⟨rfl, rfl⟩
set_option maxRecDepth 20000 in
set_option maxHeartbeats 4000000 in
theorem z_M_tick_t {G : Gt} {M : Me} (d : Nat) (n : Nat) (np : Nat) (nt : Nat) (hJ : mJ M np nt) (hn : n ≤ 20) (h1 : ¬ nI n < 1) (h2 : ¬ 20 < nI n) : sx G yt_M_tick yn_M_tick (d + 5) [.inr (some (7, 0)), .inl (nI n)] M (fun r M' => r = some (.inl (me_I M 7 0 29 + nI n)) ∧ mJ M' np nt ∧ pg M M' ∧ me_I M' 7 0 29 = me_I M 7 0 29 + nI n) := by
  refine sx_of (k := 4) (lc := [some (.inr (some (7, 0))), some (.inl (nI n)), none, none, none, none]) mt_M_tick (Nat.le_of_ble_eq_true rfl) rfl ?_
  refine jx_of (fun _ _ kz => jw_iload_n 1 d_M_tick_0 rfl rfl kz) ?_
  refine jx_of (fun _ _ kz => jw_iconst 1 d_M_tick_1 (by decide) kz) ?_
  refine jx_of (fun _ _ kz => jw_bipush 20 d_M_tick_2 (by decide) kz) ?_
  refine jx_callS (x_M_is_t (d + 3) ((nI n)) 1 20  h1 h2) mt_M_is ml_M_93 sm_M_is d_M_tick_4 rfl rfl (Nat.le_of_ble_eq_true rfl) ?_
  rintro _ _ ⟨rfl, rfl⟩
  refine jx_eq (st2 := [.inl 1]) rfl rfl rfl ?_
  refine jx_if_ne 12 d_M_tick_7 (by decide) (fun _ => ?_) (fun h => absurd h (by decide))
  refine jx_of (fun _ _ kz => jw_iconst 0 d_M_tick_12 (by decide) kz) ?_
  refine jx_of (fun _ _ kz => jw_istore_n 2 d_M_tick_13 rfl (Nat.le_of_ble_eq_true rfl) kz) ?_
  dsimp only [List.set]
  exact tc_out d n np nt hn _ _ n 0 M none none none (by omega) hJ pg_rf (by rw [nI_0, Int32.add_zero])
set_option maxRecDepth 20000 in
set_option maxHeartbeats 4000000 in
theorem z_M_task_f {G : Gt} {M : Me} (d : Nat) (u : Int32) (k : Int32) (np : Nat) (nt : Nat) (hJ : mJ M np nt) (hu : u < 0 ∨ nI nt - 1 < u) : sx G yt_M_task yn_M_task (d + 2) [.inr (some (7, 0)), .inl u, .inl k] M (fun r M' => (∃ v : Int32, r = some (.inl v)) ∧ M = M') := by
  refine sx_of (k := 0) (lc := [some (.inr (some (7, 0))), some (.inl u), some (.inl k)]) mt_M_task (Nat.le_of_ble_eq_true rfl) rfl ?_
  refine jx_of (fun _ _ kz => jw_iload_n 1 d_M_task_0 rfl rfl kz) ?_
  refine jx_of (fun _ _ kz => jw_iconst 0 d_M_task_1 (by decide) kz) ?_
  refine jx_of (fun _ _ kz => jw_aload_n 0 d_M_task_2 rfl rfl kz) ?_
  refine jx_of (fun _ _ kz => jw_getIe (nI nt) fl_M_112 d_M_task_3 rfl rfl hJ.1.2.2.1.1 kz) ?_
  refine jx_of (fun _ _ kz => jw_iconst 1 d_M_task_6 (by decide) kz) ?_
  refine jx_of (fun _ _ kz => jw_isub d_M_task_7 kz) ?_
  refine jx_callS (x_M_is_f d u 0 (((nI nt) - 1))  hu) mt_M_is ml_M_93 sm_M_is d_M_task_8 rfl rfl (Nat.le_of_ble_eq_true rfl) ?_
  rintro _ _ ⟨rfl, rfl⟩
  refine jx_eq (st2 := [.inl 0]) rfl rfl rfl ?_
  refine jx_if_ne 16 d_M_task_11 (by decide) (fun h => absurd h (by decide)) (fun _ => ?_)
  refine jx_of (fun _ _ kz => jw_iconst (-1) d_M_task_14 (by decide) kz) ?_
  refine jx_iret d_M_task_15 rfl ?_
  exact ⟨⟨_, rfl⟩, rfl⟩
set_option maxRecDepth 20000 in
set_option maxHeartbeats 4000000 in
theorem z_M_task_t {G : Gt} {M : Me} (d : Nat) (t : Nat) (k : Int32) (np : Nat) (nt : Nat) (hJ : mJ M np nt) (ht : t < nt) (h1 : ¬ nI t < 0) (h2 : ¬ nI nt - 1 < nI t) : sx G yt_M_task yn_M_task (d + 2) [.inr (some (7, 0)), .inl (nI t), .inl k] M (fun r M' => (∃ v : Int32, r = some (.inl v)) ∧ M = M') := by
  refine sx_of (k := 0) (lc := [some (.inr (some (7, 0))), some (.inl (nI t)), some (.inl k)]) mt_M_task (Nat.le_of_ble_eq_true rfl) rfl ?_
  have hnt := hJ.1.2.2.1.2.1
  refine jx_of (fun _ _ kz => jw_iload_n 1 d_M_task_0 rfl rfl kz) ?_
  refine jx_of (fun _ _ kz => jw_iconst 0 d_M_task_1 (by decide) kz) ?_
  refine jx_of (fun _ _ kz => jw_aload_n 0 d_M_task_2 rfl rfl kz) ?_
  refine jx_of (fun _ _ kz => jw_getIe (nI nt) fl_M_112 d_M_task_3 rfl rfl hJ.1.2.2.1.1 kz) ?_
  refine jx_of (fun _ _ kz => jw_iconst 1 d_M_task_6 (by decide) kz) ?_
  refine jx_of (fun _ _ kz => jw_isub d_M_task_7 kz) ?_
  refine jx_callS (x_M_is_t d ((nI t)) 0 (((nI nt) - 1))  h1 h2) mt_M_is ml_M_93 sm_M_is d_M_task_8 rfl rfl (Nat.le_of_ble_eq_true rfl) ?_
  rintro _ _ ⟨rfl, rfl⟩
  refine jx_eq (st2 := [.inl 1]) rfl rfl rfl ?_
  refine jx_if_ne 16 d_M_task_11 (by decide) (fun _ => ?_) (fun h => absurd h (by decide))
  refine jx_of (fun _ _ kz => jw_iload_n 2 d_M_task_16 rfl rfl kz) ?_
  rcases sw_cases (k) 6 (by decide) with t_17 | t_17
  · skip
    refine jx_of (fun _ _ kz => jw_tabOut 122 d_M_task_17 (by simpa using t_17) (by decide) kz) ?_
    refine jx_of (fun _ _ kz => jw_iconst (-1) d_M_task_122 (by decide) kz) ?_
    refine jx_iret d_M_task_123 rfl ?_
    exact ⟨⟨_, rfl⟩, rfl⟩
  · skip
    obtain ⟨j_17, t_17, e_17⟩ := t_17
    rcases (show j_17 = 0 ∨ j_17 = 1 ∨ j_17 = 2 ∨ j_17 = 3 ∨ j_17 = 4 ∨ j_17 = 5 by omega) with rfl | rfl | rfl | rfl | rfl | rfl
    · skip
      refine jx_of (fun _ _ kz => jw_tabIn 56 d_M_task_17 (by rw [e_17]; decide) (by rw [e_17]; decide) (by rw [e_17]; rfl) (by decide) kz) ?_
      refine jx_of (fun _ _ kz => jw_aload_n 0 d_M_task_56 rfl rfl kz) ?_
      refine jx_of (fun _ _ kz => jw_getPe (some (33, 0)) fl_M_19 d_M_task_57 rfl rfl (by simp [me_I_sI, me_I_sP, me_I_nx, me_P_sI, me_P_sP, me_P_nx, me_N_sI, me_N_sP, me_N_nx, me_L_sI, me_L_sP, me_L_nx, show me_P M 7 0 4 = some (33, 0) from hJ.1.1.1 (7, 0, 4, 33, 0) (by decide)]) kz) ?_
      refine jx_of (fun _ _ kz => jw_iload_n 1 d_M_task_60 rfl rfl kz) ?_
      refine jx_of (fun _ _ kz => jw_ialde (_) d_M_task_61 rfl rfl (by rw [show me_L _ 33 0 = 12 from (by simp [me_I_sI, me_I_sP, me_I_nx, me_P_sI, me_P_sP, me_P_nx, me_N_sI, me_N_sP, me_N_nx, me_L_sI, me_L_sP, me_L_nx, show me_L M 33 0 = 12 from hJ.1.1.2 (33, 0, 12) (by decide)])]; exact (vp_in_nI (by omega) (by decide))) rfl kz) ?_
      refine jx_iret d_M_task_62 rfl ?_
      exact ⟨⟨_, rfl⟩, rfl⟩
    · skip
      refine jx_of (fun _ _ kz => jw_tabIn 63 d_M_task_17 (by rw [e_17]; decide) (by rw [e_17]; decide) (by rw [e_17]; rfl) (by decide) kz) ?_
      refine jx_of (fun _ _ kz => jw_aload_n 0 d_M_task_63 rfl rfl kz) ?_
      refine jx_of (fun _ _ kz => jw_getPe (some (33, 0)) fl_M_19 d_M_task_64 rfl rfl (by simp [me_I_sI, me_I_sP, me_I_nx, me_P_sI, me_P_sP, me_P_nx, me_N_sI, me_N_sP, me_N_nx, me_L_sI, me_L_sP, me_L_nx, show me_P M 7 0 4 = some (33, 0) from hJ.1.1.1 (7, 0, 4, 33, 0) (by decide)]) kz) ?_
      refine jx_of (fun _ _ kz => jw_iload_n 1 d_M_task_67 rfl rfl kz) ?_
      refine jx_of (fun _ _ kz => jw_ialde (_) d_M_task_68 rfl rfl (by rw [show me_L _ 33 0 = 12 from (by simp [me_I_sI, me_I_sP, me_I_nx, me_P_sI, me_P_sP, me_P_nx, me_N_sI, me_N_sP, me_N_nx, me_L_sI, me_L_sP, me_L_nx, show me_L M 33 0 = 12 from hJ.1.1.2 (33, 0, 12) (by decide)])]; exact (vp_in_nI (by omega) (by decide))) rfl kz) ?_
      refine jx_of (fun _ _ kz => jw_iconst 2 d_M_task_69 (by decide) kz) ?_
      refine jx_icmp_eq 83 d_M_task_70 (by decide) (fun b_70 => ?_) (fun b_70 => ?_)
      · skip
        refine jx_of (fun _ _ kz => jw_aload_n 0 d_M_task_83 rfl rfl kz) ?_
        refine jx_of (fun _ _ kz => jw_getPe (some (34, 0)) fl_M_22 d_M_task_84 rfl rfl (by simp [me_I_sI, me_I_sP, me_I_nx, me_P_sI, me_P_sP, me_P_nx, me_N_sI, me_N_sP, me_N_nx, me_L_sI, me_L_sP, me_L_nx, show me_P M 7 0 5 = some (34, 0) from hJ.1.1.1 (7, 0, 5, 34, 0) (by decide)]) kz) ?_
        refine jx_of (fun _ _ kz => jw_iload_n 1 d_M_task_87 rfl rfl kz) ?_
        refine jx_of (fun _ _ kz => jw_ialde (_) d_M_task_88 rfl rfl (by rw [show me_L _ 34 0 = 12 from (by simp [me_I_sI, me_I_sP, me_I_nx, me_P_sI, me_P_sP, me_P_nx, me_N_sI, me_N_sP, me_N_nx, me_L_sI, me_L_sP, me_L_nx, show me_L M 34 0 = 12 from hJ.1.1.2 (34, 0, 12) (by decide)])]; exact (vp_in_nI (by omega) (by decide))) rfl kz) ?_
        refine jx_of (fun _ _ kz => jw_goto 93 d_M_task_89 (by decide) kz) ?_
        refine jx_iret d_M_task_93 rfl ?_
        exact ⟨⟨_, rfl⟩, rfl⟩
      · skip
        refine jx_of (fun _ _ kz => jw_aload_n 0 d_M_task_73 rfl rfl kz) ?_
        refine jx_of (fun _ _ kz => jw_getPe (some (33, 0)) fl_M_19 d_M_task_74 rfl rfl (by simp [me_I_sI, me_I_sP, me_I_nx, me_P_sI, me_P_sP, me_P_nx, me_N_sI, me_N_sP, me_N_nx, me_L_sI, me_L_sP, me_L_nx, show me_P M 7 0 4 = some (33, 0) from hJ.1.1.1 (7, 0, 4, 33, 0) (by decide)]) kz) ?_
        refine jx_of (fun _ _ kz => jw_iload_n 1 d_M_task_77 rfl rfl kz) ?_
        refine jx_of (fun _ _ kz => jw_ialde (_) d_M_task_78 rfl rfl (by rw [show me_L _ 33 0 = 12 from (by simp [me_I_sI, me_I_sP, me_I_nx, me_P_sI, me_P_sP, me_P_nx, me_N_sI, me_N_sP, me_N_nx, me_L_sI, me_L_sP, me_L_nx, show me_L M 33 0 = 12 from hJ.1.1.2 (33, 0, 12) (by decide)])]; exact (vp_in_nI (by omega) (by decide))) rfl kz) ?_
        refine jx_of (fun _ _ kz => jw_iconst 3 d_M_task_79 (by decide) kz) ?_
        refine jx_icmp_ne 92 d_M_task_80 (by decide) (fun b_80 => ?_) (fun b_80 => ?_)
        · skip
          refine jx_of (fun _ _ kz => jw_iconst 0 d_M_task_92 (by decide) kz) ?_
          refine jx_iret d_M_task_93 rfl ?_
          exact ⟨⟨_, rfl⟩, rfl⟩
        · skip
          refine jx_of (fun _ _ kz => jw_aload_n 0 d_M_task_83 rfl rfl kz) ?_
          refine jx_of (fun _ _ kz => jw_getPe (some (34, 0)) fl_M_22 d_M_task_84 rfl rfl (by simp [me_I_sI, me_I_sP, me_I_nx, me_P_sI, me_P_sP, me_P_nx, me_N_sI, me_N_sP, me_N_nx, me_L_sI, me_L_sP, me_L_nx, show me_P M 7 0 5 = some (34, 0) from hJ.1.1.1 (7, 0, 5, 34, 0) (by decide)]) kz) ?_
          refine jx_of (fun _ _ kz => jw_iload_n 1 d_M_task_87 rfl rfl kz) ?_
          refine jx_of (fun _ _ kz => jw_ialde (_) d_M_task_88 rfl rfl (by rw [show me_L _ 34 0 = 12 from (by simp [me_I_sI, me_I_sP, me_I_nx, me_P_sI, me_P_sP, me_P_nx, me_N_sI, me_N_sP, me_N_nx, me_L_sI, me_L_sP, me_L_nx, show me_L M 34 0 = 12 from hJ.1.1.2 (34, 0, 12) (by decide)])]; exact (vp_in_nI (by omega) (by decide))) rfl kz) ?_
          refine jx_of (fun _ _ kz => jw_goto 93 d_M_task_89 (by decide) kz) ?_
          refine jx_iret d_M_task_93 rfl ?_
          exact ⟨⟨_, rfl⟩, rfl⟩
    · skip
      refine jx_of (fun _ _ kz => jw_tabIn 94 d_M_task_17 (by rw [e_17]; decide) (by rw [e_17]; decide) (by rw [e_17]; rfl) (by decide) kz) ?_
      refine jx_of (fun _ _ kz => jw_aload_n 0 d_M_task_94 rfl rfl kz) ?_
      refine jx_of (fun _ _ kz => jw_getPe (some (35, 0)) fl_M_25 d_M_task_95 rfl rfl (by simp [me_I_sI, me_I_sP, me_I_nx, me_P_sI, me_P_sP, me_P_nx, me_N_sI, me_N_sP, me_N_nx, me_L_sI, me_L_sP, me_L_nx, show me_P M 7 0 6 = some (35, 0) from hJ.1.1.1 (7, 0, 6, 35, 0) (by decide)]) kz) ?_
      refine jx_of (fun _ _ kz => jw_iload_n 1 d_M_task_98 rfl rfl kz) ?_
      refine jx_of (fun _ _ kz => jw_ialde (_) d_M_task_99 rfl rfl (by rw [show me_L _ 35 0 = 12 from (by simp [me_I_sI, me_I_sP, me_I_nx, me_P_sI, me_P_sP, me_P_nx, me_N_sI, me_N_sP, me_N_nx, me_L_sI, me_L_sP, me_L_nx, show me_L M 35 0 = 12 from hJ.1.1.2 (35, 0, 12) (by decide)])]; exact (vp_in_nI (by omega) (by decide))) rfl kz) ?_
      refine jx_iret d_M_task_100 rfl ?_
      exact ⟨⟨_, rfl⟩, rfl⟩
    · skip
      refine jx_of (fun _ _ kz => jw_tabIn 101 d_M_task_17 (by rw [e_17]; decide) (by rw [e_17]; decide) (by rw [e_17]; rfl) (by decide) kz) ?_
      refine jx_of (fun _ _ kz => jw_aload_n 0 d_M_task_101 rfl rfl kz) ?_
      refine jx_of (fun _ _ kz => jw_getPe (some (36, 0)) fl_M_28 d_M_task_102 rfl rfl (by simp [me_I_sI, me_I_sP, me_I_nx, me_P_sI, me_P_sP, me_P_nx, me_N_sI, me_N_sP, me_N_nx, me_L_sI, me_L_sP, me_L_nx, show me_P M 7 0 7 = some (36, 0) from hJ.1.1.1 (7, 0, 7, 36, 0) (by decide)]) kz) ?_
      refine jx_of (fun _ _ kz => jw_iload_n 1 d_M_task_105 rfl rfl kz) ?_
      refine jx_of (fun _ _ kz => jw_ialde (_) d_M_task_106 rfl rfl (by rw [show me_L _ 36 0 = 12 from (by simp [me_I_sI, me_I_sP, me_I_nx, me_P_sI, me_P_sP, me_P_nx, me_N_sI, me_N_sP, me_N_nx, me_L_sI, me_L_sP, me_L_nx, show me_L M 36 0 = 12 from hJ.1.1.2 (36, 0, 12) (by decide)])]; exact (vp_in_nI (by omega) (by decide))) rfl kz) ?_
      refine jx_iret d_M_task_107 rfl ?_
      exact ⟨⟨_, rfl⟩, rfl⟩
    · skip
      refine jx_of (fun _ _ kz => jw_tabIn 108 d_M_task_17 (by rw [e_17]; decide) (by rw [e_17]; decide) (by rw [e_17]; rfl) (by decide) kz) ?_
      refine jx_of (fun _ _ kz => jw_aload_n 0 d_M_task_108 rfl rfl kz) ?_
      refine jx_of (fun _ _ kz => jw_getPe (some (37, 0)) fl_M_31 d_M_task_109 rfl rfl (by simp [me_I_sI, me_I_sP, me_I_nx, me_P_sI, me_P_sP, me_P_nx, me_N_sI, me_N_sP, me_N_nx, me_L_sI, me_L_sP, me_L_nx, show me_P M 7 0 8 = some (37, 0) from hJ.1.1.1 (7, 0, 8, 37, 0) (by decide)]) kz) ?_
      refine jx_of (fun _ _ kz => jw_iload_n 1 d_M_task_112 rfl rfl kz) ?_
      refine jx_of (fun _ _ kz => jw_ialde (_) d_M_task_113 rfl rfl (by rw [show me_L _ 37 0 = 12 from (by simp [me_I_sI, me_I_sP, me_I_nx, me_P_sI, me_P_sP, me_P_nx, me_N_sI, me_N_sP, me_N_nx, me_L_sI, me_L_sP, me_L_nx, show me_L M 37 0 = 12 from hJ.1.1.2 (37, 0, 12) (by decide)])]; exact (vp_in_nI (by omega) (by decide))) rfl kz) ?_
      refine jx_iret d_M_task_114 rfl ?_
      exact ⟨⟨_, rfl⟩, rfl⟩
    · skip
      refine jx_of (fun _ _ kz => jw_tabIn 115 d_M_task_17 (by rw [e_17]; decide) (by rw [e_17]; decide) (by rw [e_17]; rfl) (by decide) kz) ?_
      refine jx_of (fun _ _ kz => jw_aload_n 0 d_M_task_115 rfl rfl kz) ?_
      refine jx_of (fun _ _ kz => jw_getPe (some (38, 0)) fl_M_34 d_M_task_116 rfl rfl (by simp [me_I_sI, me_I_sP, me_I_nx, me_P_sI, me_P_sP, me_P_nx, me_N_sI, me_N_sP, me_N_nx, me_L_sI, me_L_sP, me_L_nx, show me_P M 7 0 9 = some (38, 0) from hJ.1.1.1 (7, 0, 9, 38, 0) (by decide)]) kz) ?_
      refine jx_of (fun _ _ kz => jw_iload_n 1 d_M_task_119 rfl rfl kz) ?_
      refine jx_of (fun _ _ kz => jw_ialde (_) d_M_task_120 rfl rfl (by rw [show me_L _ 38 0 = 12 from (by simp [me_I_sI, me_I_sP, me_I_nx, me_P_sI, me_P_sP, me_P_nx, me_N_sI, me_N_sP, me_N_nx, me_L_sI, me_L_sP, me_L_nx, show me_L M 38 0 = 12 from hJ.1.1.2 (38, 0, 12) (by decide)])]; exact (vp_in_nI (by omega) (by decide))) rfl kz) ?_
      refine jx_iret d_M_task_121 rfl ?_
      exact ⟨⟨_, rfl⟩, rfl⟩
theorem z_M_task {G : Gt} {M : Me} (d : Nat) (u k : Int32) (np nt : Nat) (hJ : mJ M np nt) : sx G yt_M_task yn_M_task (d + 2) [.inr (some (7, 0)), .inl u, .inl k] M (fun r M' => (∃ v : Int32, r = some (.inl v)) ∧ M = M') := by
  rcases rng u nt (by have := hJ.1.2.2.1.2.1; omega) with h | ⟨j, hj, rfl, h1, h2⟩
  · exact z_M_task_f d u k np nt hJ h
  · exact z_M_task_t d j k np nt hJ hj h1 h2
