theorem tk_le {j n : Nat} {y hi : Int32} (hj : j < 16) (h1 : sv_LOWEST.getD j 0 = 0) (h2 : sv_HIGHEST.getD j 0 = hi) (h3 : hi.toInt = n) (h : tkv (nI j) y = 1) : ∃ a, a ≤ n ∧ y = nI a := by
  unfold tkv at h
  rw [if_neg (nI_pos (by omega)), if_neg (by have := nI_ge (a := j) (b := 16) hj (by decide); exact this), nI_clamp (by omega), h1, h2] at h
  by_cases a : y < 0
  · rw [if_pos a] at h; exact absurd h (by decide)
  · rw [if_neg a] at h
    by_cases b : y ≤ hi
    · exact nI_of2 h3 a b
    · rw [if_neg b] at h; exact absurd h (by decide)
theorem tk3 {y : Int32} (h : tkv (nI 3) y = 1) : ∃ a, a ≤ 5 ∧ y = nI a := tk_le (hi := 5) (by decide) (by decide) (by decide) (by decide) h
theorem tk4 {y : Int32} (h : tkv (nI 4) y = 1) : ∃ a, a ≤ 5 ∧ y = nI a := tk_le (hi := 5) (by decide) (by decide) (by decide) (by decide) h
theorem tk5 {y : Int32} (h : tkv (nI 5) y = 1) : ∃ a, a ≤ 1 ∧ y = nI a := tk_le (hi := 1) (by decide) (by decide) (by decide) (by decide) h
theorem tk6 {y : Int32} (h : tkv (nI 6) y = 1) : ∃ a, a ≤ 1 ∧ y = nI a := tk_le (hi := 1) (by decide) (by decide) (by decide) (by decide) h
theorem tk7 {y : Int32} (h : tkv (nI 7) y = 1) : ∃ a, a ≤ 5 ∧ y = nI a := tk_le (hi := 5) (by decide) (by decide) (by decide) (by decide) h
/-- task t's program is p -/
def tP (M : Me) (t p len : Nat) (o : Nat → Nat) : Prop := me_I M 36 0 t = nI p ∧ p < 6 ∧ mP1 M p len o
theorem mP1_o {M M' : Me} {p len : Nat} {o : Nat → Nat} (h : mP1 M p len o) (k : ∀ s j, s = 30 ∨ s = 31 ∨ s = 32 → me_I M' s 0 j = me_I M s 0 j) : mP1 M' p len o := by
  obtain ⟨a, b, c, e⟩ := h
  refine ⟨a, by rw [k 32 _ (by omega)]; exact b, fun j hj => ?_, e⟩
  rw [k 30 _ (by omega), k 31 _ (by omega)]; exact c j hj
theorem tP_iv {np nt nt' : Nat} {X : List Nat} {M M1 : Me} {t p len : Nat} {o : Nat → Nat} (h : tP M t p len o) (k : iv np nt nt' X M M1) (ht : t < nt) : tP M1 t p len o :=
  ⟨by rw [k.2.2.1.2.2 t ht]; exact h.1, h.2.1, mP1_o h.2.2 (fun s j q => k.2.2.1.2.1 s 0 j (by unfold kg; omega))⟩
theorem tP_mI {np nt : Nat} {X : List Nat} {M : Me} {t : Nat} (h : mI M np nt X) (ht : t < nt) : ∃ p len o, tP M t p len o := by
  obtain ⟨p, h1, h2⟩ := h.2.2.1.2.2 t ht
  obtain ⟨len, o, h3⟩ := h.2.1.2.2 p h1
  exact ⟨p, len, o, h2, by have := h.2.1.2.1; omega, h3⟩
set_option maxRecDepth 20000 in
set_option maxHeartbeats 4000000 in
theorem z_M_drop_loop {G : Gt} {M : Me} (d t n p len e np nt : Nat) (o : Nat → Nat) (X : List Nat) (hI : mI M np nt X) (ht : t < nt) (hp : tP M t p len o) (he : e ≤ len) (c0 s0 : Nat) : ∀ (m k : Nat) (M1 : Me) (o5 o6 o7 o8 o9 o10 : Option AV), k + m = e → iv np nt nt X M M1 → jx G yt_M_drop (d + 6) c0 s0 M1 10 [some (.inr (some (7, 0))), some (.inl (nI t)), some (.inl (nI n)), some (.inl (nI e)), some (.inl (nI k)), o5, o6, o7, o8, o9, o10] [] (fun r M' => r = none ∧ iv np nt nt X M M') := by
  have hnt := hI.2.2.1.2.1
  have hle := hp.2.2.1
  intro m
  induction m with
  | zero =>
    intro k M1 o5 o6 o7 o8 o9 o10 hk h1
    have hm1 := h1.2.1.1
    refine jx_of (fun _ _ kz => jw_iload d_M_drop_10 rfl kz) ?_
    refine jx_of (fun _ _ kz => jw_iload_n 3 d_M_drop_12 rfl rfl kz) ?_
    refine jx_icmp_ge 177 d_M_drop_13 (by decide) (fun _ => ?_) (fun h => absurd (nI_le (by omega) (by omega)) h)
    refine jx_vret d_M_drop_177 rfl ?_
    exact ⟨rfl, h1⟩
  | succ m ih =>
    intro k M1 o5 o6 o7 o8 o9 o10 hk h1
    have hm1 := h1.2.1.1
    have hq := tP_iv hp h1 ht
    have hok := hq.2.2.2.2.1 k (by omega)
    by_cases h3 : o k = 3
    · obtain ⟨aa, ha5, ha⟩ := tk3 (by have := hok.2.2; rw [h3] at this; exact this)
      refine jx_of (fun _ _ kz => jw_iload d_M_drop_10 rfl kz) ?_
      refine jx_of (fun _ _ kz => jw_iload_n 3 d_M_drop_12 rfl rfl kz) ?_
      refine jx_icmp_ge 177 d_M_drop_13 (by decide) (fun h => absurd h (nI_ge (by omega) (by omega))) (fun _ => ?_)
      refine jx_of (fun _ _ kz => jw_bipush 12 d_M_drop_16 (by decide) kz) ?_
      refine jx_of (fun _ _ kz => jw_iload_n 1 d_M_drop_18 rfl rfl kz) ?_
      refine jx_of (fun _ _ kz => jw_imul d_M_drop_19 kz) ?_
      rw [show (12 * (nI t) : Int32) = nI (12 * t) from n12 t]
      refine jx_of (fun _ _ kz => jw_iload d_M_drop_20 rfl kz) ?_
      refine jx_of (fun _ _ kz => jw_iadd d_M_drop_22 kz) ?_
      rw [show ((nI (12 * t)) + (nI k) : Int32) = nI (12 * t + k) from nI_add _ _]
      refine jx_of (fun _ _ kz => jw_istore d_M_drop_23 (Nat.le_of_ble_eq_true rfl) kz) ?_
      dsimp only [List.set]
      refine jx_of (fun _ _ kz => jw_aload_n 0 d_M_drop_25 rfl rfl kz) ?_
      refine jx_of (fun _ _ kz => jw_iload_n 1 d_M_drop_26 rfl rfl kz) ?_
      refine jx_of (fun _ _ kz => jw_iload d_M_drop_27 rfl kz) ?_
      refine jx_callV (z_M_opOf (d + 4) t k p hm1  (by omega) (by omega) hq.1 hq.2.1) mt_M_opOf cf_M rfl rfl ml_M_108 im_M_opOf se_M_opOf d_M_drop_29 rfl rfl (Nat.le_of_ble_eq_true rfl) ?_
      rintro _ _ ⟨rfl, rfl⟩
      refine jx_eq (st2 := [.inl (me_I M1 30 0 (12 * p + k))]) rfl rfl rfl ?_
      rw [show (me_I M1 30 0 (12 * p + k) : Int32) = 3 from (by rw [hok.2.1, h3]; rfl)]
      refine jx_of (fun _ _ kz => jw_istore d_M_drop_32 (Nat.le_of_ble_eq_true rfl) kz) ?_
      dsimp only [List.set]
      refine jx_of (fun _ _ kz => jw_aload_n 0 d_M_drop_34 rfl rfl kz) ?_
      refine jx_of (fun _ _ kz => jw_iload_n 1 d_M_drop_35 rfl rfl kz) ?_
      refine jx_of (fun _ _ kz => jw_iload d_M_drop_36 rfl kz) ?_
      refine jx_callV (z_M_argOf (d + 4) t k p hm1  (by omega) (by omega) hq.1 hq.2.1) mt_M_argOf cf_M rfl rfl ml_M_132 im_M_argOf se_M_argOf d_M_drop_38 rfl rfl (Nat.le_of_ble_eq_true rfl) ?_
      rintro _ _ ⟨rfl, rfl⟩
      refine jx_eq (st2 := [.inl (me_I M1 31 0 (12 * p + k))]) rfl rfl rfl ?_
      rw [show (me_I M1 31 0 (12 * p + k) : Int32) = nI aa from ha]
      refine jx_of (fun _ _ kz => jw_iconst 2 d_M_drop_41 (by decide) kz) ?_
      refine jx_of (fun _ _ kz => jw_irem d_M_drop_42 (by decide) kz) ?_
      rw [show ((nI aa) - (nI aa) / 2 * 2 : Int32) = nI (aa % 2) from pk_rem (by omega) (by decide) (by decide)]
      refine jx_of (fun _ _ kz => jw_istore d_M_drop_43 (Nat.le_of_ble_eq_true rfl) kz) ?_
      dsimp only [List.set]
      refine jx_of (fun _ _ kz => jw_aload_n 0 d_M_drop_45 rfl rfl kz) ?_
      refine jx_of (fun _ _ kz => jw_getPe (some (40, 0)) fl_M_41 d_M_drop_46 rfl rfl (by simp [me_I_sI, me_I_sP, me_I_nx, me_P_sI, me_P_sP, me_P_nx, me_N_sI, me_N_sP, me_N_nx, me_L_sI, me_L_sP, me_L_nx, show me_P M1 7 0 11 = some (40, 0) from hm1.1 (7, 0, 11, 40, 0) (by decide)]) kz) ?_
      refine jx_of (fun _ _ kz => jw_iload d_M_drop_49 rfl kz) ?_
      refine jx_of (fun _ _ kz => jw_ialde (me_I M1 40 0 (12 * t + k)) d_M_drop_51 rfl rfl (by rw [show me_L _ 40 0 = 144 from (by simp [me_I_sI, me_I_sP, me_I_nx, me_P_sI, me_P_sP, me_P_nx, me_N_sI, me_N_sP, me_N_nx, me_L_sI, me_L_sP, me_L_nx, show me_L M1 40 0 = 144 from hm1.2 (40, 0, 144) (by decide)])]; exact (vp_in_nI (by omega) (by decide))) (by rw [nI_clamp (by omega)] <;> simp [me_I_sI]) kz) ?_
      refine jx_of (fun _ _ kz => jw_iconst 1 d_M_drop_52 (by decide) kz) ?_
      refine jx_icmp_eq 59 d_M_drop_53 (by decide) (fun b_53 => ?_) (fun b_53 => ?_)
      · skip
        refine jx_of (fun _ _ kz => jw_aload_n 0 d_M_drop_59 rfl rfl kz) ?_
        refine jx_of (fun _ _ kz => jw_getPe (some (40, 0)) fl_M_41 d_M_drop_60 rfl rfl (by simp [me_I_sI, me_I_sP, me_I_nx, me_P_sI, me_P_sP, me_P_nx, me_N_sI, me_N_sP, me_N_nx, me_L_sI, me_L_sP, me_L_nx, show me_P M1 7 0 11 = some (40, 0) from hm1.1 (7, 0, 11, 40, 0) (by decide)]) kz) ?_
        refine jx_of (fun _ _ kz => jw_iload d_M_drop_63 rfl kz) ?_
        refine jx_of (fun _ _ kz => jw_iconst 4 d_M_drop_65 (by decide) kz) ?_
        refine jx_of (fun _ _ kz => jw_iast d_M_drop_66 rfl rfl (by rw [show me_L _ 40 0 = 144 from (by simp [me_I_sI, me_I_sP, me_I_nx, me_P_sI, me_P_sP, me_P_nx, me_N_sI, me_N_sP, me_N_nx, me_L_sI, me_L_sP, me_L_nx, show me_L M1 40 0 = 144 from hm1.2 (40, 0, 144) (by decide)])]; exact (vp_in_nI (by omega) (by decide))) kz) ?_
        rw [nI_clamp (by omega)]
        refine jx_of (fun _ _ kz => jw_aload_n 0 d_M_drop_67 rfl rfl kz) ?_
        refine jx_of (fun _ _ kz => jw_getPe (some (45, 0)) fl_M_56 d_M_drop_68 rfl rfl (by simp [me_I_sI, me_I_sP, me_I_nx, me_P_sI, me_P_sP, me_P_nx, me_N_sI, me_N_sP, me_N_nx, me_L_sI, me_L_sP, me_L_nx, show me_P M1 7 0 16 = some (45, 0) from hm1.1 (7, 0, 16, 45, 0) (by decide)]) kz) ?_
        refine jx_of (fun _ _ kz => jw_iload d_M_drop_71 rfl kz) ?_
        refine jx_of (fun _ _ kz => jw_zalde (me_I M1 45 0 (12 * t + k)) d_M_drop_73 rfl rfl (by rw [show me_L _ 45 0 = 144 from (by simp [me_I_sI, me_I_sP, me_I_nx, me_P_sI, me_P_sP, me_P_nx, me_N_sI, me_N_sP, me_N_nx, me_L_sI, me_L_sP, me_L_nx, show me_L M1 45 0 = 144 from hm1.2 (45, 0, 144) (by decide)])]; exact (vp_in_nI (by omega) (by decide))) (by rw [nI_clamp (by omega)] <;> simp [me_I_sI]) kz) ?_
        refine jx_if_ne 93 d_M_drop_74 (by decide) (fun b_74 => ?_) (fun b_74 => ?_)
        · skip
          refine jx_of (fun _ _ kz => jw_iconst 1 d_M_drop_93 (by decide) kz) ?_
          refine jx_of (fun _ _ kz => jw_goto 98 d_M_drop_94 (by decide) kz) ?_
          refine jx_of (fun _ _ kz => jw_istore d_M_drop_98 (Nat.le_of_ble_eq_true rfl) kz) ?_
          dsimp only [List.set]
          refine jx_of (fun _ _ kz => jw_aload_n 0 d_M_drop_100 rfl rfl kz) ?_
          refine jx_of (fun _ _ kz => jw_getPe (some (42, 0)) fl_M_47 d_M_drop_101 rfl rfl (by simp [me_I_sI, me_I_sP, me_I_nx, me_P_sI, me_P_sP, me_P_nx, me_N_sI, me_N_sP, me_N_nx, me_L_sI, me_L_sP, me_L_nx, show me_P M1 7 0 13 = some (42, 0) from hm1.1 (7, 0, 13, 42, 0) (by decide)]) kz) ?_
          refine jx_of (fun _ _ kz => jw_iload d_M_drop_104 rfl kz) ?_
          refine jx_of (fun _ _ kz => jw_ialde (me_I M1 42 0 (12 * t + k)) d_M_drop_106 rfl rfl (by rw [show me_L _ 42 0 = 144 from (by simp [me_I_sI, me_I_sP, me_I_nx, me_P_sI, me_P_sP, me_P_nx, me_N_sI, me_N_sP, me_N_nx, me_L_sI, me_L_sP, me_L_nx, show me_L M1 42 0 = 144 from hm1.2 (42, 0, 144) (by decide)])]; exact (vp_in_nI (by omega) (by decide))) (by rw [nI_clamp (by omega)] <;> simp [me_I_sI]) kz) ?_
          refine jx_of (fun _ _ kz => jw_istore d_M_drop_107 (Nat.le_of_ble_eq_true rfl) kz) ?_
          dsimp only [List.set]
          refine jx_of (fun _ _ kz => jw_aload_n 0 d_M_drop_109 rfl rfl kz) ?_
          refine jx_of (fun _ _ kz => jw_getPe (some (45, 0)) fl_M_56 d_M_drop_110 rfl rfl (by simp [me_I_sI, me_I_sP, me_I_nx, me_P_sI, me_P_sP, me_P_nx, me_N_sI, me_N_sP, me_N_nx, me_L_sI, me_L_sP, me_L_nx, show me_P M1 7 0 16 = some (45, 0) from hm1.1 (7, 0, 16, 45, 0) (by decide)]) kz) ?_
          refine jx_of (fun _ _ kz => jw_iload d_M_drop_113 rfl kz) ?_
          refine jx_of (fun _ _ kz => jw_zalde (me_I M1 45 0 (12 * t + k)) d_M_drop_115 rfl rfl (by rw [show me_L _ 45 0 = 144 from (by simp [me_I_sI, me_I_sP, me_I_nx, me_P_sI, me_P_sP, me_P_nx, me_N_sI, me_N_sP, me_N_nx, me_L_sI, me_L_sP, me_L_nx, show me_L M1 45 0 = 144 from hm1.2 (45, 0, 144) (by decide)])]; exact (vp_in_nI (by omega) (by decide))) (by rw [nI_clamp (by omega)] <;> simp [me_I_sI]) kz) ?_
          refine jx_of (fun _ _ kz => jw_istore d_M_drop_116 (Nat.le_of_ble_eq_true rfl) kz) ?_
          dsimp only [List.set]
          refine jx_of (fun _ _ kz => jw_aload_n 0 d_M_drop_118 rfl rfl kz) ?_
          refine jx_of (fun _ _ kz => jw_getPe (some (45, 0)) fl_M_56 d_M_drop_119 rfl rfl (by simp [me_I_sI, me_I_sP, me_I_nx, me_P_sI, me_P_sP, me_P_nx, me_N_sI, me_N_sP, me_N_nx, me_L_sI, me_L_sP, me_L_nx, show me_P M1 7 0 16 = some (45, 0) from hm1.1 (7, 0, 16, 45, 0) (by decide)]) kz) ?_
          refine jx_of (fun _ _ kz => jw_iload d_M_drop_122 rfl kz) ?_
          refine jx_of (fun _ _ kz => jw_iconst 0 d_M_drop_124 (by decide) kz) ?_
          refine jx_of (fun _ _ kz => jw_zast d_M_drop_125 rfl rfl (by rw [show me_L _ 45 0 = 144 from (by simp [me_I_sI, me_I_sP, me_I_nx, me_P_sI, me_P_sP, me_P_nx, me_N_sI, me_N_sP, me_N_nx, me_L_sI, me_L_sP, me_L_nx, show me_L M1 45 0 = 144 from hm1.2 (45, 0, 144) (by decide)])]; exact (vp_in_nI (by omega) (by decide))) (by decide) kz) ?_
          rw [nI_clamp (by omega)]
          refine jx_of (fun _ _ kz => jw_aload_n 0 d_M_drop_126 rfl rfl kz) ?_
          refine jx_of (fun _ _ kz => jw_getPe (some (44, 0)) fl_M_53 d_M_drop_127 rfl rfl (by simp [me_I_sI, me_I_sP, me_I_nx, me_P_sI, me_P_sP, me_P_nx, me_N_sI, me_N_sP, me_N_nx, me_L_sI, me_L_sP, me_L_nx, show me_P M1 7 0 15 = some (44, 0) from hm1.1 (7, 0, 15, 44, 0) (by decide)]) kz) ?_
          refine jx_of (fun _ _ kz => jw_iload d_M_drop_130 rfl kz) ?_
          refine jx_of (fun _ _ kz => jw_iconst 0 d_M_drop_132 (by decide) kz) ?_
          refine jx_of (fun _ _ kz => jw_zast d_M_drop_133 rfl rfl (by rw [show me_L _ 44 0 = 144 from (by simp [me_I_sI, me_I_sP, me_I_nx, me_P_sI, me_P_sP, me_P_nx, me_N_sI, me_N_sP, me_N_nx, me_L_sI, me_L_sP, me_L_nx, show me_L M1 44 0 = 144 from hm1.2 (44, 0, 144) (by decide)])]; exact (vp_in_nI (by omega) (by decide))) (by decide) kz) ?_
          rw [nI_clamp (by omega)]
          refine jx_of (fun _ _ kz => jw_iload d_M_drop_134 rfl kz) ?_
          refine jx_of (fun _ _ kz => jw_iconst 3 d_M_drop_136 (by decide) kz) ?_
          refine jx_icmp_ne 153 d_M_drop_137 (by decide) (fun h => absurd h (by decide)) (fun _ => ?_)
          refine jx_of (fun _ _ kz => jw_iload d_M_drop_140 rfl kz) ?_
          refine jx_if_eq 153 d_M_drop_142 (by decide) (fun h => absurd h (by decide)) (fun _ => ?_)
          refine jx_of (fun _ _ kz => jw_aload_n 0 d_M_drop_145 rfl rfl kz) ?_
          refine jx_of (fun _ _ kz => jw_iload d_M_drop_146 rfl kz) ?_
          refine jx_of (fun _ _ kz => jw_iload d_M_drop_148 rfl kz) ?_
          refine jx_callV (z_M_add d ((aa % 2)) ((me_I M1 42 0 (12 * t + k))) np nt X (iv_sI (iv_sI (iv_sI h1 (by unfold hl; omega)) (by unfold hl; omega)) (by unfold hl; omega)).2.1  (by omega)) mt_M_add cf_M rfl rfl ml_M_144 im_M_add se_M_add d_M_drop_150 rfl rfl (Nat.le_of_ble_eq_true rfl) ?_
          rintro _ M3 ⟨rfl, h3⟩
          refine jx_eq (st2 := []) rfl rfl rfl ?_
          refine jx_of (fun _ _ kz => jw_iload d_M_drop_153 rfl kz) ?_
          refine jx_of (fun _ _ kz => jw_iconst 5 d_M_drop_155 (by decide) kz) ?_
          refine jx_icmp_ne 171 d_M_drop_156 (by decide) (fun _ => ?_) (fun h => absurd h (by decide))
          refine jx_of (fun _ _ kz => jw_iincc 1 d_M_drop_171 (by decide) rfl (Nat.le_of_ble_eq_true rfl) kz) ?_
          dsimp only [List.set]
          refine jx_of (fun _ _ kz => jw_goto 10 d_M_drop_174 (by decide) kz) ?_
          rw [nI_1]
          first | exact ih (k + 1) _ _ _ _ _ _ _ (by omega) (iv_tr (iv_sI (iv_sI (iv_sI h1 (by unfold hl; omega)) (by unfold hl; omega)) (by unfold hl; omega)) h3) | exact ih (k + 1) _ _ _ _ _ _ _ (by omega) (iv_sI (iv_sI (iv_sI h1 (by unfold hl; omega)) (by unfold hl; omega)) (by unfold hl; omega)) | exact ih (k + 1) _ _ _ _ _ _ _ (by omega) h1
        · skip
          refine jx_of (fun _ _ kz => jw_aload_n 0 d_M_drop_77 rfl rfl kz) ?_
          refine jx_of (fun _ _ kz => jw_getPe (some (44, 0)) fl_M_53 d_M_drop_78 rfl rfl (by simp [me_I_sI, me_I_sP, me_I_nx, me_P_sI, me_P_sP, me_P_nx, me_N_sI, me_N_sP, me_N_nx, me_L_sI, me_L_sP, me_L_nx, show me_P M1 7 0 15 = some (44, 0) from hm1.1 (7, 0, 15, 44, 0) (by decide)]) kz) ?_
          refine jx_of (fun _ _ kz => jw_iload d_M_drop_81 rfl kz) ?_
          refine jx_of (fun _ _ kz => jw_zalde (me_I M1 44 0 (12 * t + k)) d_M_drop_83 rfl rfl (by rw [show me_L _ 44 0 = 144 from (by simp [me_I_sI, me_I_sP, me_I_nx, me_P_sI, me_P_sP, me_P_nx, me_N_sI, me_N_sP, me_N_nx, me_L_sI, me_L_sP, me_L_nx, show me_L M1 44 0 = 144 from hm1.2 (44, 0, 144) (by decide)])]; exact (vp_in_nI (by omega) (by decide))) (by rw [nI_clamp (by omega)] <;> simp [me_I_sI]) kz) ?_
          refine jx_if_eq 97 d_M_drop_84 (by decide) (fun b_84 => ?_) (fun b_84 => ?_)
          · skip
            refine jx_of (fun _ _ kz => jw_iconst 0 d_M_drop_97 (by decide) kz) ?_
            refine jx_of (fun _ _ kz => jw_istore d_M_drop_98 (Nat.le_of_ble_eq_true rfl) kz) ?_
            dsimp only [List.set]
            refine jx_of (fun _ _ kz => jw_aload_n 0 d_M_drop_100 rfl rfl kz) ?_
            refine jx_of (fun _ _ kz => jw_getPe (some (42, 0)) fl_M_47 d_M_drop_101 rfl rfl (by simp [me_I_sI, me_I_sP, me_I_nx, me_P_sI, me_P_sP, me_P_nx, me_N_sI, me_N_sP, me_N_nx, me_L_sI, me_L_sP, me_L_nx, show me_P M1 7 0 13 = some (42, 0) from hm1.1 (7, 0, 13, 42, 0) (by decide)]) kz) ?_
            refine jx_of (fun _ _ kz => jw_iload d_M_drop_104 rfl kz) ?_
            refine jx_of (fun _ _ kz => jw_ialde (me_I M1 42 0 (12 * t + k)) d_M_drop_106 rfl rfl (by rw [show me_L _ 42 0 = 144 from (by simp [me_I_sI, me_I_sP, me_I_nx, me_P_sI, me_P_sP, me_P_nx, me_N_sI, me_N_sP, me_N_nx, me_L_sI, me_L_sP, me_L_nx, show me_L M1 42 0 = 144 from hm1.2 (42, 0, 144) (by decide)])]; exact (vp_in_nI (by omega) (by decide))) (by rw [nI_clamp (by omega)] <;> simp [me_I_sI]) kz) ?_
            refine jx_of (fun _ _ kz => jw_istore d_M_drop_107 (Nat.le_of_ble_eq_true rfl) kz) ?_
            dsimp only [List.set]
            refine jx_of (fun _ _ kz => jw_aload_n 0 d_M_drop_109 rfl rfl kz) ?_
            refine jx_of (fun _ _ kz => jw_getPe (some (45, 0)) fl_M_56 d_M_drop_110 rfl rfl (by simp [me_I_sI, me_I_sP, me_I_nx, me_P_sI, me_P_sP, me_P_nx, me_N_sI, me_N_sP, me_N_nx, me_L_sI, me_L_sP, me_L_nx, show me_P M1 7 0 16 = some (45, 0) from hm1.1 (7, 0, 16, 45, 0) (by decide)]) kz) ?_
            refine jx_of (fun _ _ kz => jw_iload d_M_drop_113 rfl kz) ?_
            refine jx_of (fun _ _ kz => jw_zalde (me_I M1 45 0 (12 * t + k)) d_M_drop_115 rfl rfl (by rw [show me_L _ 45 0 = 144 from (by simp [me_I_sI, me_I_sP, me_I_nx, me_P_sI, me_P_sP, me_P_nx, me_N_sI, me_N_sP, me_N_nx, me_L_sI, me_L_sP, me_L_nx, show me_L M1 45 0 = 144 from hm1.2 (45, 0, 144) (by decide)])]; exact (vp_in_nI (by omega) (by decide))) (by rw [nI_clamp (by omega)] <;> simp [me_I_sI]) kz) ?_
            refine jx_of (fun _ _ kz => jw_istore d_M_drop_116 (Nat.le_of_ble_eq_true rfl) kz) ?_
            dsimp only [List.set]
            refine jx_of (fun _ _ kz => jw_aload_n 0 d_M_drop_118 rfl rfl kz) ?_
            refine jx_of (fun _ _ kz => jw_getPe (some (45, 0)) fl_M_56 d_M_drop_119 rfl rfl (by simp [me_I_sI, me_I_sP, me_I_nx, me_P_sI, me_P_sP, me_P_nx, me_N_sI, me_N_sP, me_N_nx, me_L_sI, me_L_sP, me_L_nx, show me_P M1 7 0 16 = some (45, 0) from hm1.1 (7, 0, 16, 45, 0) (by decide)]) kz) ?_
            refine jx_of (fun _ _ kz => jw_iload d_M_drop_122 rfl kz) ?_
            refine jx_of (fun _ _ kz => jw_iconst 0 d_M_drop_124 (by decide) kz) ?_
            refine jx_of (fun _ _ kz => jw_zast d_M_drop_125 rfl rfl (by rw [show me_L _ 45 0 = 144 from (by simp [me_I_sI, me_I_sP, me_I_nx, me_P_sI, me_P_sP, me_P_nx, me_N_sI, me_N_sP, me_N_nx, me_L_sI, me_L_sP, me_L_nx, show me_L M1 45 0 = 144 from hm1.2 (45, 0, 144) (by decide)])]; exact (vp_in_nI (by omega) (by decide))) (by decide) kz) ?_
            rw [nI_clamp (by omega)]
            refine jx_of (fun _ _ kz => jw_aload_n 0 d_M_drop_126 rfl rfl kz) ?_
            refine jx_of (fun _ _ kz => jw_getPe (some (44, 0)) fl_M_53 d_M_drop_127 rfl rfl (by simp [me_I_sI, me_I_sP, me_I_nx, me_P_sI, me_P_sP, me_P_nx, me_N_sI, me_N_sP, me_N_nx, me_L_sI, me_L_sP, me_L_nx, show me_P M1 7 0 15 = some (44, 0) from hm1.1 (7, 0, 15, 44, 0) (by decide)]) kz) ?_
            refine jx_of (fun _ _ kz => jw_iload d_M_drop_130 rfl kz) ?_
            refine jx_of (fun _ _ kz => jw_iconst 0 d_M_drop_132 (by decide) kz) ?_
            refine jx_of (fun _ _ kz => jw_zast d_M_drop_133 rfl rfl (by rw [show me_L _ 44 0 = 144 from (by simp [me_I_sI, me_I_sP, me_I_nx, me_P_sI, me_P_sP, me_P_nx, me_N_sI, me_N_sP, me_N_nx, me_L_sI, me_L_sP, me_L_nx, show me_L M1 44 0 = 144 from hm1.2 (44, 0, 144) (by decide)])]; exact (vp_in_nI (by omega) (by decide))) (by decide) kz) ?_
            rw [nI_clamp (by omega)]
            refine jx_of (fun _ _ kz => jw_iload d_M_drop_134 rfl kz) ?_
            refine jx_of (fun _ _ kz => jw_iconst 3 d_M_drop_136 (by decide) kz) ?_
            refine jx_icmp_ne 153 d_M_drop_137 (by decide) (fun h => absurd h (by decide)) (fun _ => ?_)
            refine jx_of (fun _ _ kz => jw_iload d_M_drop_140 rfl kz) ?_
            refine jx_if_eq 153 d_M_drop_142 (by decide) (fun _ => ?_) (fun h => absurd h (by decide))
            refine jx_of (fun _ _ kz => jw_iload d_M_drop_153 rfl kz) ?_
            refine jx_of (fun _ _ kz => jw_iconst 5 d_M_drop_155 (by decide) kz) ?_
            refine jx_icmp_ne 171 d_M_drop_156 (by decide) (fun _ => ?_) (fun h => absurd h (by decide))
            refine jx_of (fun _ _ kz => jw_iincc 1 d_M_drop_171 (by decide) rfl (Nat.le_of_ble_eq_true rfl) kz) ?_
            dsimp only [List.set]
            refine jx_of (fun _ _ kz => jw_goto 10 d_M_drop_174 (by decide) kz) ?_
            rw [nI_1]
            first | exact ih (k + 1) _ _ _ _ _ _ _ (by omega) (iv_tr (iv_sI (iv_sI (iv_sI h1 (by unfold hl; omega)) (by unfold hl; omega)) (by unfold hl; omega)) h3) | exact ih (k + 1) _ _ _ _ _ _ _ (by omega) (iv_sI (iv_sI (iv_sI h1 (by unfold hl; omega)) (by unfold hl; omega)) (by unfold hl; omega)) | exact ih (k + 1) _ _ _ _ _ _ _ (by omega) h1
          · skip
            refine jx_of (fun _ _ kz => jw_iload d_M_drop_87 rfl kz) ?_
            refine jx_of (fun _ _ kz => jw_iconst 3 d_M_drop_89 (by decide) kz) ?_
            refine jx_icmp_ne 97 d_M_drop_90 (by decide) (fun h => absurd h (by decide)) (fun _ => ?_)
            refine jx_of (fun _ _ kz => jw_iconst 1 d_M_drop_93 (by decide) kz) ?_
            refine jx_of (fun _ _ kz => jw_goto 98 d_M_drop_94 (by decide) kz) ?_
            refine jx_of (fun _ _ kz => jw_istore d_M_drop_98 (Nat.le_of_ble_eq_true rfl) kz) ?_
            dsimp only [List.set]
            refine jx_of (fun _ _ kz => jw_aload_n 0 d_M_drop_100 rfl rfl kz) ?_
            refine jx_of (fun _ _ kz => jw_getPe (some (42, 0)) fl_M_47 d_M_drop_101 rfl rfl (by simp [me_I_sI, me_I_sP, me_I_nx, me_P_sI, me_P_sP, me_P_nx, me_N_sI, me_N_sP, me_N_nx, me_L_sI, me_L_sP, me_L_nx, show me_P M1 7 0 13 = some (42, 0) from hm1.1 (7, 0, 13, 42, 0) (by decide)]) kz) ?_
            refine jx_of (fun _ _ kz => jw_iload d_M_drop_104 rfl kz) ?_
            refine jx_of (fun _ _ kz => jw_ialde (me_I M1 42 0 (12 * t + k)) d_M_drop_106 rfl rfl (by rw [show me_L _ 42 0 = 144 from (by simp [me_I_sI, me_I_sP, me_I_nx, me_P_sI, me_P_sP, me_P_nx, me_N_sI, me_N_sP, me_N_nx, me_L_sI, me_L_sP, me_L_nx, show me_L M1 42 0 = 144 from hm1.2 (42, 0, 144) (by decide)])]; exact (vp_in_nI (by omega) (by decide))) (by rw [nI_clamp (by omega)] <;> simp [me_I_sI]) kz) ?_
            refine jx_of (fun _ _ kz => jw_istore d_M_drop_107 (Nat.le_of_ble_eq_true rfl) kz) ?_
            dsimp only [List.set]
            refine jx_of (fun _ _ kz => jw_aload_n 0 d_M_drop_109 rfl rfl kz) ?_
            refine jx_of (fun _ _ kz => jw_getPe (some (45, 0)) fl_M_56 d_M_drop_110 rfl rfl (by simp [me_I_sI, me_I_sP, me_I_nx, me_P_sI, me_P_sP, me_P_nx, me_N_sI, me_N_sP, me_N_nx, me_L_sI, me_L_sP, me_L_nx, show me_P M1 7 0 16 = some (45, 0) from hm1.1 (7, 0, 16, 45, 0) (by decide)]) kz) ?_
            refine jx_of (fun _ _ kz => jw_iload d_M_drop_113 rfl kz) ?_
            refine jx_of (fun _ _ kz => jw_zalde (me_I M1 45 0 (12 * t + k)) d_M_drop_115 rfl rfl (by rw [show me_L _ 45 0 = 144 from (by simp [me_I_sI, me_I_sP, me_I_nx, me_P_sI, me_P_sP, me_P_nx, me_N_sI, me_N_sP, me_N_nx, me_L_sI, me_L_sP, me_L_nx, show me_L M1 45 0 = 144 from hm1.2 (45, 0, 144) (by decide)])]; exact (vp_in_nI (by omega) (by decide))) (by rw [nI_clamp (by omega)] <;> simp [me_I_sI]) kz) ?_
            refine jx_of (fun _ _ kz => jw_istore d_M_drop_116 (Nat.le_of_ble_eq_true rfl) kz) ?_
            dsimp only [List.set]
            refine jx_of (fun _ _ kz => jw_aload_n 0 d_M_drop_118 rfl rfl kz) ?_
            refine jx_of (fun _ _ kz => jw_getPe (some (45, 0)) fl_M_56 d_M_drop_119 rfl rfl (by simp [me_I_sI, me_I_sP, me_I_nx, me_P_sI, me_P_sP, me_P_nx, me_N_sI, me_N_sP, me_N_nx, me_L_sI, me_L_sP, me_L_nx, show me_P M1 7 0 16 = some (45, 0) from hm1.1 (7, 0, 16, 45, 0) (by decide)]) kz) ?_
            refine jx_of (fun _ _ kz => jw_iload d_M_drop_122 rfl kz) ?_
            refine jx_of (fun _ _ kz => jw_iconst 0 d_M_drop_124 (by decide) kz) ?_
            refine jx_of (fun _ _ kz => jw_zast d_M_drop_125 rfl rfl (by rw [show me_L _ 45 0 = 144 from (by simp [me_I_sI, me_I_sP, me_I_nx, me_P_sI, me_P_sP, me_P_nx, me_N_sI, me_N_sP, me_N_nx, me_L_sI, me_L_sP, me_L_nx, show me_L M1 45 0 = 144 from hm1.2 (45, 0, 144) (by decide)])]; exact (vp_in_nI (by omega) (by decide))) (by decide) kz) ?_
            rw [nI_clamp (by omega)]
            refine jx_of (fun _ _ kz => jw_aload_n 0 d_M_drop_126 rfl rfl kz) ?_
            refine jx_of (fun _ _ kz => jw_getPe (some (44, 0)) fl_M_53 d_M_drop_127 rfl rfl (by simp [me_I_sI, me_I_sP, me_I_nx, me_P_sI, me_P_sP, me_P_nx, me_N_sI, me_N_sP, me_N_nx, me_L_sI, me_L_sP, me_L_nx, show me_P M1 7 0 15 = some (44, 0) from hm1.1 (7, 0, 15, 44, 0) (by decide)]) kz) ?_
            refine jx_of (fun _ _ kz => jw_iload d_M_drop_130 rfl kz) ?_
            refine jx_of (fun _ _ kz => jw_iconst 0 d_M_drop_132 (by decide) kz) ?_
            refine jx_of (fun _ _ kz => jw_zast d_M_drop_133 rfl rfl (by rw [show me_L _ 44 0 = 144 from (by simp [me_I_sI, me_I_sP, me_I_nx, me_P_sI, me_P_sP, me_P_nx, me_N_sI, me_N_sP, me_N_nx, me_L_sI, me_L_sP, me_L_nx, show me_L M1 44 0 = 144 from hm1.2 (44, 0, 144) (by decide)])]; exact (vp_in_nI (by omega) (by decide))) (by decide) kz) ?_
            rw [nI_clamp (by omega)]
            refine jx_of (fun _ _ kz => jw_iload d_M_drop_134 rfl kz) ?_
            refine jx_of (fun _ _ kz => jw_iconst 3 d_M_drop_136 (by decide) kz) ?_
            refine jx_icmp_ne 153 d_M_drop_137 (by decide) (fun h => absurd h (by decide)) (fun _ => ?_)
            refine jx_of (fun _ _ kz => jw_iload d_M_drop_140 rfl kz) ?_
            refine jx_if_eq 153 d_M_drop_142 (by decide) (fun h => absurd h (by decide)) (fun _ => ?_)
            refine jx_of (fun _ _ kz => jw_aload_n 0 d_M_drop_145 rfl rfl kz) ?_
            refine jx_of (fun _ _ kz => jw_iload d_M_drop_146 rfl kz) ?_
            refine jx_of (fun _ _ kz => jw_iload d_M_drop_148 rfl kz) ?_
            refine jx_callV (z_M_add d ((aa % 2)) ((me_I M1 42 0 (12 * t + k))) np nt X (iv_sI (iv_sI (iv_sI h1 (by unfold hl; omega)) (by unfold hl; omega)) (by unfold hl; omega)).2.1  (by omega)) mt_M_add cf_M rfl rfl ml_M_144 im_M_add se_M_add d_M_drop_150 rfl rfl (Nat.le_of_ble_eq_true rfl) ?_
            rintro _ M3 ⟨rfl, h3⟩
            refine jx_eq (st2 := []) rfl rfl rfl ?_
            refine jx_of (fun _ _ kz => jw_iload d_M_drop_153 rfl kz) ?_
            refine jx_of (fun _ _ kz => jw_iconst 5 d_M_drop_155 (by decide) kz) ?_
            refine jx_icmp_ne 171 d_M_drop_156 (by decide) (fun _ => ?_) (fun h => absurd h (by decide))
            refine jx_of (fun _ _ kz => jw_iincc 1 d_M_drop_171 (by decide) rfl (Nat.le_of_ble_eq_true rfl) kz) ?_
            dsimp only [List.set]
            refine jx_of (fun _ _ kz => jw_goto 10 d_M_drop_174 (by decide) kz) ?_
            rw [nI_1]
            first | exact ih (k + 1) _ _ _ _ _ _ _ (by omega) (iv_tr (iv_sI (iv_sI (iv_sI h1 (by unfold hl; omega)) (by unfold hl; omega)) (by unfold hl; omega)) h3) | exact ih (k + 1) _ _ _ _ _ _ _ (by omega) (iv_sI (iv_sI (iv_sI h1 (by unfold hl; omega)) (by unfold hl; omega)) (by unfold hl; omega)) | exact ih (k + 1) _ _ _ _ _ _ _ (by omega) h1
      · skip
        refine jx_of (fun _ _ kz => jw_goto 171 d_M_drop_56 (by decide) kz) ?_
        refine jx_of (fun _ _ kz => jw_iincc 1 d_M_drop_171 (by decide) rfl (Nat.le_of_ble_eq_true rfl) kz) ?_
        dsimp only [List.set]
        refine jx_of (fun _ _ kz => jw_goto 10 d_M_drop_174 (by decide) kz) ?_
        rw [nI_1]
        first | exact ih (k + 1) _ _ _ _ _ _ _ (by omega) (iv_tr (iv_sI (iv_sI (iv_sI h1 (by unfold hl; omega)) (by unfold hl; omega)) (by unfold hl; omega)) h3) | exact ih (k + 1) _ _ _ _ _ _ _ (by omega) (iv_sI (iv_sI (iv_sI h1 (by unfold hl; omega)) (by unfold hl; omega)) (by unfold hl; omega)) | exact ih (k + 1) _ _ _ _ _ _ _ (by omega) h1
    · by_cases h5 : o k = 5
      · obtain ⟨aa, ha5, ha⟩ := tk5 (by have := hok.2.2; rw [h5] at this; exact this)
        refine jx_of (fun _ _ kz => jw_iload d_M_drop_10 rfl kz) ?_
        refine jx_of (fun _ _ kz => jw_iload_n 3 d_M_drop_12 rfl rfl kz) ?_
        refine jx_icmp_ge 177 d_M_drop_13 (by decide) (fun h => absurd h (nI_ge (by omega) (by omega))) (fun _ => ?_)
        refine jx_of (fun _ _ kz => jw_bipush 12 d_M_drop_16 (by decide) kz) ?_
        refine jx_of (fun _ _ kz => jw_iload_n 1 d_M_drop_18 rfl rfl kz) ?_
        refine jx_of (fun _ _ kz => jw_imul d_M_drop_19 kz) ?_
        rw [show (12 * (nI t) : Int32) = nI (12 * t) from n12 t]
        refine jx_of (fun _ _ kz => jw_iload d_M_drop_20 rfl kz) ?_
        refine jx_of (fun _ _ kz => jw_iadd d_M_drop_22 kz) ?_
        rw [show ((nI (12 * t)) + (nI k) : Int32) = nI (12 * t + k) from nI_add _ _]
        refine jx_of (fun _ _ kz => jw_istore d_M_drop_23 (Nat.le_of_ble_eq_true rfl) kz) ?_
        dsimp only [List.set]
        refine jx_of (fun _ _ kz => jw_aload_n 0 d_M_drop_25 rfl rfl kz) ?_
        refine jx_of (fun _ _ kz => jw_iload_n 1 d_M_drop_26 rfl rfl kz) ?_
        refine jx_of (fun _ _ kz => jw_iload d_M_drop_27 rfl kz) ?_
        refine jx_callV (z_M_opOf (d + 4) t k p hm1  (by omega) (by omega) hq.1 hq.2.1) mt_M_opOf cf_M rfl rfl ml_M_108 im_M_opOf se_M_opOf d_M_drop_29 rfl rfl (Nat.le_of_ble_eq_true rfl) ?_
        rintro _ _ ⟨rfl, rfl⟩
        refine jx_eq (st2 := [.inl (me_I M1 30 0 (12 * p + k))]) rfl rfl rfl ?_
        rw [show (me_I M1 30 0 (12 * p + k) : Int32) = 5 from (by rw [hok.2.1, h5]; rfl)]
        refine jx_of (fun _ _ kz => jw_istore d_M_drop_32 (Nat.le_of_ble_eq_true rfl) kz) ?_
        dsimp only [List.set]
        refine jx_of (fun _ _ kz => jw_aload_n 0 d_M_drop_34 rfl rfl kz) ?_
        refine jx_of (fun _ _ kz => jw_iload_n 1 d_M_drop_35 rfl rfl kz) ?_
        refine jx_of (fun _ _ kz => jw_iload d_M_drop_36 rfl kz) ?_
        refine jx_callV (z_M_argOf (d + 4) t k p hm1  (by omega) (by omega) hq.1 hq.2.1) mt_M_argOf cf_M rfl rfl ml_M_132 im_M_argOf se_M_argOf d_M_drop_38 rfl rfl (Nat.le_of_ble_eq_true rfl) ?_
        rintro _ _ ⟨rfl, rfl⟩
        refine jx_eq (st2 := [.inl (me_I M1 31 0 (12 * p + k))]) rfl rfl rfl ?_
        rw [show (me_I M1 31 0 (12 * p + k) : Int32) = nI aa from ha]
        refine jx_of (fun _ _ kz => jw_iconst 2 d_M_drop_41 (by decide) kz) ?_
        refine jx_of (fun _ _ kz => jw_irem d_M_drop_42 (by decide) kz) ?_
        rw [show ((nI aa) - (nI aa) / 2 * 2 : Int32) = nI (aa % 2) from pk_rem (by omega) (by decide) (by decide)]
        refine jx_of (fun _ _ kz => jw_istore d_M_drop_43 (Nat.le_of_ble_eq_true rfl) kz) ?_
        dsimp only [List.set]
        refine jx_of (fun _ _ kz => jw_aload_n 0 d_M_drop_45 rfl rfl kz) ?_
        refine jx_of (fun _ _ kz => jw_getPe (some (40, 0)) fl_M_41 d_M_drop_46 rfl rfl (by simp [me_I_sI, me_I_sP, me_I_nx, me_P_sI, me_P_sP, me_P_nx, me_N_sI, me_N_sP, me_N_nx, me_L_sI, me_L_sP, me_L_nx, show me_P M1 7 0 11 = some (40, 0) from hm1.1 (7, 0, 11, 40, 0) (by decide)]) kz) ?_
        refine jx_of (fun _ _ kz => jw_iload d_M_drop_49 rfl kz) ?_
        refine jx_of (fun _ _ kz => jw_ialde (me_I M1 40 0 (12 * t + k)) d_M_drop_51 rfl rfl (by rw [show me_L _ 40 0 = 144 from (by simp [me_I_sI, me_I_sP, me_I_nx, me_P_sI, me_P_sP, me_P_nx, me_N_sI, me_N_sP, me_N_nx, me_L_sI, me_L_sP, me_L_nx, show me_L M1 40 0 = 144 from hm1.2 (40, 0, 144) (by decide)])]; exact (vp_in_nI (by omega) (by decide))) (by rw [nI_clamp (by omega)] <;> simp [me_I_sI]) kz) ?_
        refine jx_of (fun _ _ kz => jw_iconst 1 d_M_drop_52 (by decide) kz) ?_
        refine jx_icmp_eq 59 d_M_drop_53 (by decide) (fun b_53 => ?_) (fun b_53 => ?_)
        · skip
          refine jx_of (fun _ _ kz => jw_aload_n 0 d_M_drop_59 rfl rfl kz) ?_
          refine jx_of (fun _ _ kz => jw_getPe (some (40, 0)) fl_M_41 d_M_drop_60 rfl rfl (by simp [me_I_sI, me_I_sP, me_I_nx, me_P_sI, me_P_sP, me_P_nx, me_N_sI, me_N_sP, me_N_nx, me_L_sI, me_L_sP, me_L_nx, show me_P M1 7 0 11 = some (40, 0) from hm1.1 (7, 0, 11, 40, 0) (by decide)]) kz) ?_
          refine jx_of (fun _ _ kz => jw_iload d_M_drop_63 rfl kz) ?_
          refine jx_of (fun _ _ kz => jw_iconst 4 d_M_drop_65 (by decide) kz) ?_
          refine jx_of (fun _ _ kz => jw_iast d_M_drop_66 rfl rfl (by rw [show me_L _ 40 0 = 144 from (by simp [me_I_sI, me_I_sP, me_I_nx, me_P_sI, me_P_sP, me_P_nx, me_N_sI, me_N_sP, me_N_nx, me_L_sI, me_L_sP, me_L_nx, show me_L M1 40 0 = 144 from hm1.2 (40, 0, 144) (by decide)])]; exact (vp_in_nI (by omega) (by decide))) kz) ?_
          rw [nI_clamp (by omega)]
          refine jx_of (fun _ _ kz => jw_aload_n 0 d_M_drop_67 rfl rfl kz) ?_
          refine jx_of (fun _ _ kz => jw_getPe (some (45, 0)) fl_M_56 d_M_drop_68 rfl rfl (by simp [me_I_sI, me_I_sP, me_I_nx, me_P_sI, me_P_sP, me_P_nx, me_N_sI, me_N_sP, me_N_nx, me_L_sI, me_L_sP, me_L_nx, show me_P M1 7 0 16 = some (45, 0) from hm1.1 (7, 0, 16, 45, 0) (by decide)]) kz) ?_
          refine jx_of (fun _ _ kz => jw_iload d_M_drop_71 rfl kz) ?_
          refine jx_of (fun _ _ kz => jw_zalde (me_I M1 45 0 (12 * t + k)) d_M_drop_73 rfl rfl (by rw [show me_L _ 45 0 = 144 from (by simp [me_I_sI, me_I_sP, me_I_nx, me_P_sI, me_P_sP, me_P_nx, me_N_sI, me_N_sP, me_N_nx, me_L_sI, me_L_sP, me_L_nx, show me_L M1 45 0 = 144 from hm1.2 (45, 0, 144) (by decide)])]; exact (vp_in_nI (by omega) (by decide))) (by rw [nI_clamp (by omega)] <;> simp [me_I_sI]) kz) ?_
          refine jx_if_ne 93 d_M_drop_74 (by decide) (fun b_74 => ?_) (fun b_74 => ?_)
          · skip
            refine jx_of (fun _ _ kz => jw_iconst 1 d_M_drop_93 (by decide) kz) ?_
            refine jx_of (fun _ _ kz => jw_goto 98 d_M_drop_94 (by decide) kz) ?_
            refine jx_of (fun _ _ kz => jw_istore d_M_drop_98 (Nat.le_of_ble_eq_true rfl) kz) ?_
            dsimp only [List.set]
            refine jx_of (fun _ _ kz => jw_aload_n 0 d_M_drop_100 rfl rfl kz) ?_
            refine jx_of (fun _ _ kz => jw_getPe (some (42, 0)) fl_M_47 d_M_drop_101 rfl rfl (by simp [me_I_sI, me_I_sP, me_I_nx, me_P_sI, me_P_sP, me_P_nx, me_N_sI, me_N_sP, me_N_nx, me_L_sI, me_L_sP, me_L_nx, show me_P M1 7 0 13 = some (42, 0) from hm1.1 (7, 0, 13, 42, 0) (by decide)]) kz) ?_
            refine jx_of (fun _ _ kz => jw_iload d_M_drop_104 rfl kz) ?_
            refine jx_of (fun _ _ kz => jw_ialde (me_I M1 42 0 (12 * t + k)) d_M_drop_106 rfl rfl (by rw [show me_L _ 42 0 = 144 from (by simp [me_I_sI, me_I_sP, me_I_nx, me_P_sI, me_P_sP, me_P_nx, me_N_sI, me_N_sP, me_N_nx, me_L_sI, me_L_sP, me_L_nx, show me_L M1 42 0 = 144 from hm1.2 (42, 0, 144) (by decide)])]; exact (vp_in_nI (by omega) (by decide))) (by rw [nI_clamp (by omega)] <;> simp [me_I_sI]) kz) ?_
            refine jx_of (fun _ _ kz => jw_istore d_M_drop_107 (Nat.le_of_ble_eq_true rfl) kz) ?_
            dsimp only [List.set]
            refine jx_of (fun _ _ kz => jw_aload_n 0 d_M_drop_109 rfl rfl kz) ?_
            refine jx_of (fun _ _ kz => jw_getPe (some (45, 0)) fl_M_56 d_M_drop_110 rfl rfl (by simp [me_I_sI, me_I_sP, me_I_nx, me_P_sI, me_P_sP, me_P_nx, me_N_sI, me_N_sP, me_N_nx, me_L_sI, me_L_sP, me_L_nx, show me_P M1 7 0 16 = some (45, 0) from hm1.1 (7, 0, 16, 45, 0) (by decide)]) kz) ?_
            refine jx_of (fun _ _ kz => jw_iload d_M_drop_113 rfl kz) ?_
            refine jx_of (fun _ _ kz => jw_zalde (me_I M1 45 0 (12 * t + k)) d_M_drop_115 rfl rfl (by rw [show me_L _ 45 0 = 144 from (by simp [me_I_sI, me_I_sP, me_I_nx, me_P_sI, me_P_sP, me_P_nx, me_N_sI, me_N_sP, me_N_nx, me_L_sI, me_L_sP, me_L_nx, show me_L M1 45 0 = 144 from hm1.2 (45, 0, 144) (by decide)])]; exact (vp_in_nI (by omega) (by decide))) (by rw [nI_clamp (by omega)] <;> simp [me_I_sI]) kz) ?_
            refine jx_of (fun _ _ kz => jw_istore d_M_drop_116 (Nat.le_of_ble_eq_true rfl) kz) ?_
            dsimp only [List.set]
            refine jx_of (fun _ _ kz => jw_aload_n 0 d_M_drop_118 rfl rfl kz) ?_
            refine jx_of (fun _ _ kz => jw_getPe (some (45, 0)) fl_M_56 d_M_drop_119 rfl rfl (by simp [me_I_sI, me_I_sP, me_I_nx, me_P_sI, me_P_sP, me_P_nx, me_N_sI, me_N_sP, me_N_nx, me_L_sI, me_L_sP, me_L_nx, show me_P M1 7 0 16 = some (45, 0) from hm1.1 (7, 0, 16, 45, 0) (by decide)]) kz) ?_
            refine jx_of (fun _ _ kz => jw_iload d_M_drop_122 rfl kz) ?_
            refine jx_of (fun _ _ kz => jw_iconst 0 d_M_drop_124 (by decide) kz) ?_
            refine jx_of (fun _ _ kz => jw_zast d_M_drop_125 rfl rfl (by rw [show me_L _ 45 0 = 144 from (by simp [me_I_sI, me_I_sP, me_I_nx, me_P_sI, me_P_sP, me_P_nx, me_N_sI, me_N_sP, me_N_nx, me_L_sI, me_L_sP, me_L_nx, show me_L M1 45 0 = 144 from hm1.2 (45, 0, 144) (by decide)])]; exact (vp_in_nI (by omega) (by decide))) (by decide) kz) ?_
            rw [nI_clamp (by omega)]
            refine jx_of (fun _ _ kz => jw_aload_n 0 d_M_drop_126 rfl rfl kz) ?_
            refine jx_of (fun _ _ kz => jw_getPe (some (44, 0)) fl_M_53 d_M_drop_127 rfl rfl (by simp [me_I_sI, me_I_sP, me_I_nx, me_P_sI, me_P_sP, me_P_nx, me_N_sI, me_N_sP, me_N_nx, me_L_sI, me_L_sP, me_L_nx, show me_P M1 7 0 15 = some (44, 0) from hm1.1 (7, 0, 15, 44, 0) (by decide)]) kz) ?_
            refine jx_of (fun _ _ kz => jw_iload d_M_drop_130 rfl kz) ?_
            refine jx_of (fun _ _ kz => jw_iconst 0 d_M_drop_132 (by decide) kz) ?_
            refine jx_of (fun _ _ kz => jw_zast d_M_drop_133 rfl rfl (by rw [show me_L _ 44 0 = 144 from (by simp [me_I_sI, me_I_sP, me_I_nx, me_P_sI, me_P_sP, me_P_nx, me_N_sI, me_N_sP, me_N_nx, me_L_sI, me_L_sP, me_L_nx, show me_L M1 44 0 = 144 from hm1.2 (44, 0, 144) (by decide)])]; exact (vp_in_nI (by omega) (by decide))) (by decide) kz) ?_
            rw [nI_clamp (by omega)]
            refine jx_of (fun _ _ kz => jw_iload d_M_drop_134 rfl kz) ?_
            refine jx_of (fun _ _ kz => jw_iconst 3 d_M_drop_136 (by decide) kz) ?_
            refine jx_icmp_ne 153 d_M_drop_137 (by decide) (fun _ => ?_) (fun h => absurd h (by decide))
            refine jx_of (fun _ _ kz => jw_iload d_M_drop_153 rfl kz) ?_
            refine jx_of (fun _ _ kz => jw_iconst 5 d_M_drop_155 (by decide) kz) ?_
            refine jx_icmp_ne 171 d_M_drop_156 (by decide) (fun h => absurd h (by decide)) (fun _ => ?_)
            refine jx_of (fun _ _ kz => jw_iload d_M_drop_159 rfl kz) ?_
            refine jx_if_eq 171 d_M_drop_161 (by decide) (fun b_161 => ?_) (fun b_161 => ?_)
            · skip
              refine jx_of (fun _ _ kz => jw_iincc 1 d_M_drop_171 (by decide) rfl (Nat.le_of_ble_eq_true rfl) kz) ?_
              dsimp only [List.set]
              refine jx_of (fun _ _ kz => jw_goto 10 d_M_drop_174 (by decide) kz) ?_
              rw [nI_1]
              first | exact ih (k + 1) _ _ _ _ _ _ _ (by omega) (iv_tr (iv_sI (iv_sI (iv_sI h1 (by unfold hl; omega)) (by unfold hl; omega)) (by unfold hl; omega)) h3) | exact ih (k + 1) _ _ _ _ _ _ _ (by omega) (iv_sI (iv_sI (iv_sI h1 (by unfold hl; omega)) (by unfold hl; omega)) (by unfold hl; omega)) | exact ih (k + 1) _ _ _ _ _ _ _ (by omega) h1
            · skip
              refine jx_of (fun _ _ kz => jw_aload_n 0 d_M_drop_164 rfl rfl kz) ?_
              refine jx_of (fun _ _ kz => jw_iload d_M_drop_165 rfl kz) ?_
              refine jx_callV (z_M_give d ((aa % 2)) np nt X (iv_sI (iv_sI (iv_sI h1 (by unfold hl; omega)) (by unfold hl; omega)) (by unfold hl; omega)).2.1  (by omega)) mt_M_give cf_M rfl rfl ml_M_147 im_M_give se_M_give d_M_drop_167 rfl rfl (Nat.le_of_ble_eq_true rfl) ?_
              rintro r M3 ⟨hr, h3⟩
              obtain ⟨rv, rfl⟩ : ∃ v : Int32, r = some (.inl v) := by rcases hr with hr | hr; exact ⟨_, hr⟩; exact ⟨_, hr⟩
              refine jx_eq (st2 := [.inl rv]) rfl rfl rfl ?_
              refine jx_of (fun _ _ kz => jw_pop d_M_drop_170 kz) ?_
              refine jx_of (fun _ _ kz => jw_iincc 1 d_M_drop_171 (by decide) rfl (Nat.le_of_ble_eq_true rfl) kz) ?_
              dsimp only [List.set]
              refine jx_of (fun _ _ kz => jw_goto 10 d_M_drop_174 (by decide) kz) ?_
              rw [nI_1]
              first | exact ih (k + 1) _ _ _ _ _ _ _ (by omega) (iv_tr (iv_sI (iv_sI (iv_sI h1 (by unfold hl; omega)) (by unfold hl; omega)) (by unfold hl; omega)) h3) | exact ih (k + 1) _ _ _ _ _ _ _ (by omega) (iv_sI (iv_sI (iv_sI h1 (by unfold hl; omega)) (by unfold hl; omega)) (by unfold hl; omega)) | exact ih (k + 1) _ _ _ _ _ _ _ (by omega) h1
          · skip
            refine jx_of (fun _ _ kz => jw_aload_n 0 d_M_drop_77 rfl rfl kz) ?_
            refine jx_of (fun _ _ kz => jw_getPe (some (44, 0)) fl_M_53 d_M_drop_78 rfl rfl (by simp [me_I_sI, me_I_sP, me_I_nx, me_P_sI, me_P_sP, me_P_nx, me_N_sI, me_N_sP, me_N_nx, me_L_sI, me_L_sP, me_L_nx, show me_P M1 7 0 15 = some (44, 0) from hm1.1 (7, 0, 15, 44, 0) (by decide)]) kz) ?_
            refine jx_of (fun _ _ kz => jw_iload d_M_drop_81 rfl kz) ?_
            refine jx_of (fun _ _ kz => jw_zalde (me_I M1 44 0 (12 * t + k)) d_M_drop_83 rfl rfl (by rw [show me_L _ 44 0 = 144 from (by simp [me_I_sI, me_I_sP, me_I_nx, me_P_sI, me_P_sP, me_P_nx, me_N_sI, me_N_sP, me_N_nx, me_L_sI, me_L_sP, me_L_nx, show me_L M1 44 0 = 144 from hm1.2 (44, 0, 144) (by decide)])]; exact (vp_in_nI (by omega) (by decide))) (by rw [nI_clamp (by omega)] <;> simp [me_I_sI]) kz) ?_
            refine jx_if_eq 97 d_M_drop_84 (by decide) (fun b_84 => ?_) (fun b_84 => ?_)
            · skip
              refine jx_of (fun _ _ kz => jw_iconst 0 d_M_drop_97 (by decide) kz) ?_
              refine jx_of (fun _ _ kz => jw_istore d_M_drop_98 (Nat.le_of_ble_eq_true rfl) kz) ?_
              dsimp only [List.set]
              refine jx_of (fun _ _ kz => jw_aload_n 0 d_M_drop_100 rfl rfl kz) ?_
              refine jx_of (fun _ _ kz => jw_getPe (some (42, 0)) fl_M_47 d_M_drop_101 rfl rfl (by simp [me_I_sI, me_I_sP, me_I_nx, me_P_sI, me_P_sP, me_P_nx, me_N_sI, me_N_sP, me_N_nx, me_L_sI, me_L_sP, me_L_nx, show me_P M1 7 0 13 = some (42, 0) from hm1.1 (7, 0, 13, 42, 0) (by decide)]) kz) ?_
              refine jx_of (fun _ _ kz => jw_iload d_M_drop_104 rfl kz) ?_
              refine jx_of (fun _ _ kz => jw_ialde (me_I M1 42 0 (12 * t + k)) d_M_drop_106 rfl rfl (by rw [show me_L _ 42 0 = 144 from (by simp [me_I_sI, me_I_sP, me_I_nx, me_P_sI, me_P_sP, me_P_nx, me_N_sI, me_N_sP, me_N_nx, me_L_sI, me_L_sP, me_L_nx, show me_L M1 42 0 = 144 from hm1.2 (42, 0, 144) (by decide)])]; exact (vp_in_nI (by omega) (by decide))) (by rw [nI_clamp (by omega)] <;> simp [me_I_sI]) kz) ?_
              refine jx_of (fun _ _ kz => jw_istore d_M_drop_107 (Nat.le_of_ble_eq_true rfl) kz) ?_
              dsimp only [List.set]
              refine jx_of (fun _ _ kz => jw_aload_n 0 d_M_drop_109 rfl rfl kz) ?_
              refine jx_of (fun _ _ kz => jw_getPe (some (45, 0)) fl_M_56 d_M_drop_110 rfl rfl (by simp [me_I_sI, me_I_sP, me_I_nx, me_P_sI, me_P_sP, me_P_nx, me_N_sI, me_N_sP, me_N_nx, me_L_sI, me_L_sP, me_L_nx, show me_P M1 7 0 16 = some (45, 0) from hm1.1 (7, 0, 16, 45, 0) (by decide)]) kz) ?_
              refine jx_of (fun _ _ kz => jw_iload d_M_drop_113 rfl kz) ?_
              refine jx_of (fun _ _ kz => jw_zalde (me_I M1 45 0 (12 * t + k)) d_M_drop_115 rfl rfl (by rw [show me_L _ 45 0 = 144 from (by simp [me_I_sI, me_I_sP, me_I_nx, me_P_sI, me_P_sP, me_P_nx, me_N_sI, me_N_sP, me_N_nx, me_L_sI, me_L_sP, me_L_nx, show me_L M1 45 0 = 144 from hm1.2 (45, 0, 144) (by decide)])]; exact (vp_in_nI (by omega) (by decide))) (by rw [nI_clamp (by omega)] <;> simp [me_I_sI]) kz) ?_
              refine jx_of (fun _ _ kz => jw_istore d_M_drop_116 (Nat.le_of_ble_eq_true rfl) kz) ?_
              dsimp only [List.set]
              refine jx_of (fun _ _ kz => jw_aload_n 0 d_M_drop_118 rfl rfl kz) ?_
              refine jx_of (fun _ _ kz => jw_getPe (some (45, 0)) fl_M_56 d_M_drop_119 rfl rfl (by simp [me_I_sI, me_I_sP, me_I_nx, me_P_sI, me_P_sP, me_P_nx, me_N_sI, me_N_sP, me_N_nx, me_L_sI, me_L_sP, me_L_nx, show me_P M1 7 0 16 = some (45, 0) from hm1.1 (7, 0, 16, 45, 0) (by decide)]) kz) ?_
              refine jx_of (fun _ _ kz => jw_iload d_M_drop_122 rfl kz) ?_
              refine jx_of (fun _ _ kz => jw_iconst 0 d_M_drop_124 (by decide) kz) ?_
              refine jx_of (fun _ _ kz => jw_zast d_M_drop_125 rfl rfl (by rw [show me_L _ 45 0 = 144 from (by simp [me_I_sI, me_I_sP, me_I_nx, me_P_sI, me_P_sP, me_P_nx, me_N_sI, me_N_sP, me_N_nx, me_L_sI, me_L_sP, me_L_nx, show me_L M1 45 0 = 144 from hm1.2 (45, 0, 144) (by decide)])]; exact (vp_in_nI (by omega) (by decide))) (by decide) kz) ?_
              rw [nI_clamp (by omega)]
              refine jx_of (fun _ _ kz => jw_aload_n 0 d_M_drop_126 rfl rfl kz) ?_
              refine jx_of (fun _ _ kz => jw_getPe (some (44, 0)) fl_M_53 d_M_drop_127 rfl rfl (by simp [me_I_sI, me_I_sP, me_I_nx, me_P_sI, me_P_sP, me_P_nx, me_N_sI, me_N_sP, me_N_nx, me_L_sI, me_L_sP, me_L_nx, show me_P M1 7 0 15 = some (44, 0) from hm1.1 (7, 0, 15, 44, 0) (by decide)]) kz) ?_
              refine jx_of (fun _ _ kz => jw_iload d_M_drop_130 rfl kz) ?_
              refine jx_of (fun _ _ kz => jw_iconst 0 d_M_drop_132 (by decide) kz) ?_
              refine jx_of (fun _ _ kz => jw_zast d_M_drop_133 rfl rfl (by rw [show me_L _ 44 0 = 144 from (by simp [me_I_sI, me_I_sP, me_I_nx, me_P_sI, me_P_sP, me_P_nx, me_N_sI, me_N_sP, me_N_nx, me_L_sI, me_L_sP, me_L_nx, show me_L M1 44 0 = 144 from hm1.2 (44, 0, 144) (by decide)])]; exact (vp_in_nI (by omega) (by decide))) (by decide) kz) ?_
              rw [nI_clamp (by omega)]
              refine jx_of (fun _ _ kz => jw_iload d_M_drop_134 rfl kz) ?_
              refine jx_of (fun _ _ kz => jw_iconst 3 d_M_drop_136 (by decide) kz) ?_
              refine jx_icmp_ne 153 d_M_drop_137 (by decide) (fun _ => ?_) (fun h => absurd h (by decide))
              refine jx_of (fun _ _ kz => jw_iload d_M_drop_153 rfl kz) ?_
              refine jx_of (fun _ _ kz => jw_iconst 5 d_M_drop_155 (by decide) kz) ?_
              refine jx_icmp_ne 171 d_M_drop_156 (by decide) (fun h => absurd h (by decide)) (fun _ => ?_)
              refine jx_of (fun _ _ kz => jw_iload d_M_drop_159 rfl kz) ?_
              refine jx_if_eq 171 d_M_drop_161 (by decide) (fun b_161 => ?_) (fun b_161 => ?_)
              · skip
                refine jx_of (fun _ _ kz => jw_iincc 1 d_M_drop_171 (by decide) rfl (Nat.le_of_ble_eq_true rfl) kz) ?_
                dsimp only [List.set]
                refine jx_of (fun _ _ kz => jw_goto 10 d_M_drop_174 (by decide) kz) ?_
                rw [nI_1]
                first | exact ih (k + 1) _ _ _ _ _ _ _ (by omega) (iv_tr (iv_sI (iv_sI (iv_sI h1 (by unfold hl; omega)) (by unfold hl; omega)) (by unfold hl; omega)) h3) | exact ih (k + 1) _ _ _ _ _ _ _ (by omega) (iv_sI (iv_sI (iv_sI h1 (by unfold hl; omega)) (by unfold hl; omega)) (by unfold hl; omega)) | exact ih (k + 1) _ _ _ _ _ _ _ (by omega) h1
              · skip
                refine jx_of (fun _ _ kz => jw_aload_n 0 d_M_drop_164 rfl rfl kz) ?_
                refine jx_of (fun _ _ kz => jw_iload d_M_drop_165 rfl kz) ?_
                refine jx_callV (z_M_give d ((aa % 2)) np nt X (iv_sI (iv_sI (iv_sI h1 (by unfold hl; omega)) (by unfold hl; omega)) (by unfold hl; omega)).2.1  (by omega)) mt_M_give cf_M rfl rfl ml_M_147 im_M_give se_M_give d_M_drop_167 rfl rfl (Nat.le_of_ble_eq_true rfl) ?_
                rintro r M3 ⟨hr, h3⟩
                obtain ⟨rv, rfl⟩ : ∃ v : Int32, r = some (.inl v) := by rcases hr with hr | hr; exact ⟨_, hr⟩; exact ⟨_, hr⟩
                refine jx_eq (st2 := [.inl rv]) rfl rfl rfl ?_
                refine jx_of (fun _ _ kz => jw_pop d_M_drop_170 kz) ?_
                refine jx_of (fun _ _ kz => jw_iincc 1 d_M_drop_171 (by decide) rfl (Nat.le_of_ble_eq_true rfl) kz) ?_
                dsimp only [List.set]
                refine jx_of (fun _ _ kz => jw_goto 10 d_M_drop_174 (by decide) kz) ?_
                rw [nI_1]
                first | exact ih (k + 1) _ _ _ _ _ _ _ (by omega) (iv_tr (iv_sI (iv_sI (iv_sI h1 (by unfold hl; omega)) (by unfold hl; omega)) (by unfold hl; omega)) h3) | exact ih (k + 1) _ _ _ _ _ _ _ (by omega) (iv_sI (iv_sI (iv_sI h1 (by unfold hl; omega)) (by unfold hl; omega)) (by unfold hl; omega)) | exact ih (k + 1) _ _ _ _ _ _ _ (by omega) h1
            · skip
              refine jx_of (fun _ _ kz => jw_iload d_M_drop_87 rfl kz) ?_
              refine jx_of (fun _ _ kz => jw_iconst 3 d_M_drop_89 (by decide) kz) ?_
              refine jx_icmp_ne 97 d_M_drop_90 (by decide) (fun _ => ?_) (fun h => absurd h (by decide))
              refine jx_of (fun _ _ kz => jw_iconst 0 d_M_drop_97 (by decide) kz) ?_
              refine jx_of (fun _ _ kz => jw_istore d_M_drop_98 (Nat.le_of_ble_eq_true rfl) kz) ?_
              dsimp only [List.set]
              refine jx_of (fun _ _ kz => jw_aload_n 0 d_M_drop_100 rfl rfl kz) ?_
              refine jx_of (fun _ _ kz => jw_getPe (some (42, 0)) fl_M_47 d_M_drop_101 rfl rfl (by simp [me_I_sI, me_I_sP, me_I_nx, me_P_sI, me_P_sP, me_P_nx, me_N_sI, me_N_sP, me_N_nx, me_L_sI, me_L_sP, me_L_nx, show me_P M1 7 0 13 = some (42, 0) from hm1.1 (7, 0, 13, 42, 0) (by decide)]) kz) ?_
              refine jx_of (fun _ _ kz => jw_iload d_M_drop_104 rfl kz) ?_
              refine jx_of (fun _ _ kz => jw_ialde (me_I M1 42 0 (12 * t + k)) d_M_drop_106 rfl rfl (by rw [show me_L _ 42 0 = 144 from (by simp [me_I_sI, me_I_sP, me_I_nx, me_P_sI, me_P_sP, me_P_nx, me_N_sI, me_N_sP, me_N_nx, me_L_sI, me_L_sP, me_L_nx, show me_L M1 42 0 = 144 from hm1.2 (42, 0, 144) (by decide)])]; exact (vp_in_nI (by omega) (by decide))) (by rw [nI_clamp (by omega)] <;> simp [me_I_sI]) kz) ?_
              refine jx_of (fun _ _ kz => jw_istore d_M_drop_107 (Nat.le_of_ble_eq_true rfl) kz) ?_
              dsimp only [List.set]
              refine jx_of (fun _ _ kz => jw_aload_n 0 d_M_drop_109 rfl rfl kz) ?_
              refine jx_of (fun _ _ kz => jw_getPe (some (45, 0)) fl_M_56 d_M_drop_110 rfl rfl (by simp [me_I_sI, me_I_sP, me_I_nx, me_P_sI, me_P_sP, me_P_nx, me_N_sI, me_N_sP, me_N_nx, me_L_sI, me_L_sP, me_L_nx, show me_P M1 7 0 16 = some (45, 0) from hm1.1 (7, 0, 16, 45, 0) (by decide)]) kz) ?_
              refine jx_of (fun _ _ kz => jw_iload d_M_drop_113 rfl kz) ?_
              refine jx_of (fun _ _ kz => jw_zalde (me_I M1 45 0 (12 * t + k)) d_M_drop_115 rfl rfl (by rw [show me_L _ 45 0 = 144 from (by simp [me_I_sI, me_I_sP, me_I_nx, me_P_sI, me_P_sP, me_P_nx, me_N_sI, me_N_sP, me_N_nx, me_L_sI, me_L_sP, me_L_nx, show me_L M1 45 0 = 144 from hm1.2 (45, 0, 144) (by decide)])]; exact (vp_in_nI (by omega) (by decide))) (by rw [nI_clamp (by omega)] <;> simp [me_I_sI]) kz) ?_
              refine jx_of (fun _ _ kz => jw_istore d_M_drop_116 (Nat.le_of_ble_eq_true rfl) kz) ?_
              dsimp only [List.set]
              refine jx_of (fun _ _ kz => jw_aload_n 0 d_M_drop_118 rfl rfl kz) ?_
              refine jx_of (fun _ _ kz => jw_getPe (some (45, 0)) fl_M_56 d_M_drop_119 rfl rfl (by simp [me_I_sI, me_I_sP, me_I_nx, me_P_sI, me_P_sP, me_P_nx, me_N_sI, me_N_sP, me_N_nx, me_L_sI, me_L_sP, me_L_nx, show me_P M1 7 0 16 = some (45, 0) from hm1.1 (7, 0, 16, 45, 0) (by decide)]) kz) ?_
              refine jx_of (fun _ _ kz => jw_iload d_M_drop_122 rfl kz) ?_
              refine jx_of (fun _ _ kz => jw_iconst 0 d_M_drop_124 (by decide) kz) ?_
              refine jx_of (fun _ _ kz => jw_zast d_M_drop_125 rfl rfl (by rw [show me_L _ 45 0 = 144 from (by simp [me_I_sI, me_I_sP, me_I_nx, me_P_sI, me_P_sP, me_P_nx, me_N_sI, me_N_sP, me_N_nx, me_L_sI, me_L_sP, me_L_nx, show me_L M1 45 0 = 144 from hm1.2 (45, 0, 144) (by decide)])]; exact (vp_in_nI (by omega) (by decide))) (by decide) kz) ?_
              rw [nI_clamp (by omega)]
              refine jx_of (fun _ _ kz => jw_aload_n 0 d_M_drop_126 rfl rfl kz) ?_
              refine jx_of (fun _ _ kz => jw_getPe (some (44, 0)) fl_M_53 d_M_drop_127 rfl rfl (by simp [me_I_sI, me_I_sP, me_I_nx, me_P_sI, me_P_sP, me_P_nx, me_N_sI, me_N_sP, me_N_nx, me_L_sI, me_L_sP, me_L_nx, show me_P M1 7 0 15 = some (44, 0) from hm1.1 (7, 0, 15, 44, 0) (by decide)]) kz) ?_
              refine jx_of (fun _ _ kz => jw_iload d_M_drop_130 rfl kz) ?_
              refine jx_of (fun _ _ kz => jw_iconst 0 d_M_drop_132 (by decide) kz) ?_
              refine jx_of (fun _ _ kz => jw_zast d_M_drop_133 rfl rfl (by rw [show me_L _ 44 0 = 144 from (by simp [me_I_sI, me_I_sP, me_I_nx, me_P_sI, me_P_sP, me_P_nx, me_N_sI, me_N_sP, me_N_nx, me_L_sI, me_L_sP, me_L_nx, show me_L M1 44 0 = 144 from hm1.2 (44, 0, 144) (by decide)])]; exact (vp_in_nI (by omega) (by decide))) (by decide) kz) ?_
              rw [nI_clamp (by omega)]
              refine jx_of (fun _ _ kz => jw_iload d_M_drop_134 rfl kz) ?_
              refine jx_of (fun _ _ kz => jw_iconst 3 d_M_drop_136 (by decide) kz) ?_
              refine jx_icmp_ne 153 d_M_drop_137 (by decide) (fun _ => ?_) (fun h => absurd h (by decide))
              refine jx_of (fun _ _ kz => jw_iload d_M_drop_153 rfl kz) ?_
              refine jx_of (fun _ _ kz => jw_iconst 5 d_M_drop_155 (by decide) kz) ?_
              refine jx_icmp_ne 171 d_M_drop_156 (by decide) (fun h => absurd h (by decide)) (fun _ => ?_)
              refine jx_of (fun _ _ kz => jw_iload d_M_drop_159 rfl kz) ?_
              refine jx_if_eq 171 d_M_drop_161 (by decide) (fun b_161 => ?_) (fun b_161 => ?_)
              · skip
                refine jx_of (fun _ _ kz => jw_iincc 1 d_M_drop_171 (by decide) rfl (Nat.le_of_ble_eq_true rfl) kz) ?_
                dsimp only [List.set]
                refine jx_of (fun _ _ kz => jw_goto 10 d_M_drop_174 (by decide) kz) ?_
                rw [nI_1]
                first | exact ih (k + 1) _ _ _ _ _ _ _ (by omega) (iv_tr (iv_sI (iv_sI (iv_sI h1 (by unfold hl; omega)) (by unfold hl; omega)) (by unfold hl; omega)) h3) | exact ih (k + 1) _ _ _ _ _ _ _ (by omega) (iv_sI (iv_sI (iv_sI h1 (by unfold hl; omega)) (by unfold hl; omega)) (by unfold hl; omega)) | exact ih (k + 1) _ _ _ _ _ _ _ (by omega) h1
              · skip
                refine jx_of (fun _ _ kz => jw_aload_n 0 d_M_drop_164 rfl rfl kz) ?_
                refine jx_of (fun _ _ kz => jw_iload d_M_drop_165 rfl kz) ?_
                refine jx_callV (z_M_give d ((aa % 2)) np nt X (iv_sI (iv_sI (iv_sI h1 (by unfold hl; omega)) (by unfold hl; omega)) (by unfold hl; omega)).2.1  (by omega)) mt_M_give cf_M rfl rfl ml_M_147 im_M_give se_M_give d_M_drop_167 rfl rfl (Nat.le_of_ble_eq_true rfl) ?_
                rintro r M3 ⟨hr, h3⟩
                obtain ⟨rv, rfl⟩ : ∃ v : Int32, r = some (.inl v) := by rcases hr with hr | hr; exact ⟨_, hr⟩; exact ⟨_, hr⟩
                refine jx_eq (st2 := [.inl rv]) rfl rfl rfl ?_
                refine jx_of (fun _ _ kz => jw_pop d_M_drop_170 kz) ?_
                refine jx_of (fun _ _ kz => jw_iincc 1 d_M_drop_171 (by decide) rfl (Nat.le_of_ble_eq_true rfl) kz) ?_
                dsimp only [List.set]
                refine jx_of (fun _ _ kz => jw_goto 10 d_M_drop_174 (by decide) kz) ?_
                rw [nI_1]
                first | exact ih (k + 1) _ _ _ _ _ _ _ (by omega) (iv_tr (iv_sI (iv_sI (iv_sI h1 (by unfold hl; omega)) (by unfold hl; omega)) (by unfold hl; omega)) h3) | exact ih (k + 1) _ _ _ _ _ _ _ (by omega) (iv_sI (iv_sI (iv_sI h1 (by unfold hl; omega)) (by unfold hl; omega)) (by unfold hl; omega)) | exact ih (k + 1) _ _ _ _ _ _ _ (by omega) h1
        · skip
          refine jx_of (fun _ _ kz => jw_goto 171 d_M_drop_56 (by decide) kz) ?_
          refine jx_of (fun _ _ kz => jw_iincc 1 d_M_drop_171 (by decide) rfl (Nat.le_of_ble_eq_true rfl) kz) ?_
          dsimp only [List.set]
          refine jx_of (fun _ _ kz => jw_goto 10 d_M_drop_174 (by decide) kz) ?_
          rw [nI_1]
          first | exact ih (k + 1) _ _ _ _ _ _ _ (by omega) (iv_tr (iv_sI (iv_sI (iv_sI h1 (by unfold hl; omega)) (by unfold hl; omega)) (by unfold hl; omega)) h3) | exact ih (k + 1) _ _ _ _ _ _ _ (by omega) (iv_sI (iv_sI (iv_sI h1 (by unfold hl; omega)) (by unfold hl; omega)) (by unfold hl; omega)) | exact ih (k + 1) _ _ _ _ _ _ _ (by omega) h1
      · skip
        refine jx_of (fun _ _ kz => jw_iload d_M_drop_10 rfl kz) ?_
        refine jx_of (fun _ _ kz => jw_iload_n 3 d_M_drop_12 rfl rfl kz) ?_
        refine jx_icmp_ge 177 d_M_drop_13 (by decide) (fun h => absurd h (nI_ge (by omega) (by omega))) (fun _ => ?_)
        refine jx_of (fun _ _ kz => jw_bipush 12 d_M_drop_16 (by decide) kz) ?_
        refine jx_of (fun _ _ kz => jw_iload_n 1 d_M_drop_18 rfl rfl kz) ?_
        refine jx_of (fun _ _ kz => jw_imul d_M_drop_19 kz) ?_
        rw [show (12 * (nI t) : Int32) = nI (12 * t) from n12 t]
        refine jx_of (fun _ _ kz => jw_iload d_M_drop_20 rfl kz) ?_
        refine jx_of (fun _ _ kz => jw_iadd d_M_drop_22 kz) ?_
        rw [show ((nI (12 * t)) + (nI k) : Int32) = nI (12 * t + k) from nI_add _ _]
        refine jx_of (fun _ _ kz => jw_istore d_M_drop_23 (Nat.le_of_ble_eq_true rfl) kz) ?_
        dsimp only [List.set]
        refine jx_of (fun _ _ kz => jw_aload_n 0 d_M_drop_25 rfl rfl kz) ?_
        refine jx_of (fun _ _ kz => jw_iload_n 1 d_M_drop_26 rfl rfl kz) ?_
        refine jx_of (fun _ _ kz => jw_iload d_M_drop_27 rfl kz) ?_
        refine jx_callV (z_M_opOf (d + 4) t k p hm1  (by omega) (by omega) hq.1 hq.2.1) mt_M_opOf cf_M rfl rfl ml_M_108 im_M_opOf se_M_opOf d_M_drop_29 rfl rfl (Nat.le_of_ble_eq_true rfl) ?_
        rintro _ _ ⟨rfl, rfl⟩
        refine jx_eq (st2 := [.inl (me_I M1 30 0 (12 * p + k))]) rfl rfl rfl ?_
        rw [show (me_I M1 30 0 (12 * p + k) : Int32) = nI (o k) from hok.2.1]
        refine jx_of (fun _ _ kz => jw_istore d_M_drop_32 (Nat.le_of_ble_eq_true rfl) kz) ?_
        dsimp only [List.set]
        refine jx_of (fun _ _ kz => jw_aload_n 0 d_M_drop_34 rfl rfl kz) ?_
        refine jx_of (fun _ _ kz => jw_iload_n 1 d_M_drop_35 rfl rfl kz) ?_
        refine jx_of (fun _ _ kz => jw_iload d_M_drop_36 rfl kz) ?_
        refine jx_callV (z_M_argOf (d + 4) t k p hm1  (by omega) (by omega) hq.1 hq.2.1) mt_M_argOf cf_M rfl rfl ml_M_132 im_M_argOf se_M_argOf d_M_drop_38 rfl rfl (Nat.le_of_ble_eq_true rfl) ?_
        rintro _ _ ⟨rfl, rfl⟩
        refine jx_eq (st2 := [.inl (me_I M1 31 0 (12 * p + k))]) rfl rfl rfl ?_
        refine jx_of (fun _ _ kz => jw_iconst 2 d_M_drop_41 (by decide) kz) ?_
        refine jx_of (fun _ _ kz => jw_irem d_M_drop_42 (by decide) kz) ?_
        refine jx_of (fun _ _ kz => jw_istore d_M_drop_43 (Nat.le_of_ble_eq_true rfl) kz) ?_
        dsimp only [List.set]
        refine jx_of (fun _ _ kz => jw_aload_n 0 d_M_drop_45 rfl rfl kz) ?_
        refine jx_of (fun _ _ kz => jw_getPe (some (40, 0)) fl_M_41 d_M_drop_46 rfl rfl (by simp [me_I_sI, me_I_sP, me_I_nx, me_P_sI, me_P_sP, me_P_nx, me_N_sI, me_N_sP, me_N_nx, me_L_sI, me_L_sP, me_L_nx, show me_P M1 7 0 11 = some (40, 0) from hm1.1 (7, 0, 11, 40, 0) (by decide)]) kz) ?_
        refine jx_of (fun _ _ kz => jw_iload d_M_drop_49 rfl kz) ?_
        refine jx_of (fun _ _ kz => jw_ialde (me_I M1 40 0 (12 * t + k)) d_M_drop_51 rfl rfl (by rw [show me_L _ 40 0 = 144 from (by simp [me_I_sI, me_I_sP, me_I_nx, me_P_sI, me_P_sP, me_P_nx, me_N_sI, me_N_sP, me_N_nx, me_L_sI, me_L_sP, me_L_nx, show me_L M1 40 0 = 144 from hm1.2 (40, 0, 144) (by decide)])]; exact (vp_in_nI (by omega) (by decide))) (by rw [nI_clamp (by omega)] <;> simp [me_I_sI]) kz) ?_
        refine jx_of (fun _ _ kz => jw_iconst 1 d_M_drop_52 (by decide) kz) ?_
        refine jx_icmp_eq 59 d_M_drop_53 (by decide) (fun b_53 => ?_) (fun b_53 => ?_)
        · skip
          refine jx_of (fun _ _ kz => jw_aload_n 0 d_M_drop_59 rfl rfl kz) ?_
          refine jx_of (fun _ _ kz => jw_getPe (some (40, 0)) fl_M_41 d_M_drop_60 rfl rfl (by simp [me_I_sI, me_I_sP, me_I_nx, me_P_sI, me_P_sP, me_P_nx, me_N_sI, me_N_sP, me_N_nx, me_L_sI, me_L_sP, me_L_nx, show me_P M1 7 0 11 = some (40, 0) from hm1.1 (7, 0, 11, 40, 0) (by decide)]) kz) ?_
          refine jx_of (fun _ _ kz => jw_iload d_M_drop_63 rfl kz) ?_
          refine jx_of (fun _ _ kz => jw_iconst 4 d_M_drop_65 (by decide) kz) ?_
          refine jx_of (fun _ _ kz => jw_iast d_M_drop_66 rfl rfl (by rw [show me_L _ 40 0 = 144 from (by simp [me_I_sI, me_I_sP, me_I_nx, me_P_sI, me_P_sP, me_P_nx, me_N_sI, me_N_sP, me_N_nx, me_L_sI, me_L_sP, me_L_nx, show me_L M1 40 0 = 144 from hm1.2 (40, 0, 144) (by decide)])]; exact (vp_in_nI (by omega) (by decide))) kz) ?_
          rw [nI_clamp (by omega)]
          refine jx_of (fun _ _ kz => jw_aload_n 0 d_M_drop_67 rfl rfl kz) ?_
          refine jx_of (fun _ _ kz => jw_getPe (some (45, 0)) fl_M_56 d_M_drop_68 rfl rfl (by simp [me_I_sI, me_I_sP, me_I_nx, me_P_sI, me_P_sP, me_P_nx, me_N_sI, me_N_sP, me_N_nx, me_L_sI, me_L_sP, me_L_nx, show me_P M1 7 0 16 = some (45, 0) from hm1.1 (7, 0, 16, 45, 0) (by decide)]) kz) ?_
          refine jx_of (fun _ _ kz => jw_iload d_M_drop_71 rfl kz) ?_
          refine jx_of (fun _ _ kz => jw_zalde (me_I M1 45 0 (12 * t + k)) d_M_drop_73 rfl rfl (by rw [show me_L _ 45 0 = 144 from (by simp [me_I_sI, me_I_sP, me_I_nx, me_P_sI, me_P_sP, me_P_nx, me_N_sI, me_N_sP, me_N_nx, me_L_sI, me_L_sP, me_L_nx, show me_L M1 45 0 = 144 from hm1.2 (45, 0, 144) (by decide)])]; exact (vp_in_nI (by omega) (by decide))) (by rw [nI_clamp (by omega)] <;> simp [me_I_sI]) kz) ?_
          refine jx_if_ne 93 d_M_drop_74 (by decide) (fun b_74 => ?_) (fun b_74 => ?_)
          · skip
            refine jx_of (fun _ _ kz => jw_iconst 1 d_M_drop_93 (by decide) kz) ?_
            refine jx_of (fun _ _ kz => jw_goto 98 d_M_drop_94 (by decide) kz) ?_
            refine jx_of (fun _ _ kz => jw_istore d_M_drop_98 (Nat.le_of_ble_eq_true rfl) kz) ?_
            dsimp only [List.set]
            refine jx_of (fun _ _ kz => jw_aload_n 0 d_M_drop_100 rfl rfl kz) ?_
            refine jx_of (fun _ _ kz => jw_getPe (some (42, 0)) fl_M_47 d_M_drop_101 rfl rfl (by simp [me_I_sI, me_I_sP, me_I_nx, me_P_sI, me_P_sP, me_P_nx, me_N_sI, me_N_sP, me_N_nx, me_L_sI, me_L_sP, me_L_nx, show me_P M1 7 0 13 = some (42, 0) from hm1.1 (7, 0, 13, 42, 0) (by decide)]) kz) ?_
            refine jx_of (fun _ _ kz => jw_iload d_M_drop_104 rfl kz) ?_
            refine jx_of (fun _ _ kz => jw_ialde (me_I M1 42 0 (12 * t + k)) d_M_drop_106 rfl rfl (by rw [show me_L _ 42 0 = 144 from (by simp [me_I_sI, me_I_sP, me_I_nx, me_P_sI, me_P_sP, me_P_nx, me_N_sI, me_N_sP, me_N_nx, me_L_sI, me_L_sP, me_L_nx, show me_L M1 42 0 = 144 from hm1.2 (42, 0, 144) (by decide)])]; exact (vp_in_nI (by omega) (by decide))) (by rw [nI_clamp (by omega)] <;> simp [me_I_sI]) kz) ?_
            refine jx_of (fun _ _ kz => jw_istore d_M_drop_107 (Nat.le_of_ble_eq_true rfl) kz) ?_
            dsimp only [List.set]
            refine jx_of (fun _ _ kz => jw_aload_n 0 d_M_drop_109 rfl rfl kz) ?_
            refine jx_of (fun _ _ kz => jw_getPe (some (45, 0)) fl_M_56 d_M_drop_110 rfl rfl (by simp [me_I_sI, me_I_sP, me_I_nx, me_P_sI, me_P_sP, me_P_nx, me_N_sI, me_N_sP, me_N_nx, me_L_sI, me_L_sP, me_L_nx, show me_P M1 7 0 16 = some (45, 0) from hm1.1 (7, 0, 16, 45, 0) (by decide)]) kz) ?_
            refine jx_of (fun _ _ kz => jw_iload d_M_drop_113 rfl kz) ?_
            refine jx_of (fun _ _ kz => jw_zalde (me_I M1 45 0 (12 * t + k)) d_M_drop_115 rfl rfl (by rw [show me_L _ 45 0 = 144 from (by simp [me_I_sI, me_I_sP, me_I_nx, me_P_sI, me_P_sP, me_P_nx, me_N_sI, me_N_sP, me_N_nx, me_L_sI, me_L_sP, me_L_nx, show me_L M1 45 0 = 144 from hm1.2 (45, 0, 144) (by decide)])]; exact (vp_in_nI (by omega) (by decide))) (by rw [nI_clamp (by omega)] <;> simp [me_I_sI]) kz) ?_
            refine jx_of (fun _ _ kz => jw_istore d_M_drop_116 (Nat.le_of_ble_eq_true rfl) kz) ?_
            dsimp only [List.set]
            refine jx_of (fun _ _ kz => jw_aload_n 0 d_M_drop_118 rfl rfl kz) ?_
            refine jx_of (fun _ _ kz => jw_getPe (some (45, 0)) fl_M_56 d_M_drop_119 rfl rfl (by simp [me_I_sI, me_I_sP, me_I_nx, me_P_sI, me_P_sP, me_P_nx, me_N_sI, me_N_sP, me_N_nx, me_L_sI, me_L_sP, me_L_nx, show me_P M1 7 0 16 = some (45, 0) from hm1.1 (7, 0, 16, 45, 0) (by decide)]) kz) ?_
            refine jx_of (fun _ _ kz => jw_iload d_M_drop_122 rfl kz) ?_
            refine jx_of (fun _ _ kz => jw_iconst 0 d_M_drop_124 (by decide) kz) ?_
            refine jx_of (fun _ _ kz => jw_zast d_M_drop_125 rfl rfl (by rw [show me_L _ 45 0 = 144 from (by simp [me_I_sI, me_I_sP, me_I_nx, me_P_sI, me_P_sP, me_P_nx, me_N_sI, me_N_sP, me_N_nx, me_L_sI, me_L_sP, me_L_nx, show me_L M1 45 0 = 144 from hm1.2 (45, 0, 144) (by decide)])]; exact (vp_in_nI (by omega) (by decide))) (by decide) kz) ?_
            rw [nI_clamp (by omega)]
            refine jx_of (fun _ _ kz => jw_aload_n 0 d_M_drop_126 rfl rfl kz) ?_
            refine jx_of (fun _ _ kz => jw_getPe (some (44, 0)) fl_M_53 d_M_drop_127 rfl rfl (by simp [me_I_sI, me_I_sP, me_I_nx, me_P_sI, me_P_sP, me_P_nx, me_N_sI, me_N_sP, me_N_nx, me_L_sI, me_L_sP, me_L_nx, show me_P M1 7 0 15 = some (44, 0) from hm1.1 (7, 0, 15, 44, 0) (by decide)]) kz) ?_
            refine jx_of (fun _ _ kz => jw_iload d_M_drop_130 rfl kz) ?_
            refine jx_of (fun _ _ kz => jw_iconst 0 d_M_drop_132 (by decide) kz) ?_
            refine jx_of (fun _ _ kz => jw_zast d_M_drop_133 rfl rfl (by rw [show me_L _ 44 0 = 144 from (by simp [me_I_sI, me_I_sP, me_I_nx, me_P_sI, me_P_sP, me_P_nx, me_N_sI, me_N_sP, me_N_nx, me_L_sI, me_L_sP, me_L_nx, show me_L M1 44 0 = 144 from hm1.2 (44, 0, 144) (by decide)])]; exact (vp_in_nI (by omega) (by decide))) (by decide) kz) ?_
            rw [nI_clamp (by omega)]
            refine jx_of (fun _ _ kz => jw_iload d_M_drop_134 rfl kz) ?_
            refine jx_of (fun _ _ kz => jw_iconst 3 d_M_drop_136 (by decide) kz) ?_
            refine jx_icmp_ne 153 d_M_drop_137 (by decide) (fun _ => ?_) (fun h => absurd h (fun q => h3 ((nI_eq (by omega) (by decide)).mp q)))
            refine jx_of (fun _ _ kz => jw_iload d_M_drop_153 rfl kz) ?_
            refine jx_of (fun _ _ kz => jw_iconst 5 d_M_drop_155 (by decide) kz) ?_
            refine jx_icmp_ne 171 d_M_drop_156 (by decide) (fun _ => ?_) (fun h => absurd h (fun q => h5 ((nI_eq (by omega) (by decide)).mp q)))
            refine jx_of (fun _ _ kz => jw_iincc 1 d_M_drop_171 (by decide) rfl (Nat.le_of_ble_eq_true rfl) kz) ?_
            dsimp only [List.set]
            refine jx_of (fun _ _ kz => jw_goto 10 d_M_drop_174 (by decide) kz) ?_
            rw [nI_1]
            first | exact ih (k + 1) _ _ _ _ _ _ _ (by omega) (iv_tr (iv_sI (iv_sI (iv_sI h1 (by unfold hl; omega)) (by unfold hl; omega)) (by unfold hl; omega)) h3) | exact ih (k + 1) _ _ _ _ _ _ _ (by omega) (iv_sI (iv_sI (iv_sI h1 (by unfold hl; omega)) (by unfold hl; omega)) (by unfold hl; omega)) | exact ih (k + 1) _ _ _ _ _ _ _ (by omega) h1
          · skip
            refine jx_of (fun _ _ kz => jw_aload_n 0 d_M_drop_77 rfl rfl kz) ?_
            refine jx_of (fun _ _ kz => jw_getPe (some (44, 0)) fl_M_53 d_M_drop_78 rfl rfl (by simp [me_I_sI, me_I_sP, me_I_nx, me_P_sI, me_P_sP, me_P_nx, me_N_sI, me_N_sP, me_N_nx, me_L_sI, me_L_sP, me_L_nx, show me_P M1 7 0 15 = some (44, 0) from hm1.1 (7, 0, 15, 44, 0) (by decide)]) kz) ?_
            refine jx_of (fun _ _ kz => jw_iload d_M_drop_81 rfl kz) ?_
            refine jx_of (fun _ _ kz => jw_zalde (me_I M1 44 0 (12 * t + k)) d_M_drop_83 rfl rfl (by rw [show me_L _ 44 0 = 144 from (by simp [me_I_sI, me_I_sP, me_I_nx, me_P_sI, me_P_sP, me_P_nx, me_N_sI, me_N_sP, me_N_nx, me_L_sI, me_L_sP, me_L_nx, show me_L M1 44 0 = 144 from hm1.2 (44, 0, 144) (by decide)])]; exact (vp_in_nI (by omega) (by decide))) (by rw [nI_clamp (by omega)] <;> simp [me_I_sI]) kz) ?_
            refine jx_if_eq 97 d_M_drop_84 (by decide) (fun b_84 => ?_) (fun b_84 => ?_)
            · skip
              refine jx_of (fun _ _ kz => jw_iconst 0 d_M_drop_97 (by decide) kz) ?_
              refine jx_of (fun _ _ kz => jw_istore d_M_drop_98 (Nat.le_of_ble_eq_true rfl) kz) ?_
              dsimp only [List.set]
              refine jx_of (fun _ _ kz => jw_aload_n 0 d_M_drop_100 rfl rfl kz) ?_
              refine jx_of (fun _ _ kz => jw_getPe (some (42, 0)) fl_M_47 d_M_drop_101 rfl rfl (by simp [me_I_sI, me_I_sP, me_I_nx, me_P_sI, me_P_sP, me_P_nx, me_N_sI, me_N_sP, me_N_nx, me_L_sI, me_L_sP, me_L_nx, show me_P M1 7 0 13 = some (42, 0) from hm1.1 (7, 0, 13, 42, 0) (by decide)]) kz) ?_
              refine jx_of (fun _ _ kz => jw_iload d_M_drop_104 rfl kz) ?_
              refine jx_of (fun _ _ kz => jw_ialde (me_I M1 42 0 (12 * t + k)) d_M_drop_106 rfl rfl (by rw [show me_L _ 42 0 = 144 from (by simp [me_I_sI, me_I_sP, me_I_nx, me_P_sI, me_P_sP, me_P_nx, me_N_sI, me_N_sP, me_N_nx, me_L_sI, me_L_sP, me_L_nx, show me_L M1 42 0 = 144 from hm1.2 (42, 0, 144) (by decide)])]; exact (vp_in_nI (by omega) (by decide))) (by rw [nI_clamp (by omega)] <;> simp [me_I_sI]) kz) ?_
              refine jx_of (fun _ _ kz => jw_istore d_M_drop_107 (Nat.le_of_ble_eq_true rfl) kz) ?_
              dsimp only [List.set]
              refine jx_of (fun _ _ kz => jw_aload_n 0 d_M_drop_109 rfl rfl kz) ?_
              refine jx_of (fun _ _ kz => jw_getPe (some (45, 0)) fl_M_56 d_M_drop_110 rfl rfl (by simp [me_I_sI, me_I_sP, me_I_nx, me_P_sI, me_P_sP, me_P_nx, me_N_sI, me_N_sP, me_N_nx, me_L_sI, me_L_sP, me_L_nx, show me_P M1 7 0 16 = some (45, 0) from hm1.1 (7, 0, 16, 45, 0) (by decide)]) kz) ?_
              refine jx_of (fun _ _ kz => jw_iload d_M_drop_113 rfl kz) ?_
              refine jx_of (fun _ _ kz => jw_zalde (me_I M1 45 0 (12 * t + k)) d_M_drop_115 rfl rfl (by rw [show me_L _ 45 0 = 144 from (by simp [me_I_sI, me_I_sP, me_I_nx, me_P_sI, me_P_sP, me_P_nx, me_N_sI, me_N_sP, me_N_nx, me_L_sI, me_L_sP, me_L_nx, show me_L M1 45 0 = 144 from hm1.2 (45, 0, 144) (by decide)])]; exact (vp_in_nI (by omega) (by decide))) (by rw [nI_clamp (by omega)] <;> simp [me_I_sI]) kz) ?_
              refine jx_of (fun _ _ kz => jw_istore d_M_drop_116 (Nat.le_of_ble_eq_true rfl) kz) ?_
              dsimp only [List.set]
              refine jx_of (fun _ _ kz => jw_aload_n 0 d_M_drop_118 rfl rfl kz) ?_
              refine jx_of (fun _ _ kz => jw_getPe (some (45, 0)) fl_M_56 d_M_drop_119 rfl rfl (by simp [me_I_sI, me_I_sP, me_I_nx, me_P_sI, me_P_sP, me_P_nx, me_N_sI, me_N_sP, me_N_nx, me_L_sI, me_L_sP, me_L_nx, show me_P M1 7 0 16 = some (45, 0) from hm1.1 (7, 0, 16, 45, 0) (by decide)]) kz) ?_
              refine jx_of (fun _ _ kz => jw_iload d_M_drop_122 rfl kz) ?_
              refine jx_of (fun _ _ kz => jw_iconst 0 d_M_drop_124 (by decide) kz) ?_
              refine jx_of (fun _ _ kz => jw_zast d_M_drop_125 rfl rfl (by rw [show me_L _ 45 0 = 144 from (by simp [me_I_sI, me_I_sP, me_I_nx, me_P_sI, me_P_sP, me_P_nx, me_N_sI, me_N_sP, me_N_nx, me_L_sI, me_L_sP, me_L_nx, show me_L M1 45 0 = 144 from hm1.2 (45, 0, 144) (by decide)])]; exact (vp_in_nI (by omega) (by decide))) (by decide) kz) ?_
              rw [nI_clamp (by omega)]
              refine jx_of (fun _ _ kz => jw_aload_n 0 d_M_drop_126 rfl rfl kz) ?_
              refine jx_of (fun _ _ kz => jw_getPe (some (44, 0)) fl_M_53 d_M_drop_127 rfl rfl (by simp [me_I_sI, me_I_sP, me_I_nx, me_P_sI, me_P_sP, me_P_nx, me_N_sI, me_N_sP, me_N_nx, me_L_sI, me_L_sP, me_L_nx, show me_P M1 7 0 15 = some (44, 0) from hm1.1 (7, 0, 15, 44, 0) (by decide)]) kz) ?_
              refine jx_of (fun _ _ kz => jw_iload d_M_drop_130 rfl kz) ?_
              refine jx_of (fun _ _ kz => jw_iconst 0 d_M_drop_132 (by decide) kz) ?_
              refine jx_of (fun _ _ kz => jw_zast d_M_drop_133 rfl rfl (by rw [show me_L _ 44 0 = 144 from (by simp [me_I_sI, me_I_sP, me_I_nx, me_P_sI, me_P_sP, me_P_nx, me_N_sI, me_N_sP, me_N_nx, me_L_sI, me_L_sP, me_L_nx, show me_L M1 44 0 = 144 from hm1.2 (44, 0, 144) (by decide)])]; exact (vp_in_nI (by omega) (by decide))) (by decide) kz) ?_
              rw [nI_clamp (by omega)]
              refine jx_of (fun _ _ kz => jw_iload d_M_drop_134 rfl kz) ?_
              refine jx_of (fun _ _ kz => jw_iconst 3 d_M_drop_136 (by decide) kz) ?_
              refine jx_icmp_ne 153 d_M_drop_137 (by decide) (fun _ => ?_) (fun h => absurd h (fun q => h3 ((nI_eq (by omega) (by decide)).mp q)))
              refine jx_of (fun _ _ kz => jw_iload d_M_drop_153 rfl kz) ?_
              refine jx_of (fun _ _ kz => jw_iconst 5 d_M_drop_155 (by decide) kz) ?_
              refine jx_icmp_ne 171 d_M_drop_156 (by decide) (fun _ => ?_) (fun h => absurd h (fun q => h5 ((nI_eq (by omega) (by decide)).mp q)))
              refine jx_of (fun _ _ kz => jw_iincc 1 d_M_drop_171 (by decide) rfl (Nat.le_of_ble_eq_true rfl) kz) ?_
              dsimp only [List.set]
              refine jx_of (fun _ _ kz => jw_goto 10 d_M_drop_174 (by decide) kz) ?_
              rw [nI_1]
              first | exact ih (k + 1) _ _ _ _ _ _ _ (by omega) (iv_tr (iv_sI (iv_sI (iv_sI h1 (by unfold hl; omega)) (by unfold hl; omega)) (by unfold hl; omega)) h3) | exact ih (k + 1) _ _ _ _ _ _ _ (by omega) (iv_sI (iv_sI (iv_sI h1 (by unfold hl; omega)) (by unfold hl; omega)) (by unfold hl; omega)) | exact ih (k + 1) _ _ _ _ _ _ _ (by omega) h1
            · skip
              refine jx_of (fun _ _ kz => jw_iload d_M_drop_87 rfl kz) ?_
              refine jx_of (fun _ _ kz => jw_iconst 3 d_M_drop_89 (by decide) kz) ?_
              refine jx_icmp_ne 97 d_M_drop_90 (by decide) (fun _ => ?_) (fun h => absurd h (fun q => h3 ((nI_eq (by omega) (by decide)).mp q)))
              refine jx_of (fun _ _ kz => jw_iconst 0 d_M_drop_97 (by decide) kz) ?_
              refine jx_of (fun _ _ kz => jw_istore d_M_drop_98 (Nat.le_of_ble_eq_true rfl) kz) ?_
              dsimp only [List.set]
              refine jx_of (fun _ _ kz => jw_aload_n 0 d_M_drop_100 rfl rfl kz) ?_
              refine jx_of (fun _ _ kz => jw_getPe (some (42, 0)) fl_M_47 d_M_drop_101 rfl rfl (by simp [me_I_sI, me_I_sP, me_I_nx, me_P_sI, me_P_sP, me_P_nx, me_N_sI, me_N_sP, me_N_nx, me_L_sI, me_L_sP, me_L_nx, show me_P M1 7 0 13 = some (42, 0) from hm1.1 (7, 0, 13, 42, 0) (by decide)]) kz) ?_
              refine jx_of (fun _ _ kz => jw_iload d_M_drop_104 rfl kz) ?_
              refine jx_of (fun _ _ kz => jw_ialde (me_I M1 42 0 (12 * t + k)) d_M_drop_106 rfl rfl (by rw [show me_L _ 42 0 = 144 from (by simp [me_I_sI, me_I_sP, me_I_nx, me_P_sI, me_P_sP, me_P_nx, me_N_sI, me_N_sP, me_N_nx, me_L_sI, me_L_sP, me_L_nx, show me_L M1 42 0 = 144 from hm1.2 (42, 0, 144) (by decide)])]; exact (vp_in_nI (by omega) (by decide))) (by rw [nI_clamp (by omega)] <;> simp [me_I_sI]) kz) ?_
              refine jx_of (fun _ _ kz => jw_istore d_M_drop_107 (Nat.le_of_ble_eq_true rfl) kz) ?_
              dsimp only [List.set]
              refine jx_of (fun _ _ kz => jw_aload_n 0 d_M_drop_109 rfl rfl kz) ?_
              refine jx_of (fun _ _ kz => jw_getPe (some (45, 0)) fl_M_56 d_M_drop_110 rfl rfl (by simp [me_I_sI, me_I_sP, me_I_nx, me_P_sI, me_P_sP, me_P_nx, me_N_sI, me_N_sP, me_N_nx, me_L_sI, me_L_sP, me_L_nx, show me_P M1 7 0 16 = some (45, 0) from hm1.1 (7, 0, 16, 45, 0) (by decide)]) kz) ?_
              refine jx_of (fun _ _ kz => jw_iload d_M_drop_113 rfl kz) ?_
              refine jx_of (fun _ _ kz => jw_zalde (me_I M1 45 0 (12 * t + k)) d_M_drop_115 rfl rfl (by rw [show me_L _ 45 0 = 144 from (by simp [me_I_sI, me_I_sP, me_I_nx, me_P_sI, me_P_sP, me_P_nx, me_N_sI, me_N_sP, me_N_nx, me_L_sI, me_L_sP, me_L_nx, show me_L M1 45 0 = 144 from hm1.2 (45, 0, 144) (by decide)])]; exact (vp_in_nI (by omega) (by decide))) (by rw [nI_clamp (by omega)] <;> simp [me_I_sI]) kz) ?_
              refine jx_of (fun _ _ kz => jw_istore d_M_drop_116 (Nat.le_of_ble_eq_true rfl) kz) ?_
              dsimp only [List.set]
              refine jx_of (fun _ _ kz => jw_aload_n 0 d_M_drop_118 rfl rfl kz) ?_
              refine jx_of (fun _ _ kz => jw_getPe (some (45, 0)) fl_M_56 d_M_drop_119 rfl rfl (by simp [me_I_sI, me_I_sP, me_I_nx, me_P_sI, me_P_sP, me_P_nx, me_N_sI, me_N_sP, me_N_nx, me_L_sI, me_L_sP, me_L_nx, show me_P M1 7 0 16 = some (45, 0) from hm1.1 (7, 0, 16, 45, 0) (by decide)]) kz) ?_
              refine jx_of (fun _ _ kz => jw_iload d_M_drop_122 rfl kz) ?_
              refine jx_of (fun _ _ kz => jw_iconst 0 d_M_drop_124 (by decide) kz) ?_
              refine jx_of (fun _ _ kz => jw_zast d_M_drop_125 rfl rfl (by rw [show me_L _ 45 0 = 144 from (by simp [me_I_sI, me_I_sP, me_I_nx, me_P_sI, me_P_sP, me_P_nx, me_N_sI, me_N_sP, me_N_nx, me_L_sI, me_L_sP, me_L_nx, show me_L M1 45 0 = 144 from hm1.2 (45, 0, 144) (by decide)])]; exact (vp_in_nI (by omega) (by decide))) (by decide) kz) ?_
              rw [nI_clamp (by omega)]
              refine jx_of (fun _ _ kz => jw_aload_n 0 d_M_drop_126 rfl rfl kz) ?_
              refine jx_of (fun _ _ kz => jw_getPe (some (44, 0)) fl_M_53 d_M_drop_127 rfl rfl (by simp [me_I_sI, me_I_sP, me_I_nx, me_P_sI, me_P_sP, me_P_nx, me_N_sI, me_N_sP, me_N_nx, me_L_sI, me_L_sP, me_L_nx, show me_P M1 7 0 15 = some (44, 0) from hm1.1 (7, 0, 15, 44, 0) (by decide)]) kz) ?_
              refine jx_of (fun _ _ kz => jw_iload d_M_drop_130 rfl kz) ?_
              refine jx_of (fun _ _ kz => jw_iconst 0 d_M_drop_132 (by decide) kz) ?_
              refine jx_of (fun _ _ kz => jw_zast d_M_drop_133 rfl rfl (by rw [show me_L _ 44 0 = 144 from (by simp [me_I_sI, me_I_sP, me_I_nx, me_P_sI, me_P_sP, me_P_nx, me_N_sI, me_N_sP, me_N_nx, me_L_sI, me_L_sP, me_L_nx, show me_L M1 44 0 = 144 from hm1.2 (44, 0, 144) (by decide)])]; exact (vp_in_nI (by omega) (by decide))) (by decide) kz) ?_
              rw [nI_clamp (by omega)]
              refine jx_of (fun _ _ kz => jw_iload d_M_drop_134 rfl kz) ?_
              refine jx_of (fun _ _ kz => jw_iconst 3 d_M_drop_136 (by decide) kz) ?_
              refine jx_icmp_ne 153 d_M_drop_137 (by decide) (fun _ => ?_) (fun h => absurd h (fun q => h3 ((nI_eq (by omega) (by decide)).mp q)))
              refine jx_of (fun _ _ kz => jw_iload d_M_drop_153 rfl kz) ?_
              refine jx_of (fun _ _ kz => jw_iconst 5 d_M_drop_155 (by decide) kz) ?_
              refine jx_icmp_ne 171 d_M_drop_156 (by decide) (fun _ => ?_) (fun h => absurd h (fun q => h5 ((nI_eq (by omega) (by decide)).mp q)))
              refine jx_of (fun _ _ kz => jw_iincc 1 d_M_drop_171 (by decide) rfl (Nat.le_of_ble_eq_true rfl) kz) ?_
              dsimp only [List.set]
              refine jx_of (fun _ _ kz => jw_goto 10 d_M_drop_174 (by decide) kz) ?_
              rw [nI_1]
              first | exact ih (k + 1) _ _ _ _ _ _ _ (by omega) (iv_tr (iv_sI (iv_sI (iv_sI h1 (by unfold hl; omega)) (by unfold hl; omega)) (by unfold hl; omega)) h3) | exact ih (k + 1) _ _ _ _ _ _ _ (by omega) (iv_sI (iv_sI (iv_sI h1 (by unfold hl; omega)) (by unfold hl; omega)) (by unfold hl; omega)) | exact ih (k + 1) _ _ _ _ _ _ _ (by omega) h1
        · skip
          refine jx_of (fun _ _ kz => jw_goto 171 d_M_drop_56 (by decide) kz) ?_
          refine jx_of (fun _ _ kz => jw_iincc 1 d_M_drop_171 (by decide) rfl (Nat.le_of_ble_eq_true rfl) kz) ?_
          dsimp only [List.set]
          refine jx_of (fun _ _ kz => jw_goto 10 d_M_drop_174 (by decide) kz) ?_
          rw [nI_1]
          first | exact ih (k + 1) _ _ _ _ _ _ _ (by omega) (iv_tr (iv_sI (iv_sI (iv_sI h1 (by unfold hl; omega)) (by unfold hl; omega)) (by unfold hl; omega)) h3) | exact ih (k + 1) _ _ _ _ _ _ _ (by omega) (iv_sI (iv_sI (iv_sI h1 (by unfold hl; omega)) (by unfold hl; omega)) (by unfold hl; omega)) | exact ih (k + 1) _ _ _ _ _ _ _ (by omega) h1
set_option maxRecDepth 20000 in
set_option maxHeartbeats 4000000 in
theorem z_M_drop {G : Gt} {M : Me} (d : Nat) (t : Nat) (n : Nat) (p : Nat) (len : Nat) (o : Nat → Nat) (np : Nat) (nt : Nat) (X : List Nat) (hI : mI M np nt X) (ht : t < nt) (hp : tP M t p len o) (hn : n < len) : sx G yt_M_drop yn_M_drop (d + 6) [.inr (some (7, 0)), .inl (nI t), .inl (nI n)] M (fun r M' => r = none ∧ iv np nt nt X M M') := by
  refine sx_of (k := 8) (lc := [some (.inr (some (7, 0))), some (.inl (nI t)), some (.inl (nI n)), none, none, none, none, none, none, none, none]) mt_M_drop (Nat.le_of_ble_eq_true rfl) rfl ?_
  refine jx_of (fun _ _ kz => jw_aload_n 0 d_M_drop_0 rfl rfl kz) ?_
  refine jx_of (fun _ _ kz => jw_iload_n 1 d_M_drop_1 rfl rfl kz) ?_
  refine jx_of (fun _ _ kz => jw_iload_n 2 d_M_drop_2 rfl rfl kz) ?_
  refine jx_callV (z_M_end (d + 2) t n p len o hI.1  (by have := hI.2.2.1.2.1; omega) hp.1 hp.2.1 hp.2.2 hn) mt_M_end cf_M rfl rfl ml_M_141 im_M_end se_M_end d_M_drop_3 rfl rfl (Nat.le_of_ble_eq_true rfl) ?_
  rintro _ _ ⟨⟨e, he1, he2, he3, rfl⟩, rfl⟩
  refine jx_eq (st2 := [.inl (nI e)]) rfl rfl rfl ?_
  refine jx_of (fun _ _ kz => jw_istore_n 3 d_M_drop_6 rfl (Nat.le_of_ble_eq_true rfl) kz) ?_
  dsimp only [List.set]
  refine jx_of (fun _ _ kz => jw_iload_n 2 d_M_drop_7 rfl rfl kz) ?_
  refine jx_of (fun _ _ kz => jw_istore d_M_drop_8 (Nat.le_of_ble_eq_true rfl) kz) ?_
  dsimp only [List.set]
  exact z_M_drop_loop d t n p len e np nt o X hI ht hp he2 _ _ (e - n) n M none none none none none none (by omega) (iv_rf hI)
