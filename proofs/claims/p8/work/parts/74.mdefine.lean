theorem qX_o {M M' : Me} {nt : Nat} {inj : List Nat} {rg : Nat → List Nat} {sl : Nat → Option Nat} {X : List Nat} (h : qX M nt inj rg sl X) (o : ∀ s' j, s' = 33 ∨ s' = 38 ∨ s' = 48 ∨ s' = 51 ∨ s' = 52 ∨ s' = 53 ∨ (s' = 7 ∧ j = 28) → me_I M' s' 0 j = me_I M s' 0 j) : qX M' nt inj rg sl X := by
  obtain ⟨⟨a1, a2⟩, b, c, e, ⟨f1, f2, f3, f0⟩, g⟩ := h
  refine ⟨⟨by rw [o 7 28 (by omega)]; exact a1, fun k x hk => by rw [o 53 k (by omega)]; exact a2 k x hk⟩, fun w hw => ?_, fun w hw => by rw [o 48 w (by omega)]; exact c w hw, e, ⟨fun x hx => by rw [o 38 x (by omega)]; exact f1 x hx, fun w hw x hx => by rw [o 38 x (by omega)]; exact f2 w hw x hx, fun w hw x hx => by rw [o 38 x (by omega)]; exact f3 w hw x hx, fun x hx h9 => by rw [o 38 x (by omega)]; exact f0 x hx h9⟩, fun x hx h9 => g x hx (by rw [o 33 x (by omega)] at h9; exact h9)⟩
  obtain ⟨b1, b2, b3⟩ := b w hw
  exact ⟨by rw [o 52 w (by omega)]; exact b1, b2, fun k x hk => by rw [o 51 _ (by omega)]; exact b3 k x hk⟩
/-- the draft: dl tokens, their ops o -/
def mD (M : Me) (dl : Nat) (o : Nat → Nat) : Prop := me_I M 32 0 6 = nI dl ∧ dl ≤ 12 ∧ ∀ k, k < dl → o k < 16 ∧ me_I M 30 0 (72 + k) = nI (o k) ∧ tkv (nI (o k)) (me_I M 31 0 (72 + k)) = 1
def cp (np k : Nat) (M M1 : Me) : Prop := sq M M1 ∧ ∀ s i j, me_I M1 s i j = if (s = 30 ∨ s = 31) ∧ i = 0 ∧ 12 * np ≤ j ∧ j < 12 * np + k then me_I M s 0 (72 + (j - 12 * np)) else me_I M s i j
theorem cp_o {np k : Nat} {M M1 : Me} (h : cp np k M M1) {s j : Nat} (hs : (s ≠ 30 ∧ s ≠ 31) ∨ j < 12 * np ∨ 12 * np + k ≤ j) : me_I M1 s 0 j = me_I M s 0 j := by
  rw [h.2 s 0 j, if_neg (by omega)]
theorem cp_st {np k : Nat} {M M1 : Me} (h : cp np k M M1) (hk : k < 12) (hp : np < 6) : cp np (k + 1) M (me_sI (me_sI M1 30 0 (12 * np + k) (me_I M 30 0 (72 + k))) 31 0 (12 * np + k) (me_I M 31 0 (72 + k))) := by
  refine ⟨sq_sI (sq_sI h.1), fun s i j => ?_⟩
  rw [me_I_sI, me_I_sI, h.2 s i j]
  by_cases a : s = 31 ∧ i = 0 ∧ j = 12 * np + k
  · obtain ⟨rfl, rfl, rfl⟩ := a
    rw [if_pos ⟨rfl, rfl, rfl⟩, if_pos (by omega), show 12 * np + k - 12 * np = k by omega]
  · rw [if_neg a]
    by_cases b : s = 30 ∧ i = 0 ∧ j = 12 * np + k
    · obtain ⟨rfl, rfl, rfl⟩ := b
      rw [if_pos ⟨rfl, rfl, rfl⟩, if_pos (by omega), show 12 * np + k - 12 * np = k by omega]
    · rw [if_neg b]
      by_cases c : (s = 30 ∨ s = 31) ∧ i = 0 ∧ 12 * np ≤ j ∧ j < 12 * np + k
      · rw [if_pos c, if_pos (by omega)]
      · rw [if_neg c, if_neg (by omega)]
theorem mJ_def {M M1 : Me} {np nt dl : Nat} {o : Nat → Nat} (h : mJ M np nt) (hp : np < 6) (hD : mD M dl o) (hv : vld o dl) (hc : cp np 12 M M1) : mJ (me_sI (me_sI (me_sI M1 32 0 np (nI dl)) 32 0 6 0) 7 0 3 (nI (np + 1))) (np + 1) nt ∧ me_I (me_sI (me_sI (me_sI M1 32 0 np (nI dl)) 32 0 6 0) 7 0 3 (nI (np + 1))) 7 0 29 = me_I M 7 0 29 := by
  have x : ∀ s j, s ≠ 30 → s ≠ 31 → s ≠ 32 → (s ≠ 7 ∨ j ≠ 3) → me_I (me_sI (me_sI (me_sI M1 32 0 np (nI dl)) 32 0 6 0) 7 0 3 (nI (np + 1))) s 0 j = me_I M s 0 j := fun s j a b c e => by
    rw [mx_ne (by omega), mx_ne (by omega), mx_ne (by omega)]; exact cp_o hc (by omega)
  have y : ∀ s j, s = 30 ∨ s = 31 → me_I (me_sI (me_sI (me_sI M1 32 0 np (nI dl)) 32 0 6 0) 7 0 3 (nI (np + 1))) s 0 j = me_I M1 s 0 j := fun s j a => by
    rw [mx_ne (by omega), mx_ne (by omega), mx_ne (by omega)]
  have hdl : 1 ≤ dl := by
    rcases Nat.eq_zero_or_pos dl with q | q
    · have := hv.2; rw [q] at this; change (1 : Int) = 0 at this; omega
    · exact q
  obtain ⟨⟨h1, h2, h3, h4, h5⟩, h6, h7⟩ := h
  refine ⟨⟨⟨mSh_mc h1 (sq_sI (sq_sI (sq_sI hc.1))), ⟨by simp [me_I_sI], by omega, fun p hp9 => ?_⟩, ⟨by rw [x 7 27 (by omega) (by omega) (by omega) (by omega)]; exact h3.1, h3.2.1, fun t ht => ?_⟩, ?_, ?_⟩, by rw [x 7 35 (by omega) (by omega) (by omega) (by omega)]; exact h6, by rw [x 7 32 (by omega) (by omega) (by omega) (by omega)]; exact h7⟩, x 7 29 (by omega) (by omega) (by omega) (by omega)⟩
  · rcases Nat.lt_or_ge p np with q | q
    · obtain ⟨len, o2, a, b, c, e⟩ := h2.2.2 p q
      refine ⟨len, o2, a, ?_, fun k hk => ?_, e⟩
      · rw [mx_ne (by omega), mx_ne (by omega), mx_ne (by omega), cp_o hc (by omega)]; exact b
      · rw [y 30 _ (by omega), y 31 _ (by omega), cp_o hc (by omega), cp_o hc (by omega)]; exact c k hk
    · have e : p = np := by omega
      subst e
      refine ⟨dl, o, ⟨hdl, hD.2.1⟩, ?_, fun k hk => ?_, hv⟩
      · rw [mx_ne (by omega), mx_ne (by omega), me_I_sI, if_pos ⟨rfl, rfl, rfl⟩]
      · have hd2 := hD.2.1
        rw [y 30 _ (by omega), y 31 _ (by omega), hc.2, hc.2, if_pos (by omega), if_pos (by omega), show 12 * p + k - 12 * p = k by omega]
        exact hD.2.2 k hk
  · obtain ⟨p, a, b⟩ := h3.2.2 t ht
    exact ⟨p, by omega, by rw [x 36 t (by omega) (by omega) (by omega) (by omega)]; exact b⟩
  · obtain ⟨a, b, c, q⟩ := h4
    exact ⟨a, b, c, qX_o q (fun s j g => x s j (by omega) (by omega) (by omega) (by omega))⟩
  · unfold wV; rw [x 7 35 (by omega) (by omega) (by omega) (by omega)]; exact h5
set_option maxRecDepth 20000 in
set_option maxHeartbeats 4000000 in
theorem df_cp {G : Gt} {M : Me} (d np nt dl : Nat) (o : Nat → Nat) (v : Int32) (hJ : mJ M np nt) (hp : np < 6) (hD : mD M dl o) (hv : vld o dl) (c0 s0 : Nat) : ∀ (m k : Nat) (M1 : Me), k + m = 12 → cp np k M M1 → jx G yt_M_define (d + 4) c0 s0 M1 64 [some (.inr (some (7, 0))), some (.inl v), some (.inl (nI k))] [] (fun r M' => (¬ vld o dl ∧ r = some (.inl (-1)) ∧ M = M') ∨ (vld o dl ∧ np = 6 ∧ r = some (.inl (-2)) ∧ M = M') ∨ (vld o dl ∧ np < 6 ∧ r = some (.inl (nI np)) ∧ mJ M' (np + 1) nt ∧ me_I M' 32 0 6 = 0 ∧ me_I M' 7 0 29 = me_I M 7 0 29 ∧ sq M M' ∧ ∀ s j k, (s < 7 ∨ (8 ≤ s ∧ s < 30)) → me_I M' s j k = me_I M s j k)) := by
  intro m
  induction m with
  | zero =>
    intro k M1 hk hc
    have hm1 := mSh_mc hJ.1.1 hc.1
    have e3 : me_I M1 7 0 3 = nI np := by rw [cp_o hc (by omega)]; exact hJ.1.2.1.1
    have e6 : me_I M1 32 0 6 = nI dl := by rw [cp_o hc (by omega)]; exact hD.1
    rw [show k = 12 by omega] at hc
    refine jx_of (fun _ _ kz => jw_iload_n 2 d_M_define_64 rfl rfl kz) ?_
    refine jx_of (fun _ _ kz => jw_bipush 12 d_M_define_65 (by decide) kz) ?_
    refine jx_icmp_ge 122 d_M_define_67 (by decide) (fun _ => ?_) (fun h => absurd (by rw [show k = 12 by omega]; decide) h)
    refine jx_of (fun _ _ kz => jw_aload_n 0 d_M_define_122 rfl rfl kz) ?_
    refine jx_of (fun _ _ kz => jw_getPe (some (32, 0)) fl_M_16 d_M_define_123 rfl rfl (by simp [me_I_sI, me_I_sP, me_I_nx, me_P_sI, me_P_sP, me_P_nx, me_N_sI, me_N_sP, me_N_nx, me_L_sI, me_L_sP, me_L_nx, show me_P M1 7 0 2 = some (32, 0) from hm1.1 (7, 0, 2, 32, 0) (by decide)]) kz) ?_
    refine jx_of (fun _ _ kz => jw_aload_n 0 d_M_define_126 rfl rfl kz) ?_
    refine jx_of (fun _ _ kz => jw_getIe (nI np) fl_M_105 d_M_define_127 rfl rfl e3 kz) ?_
    refine jx_of (fun _ _ kz => jw_aload_n 0 d_M_define_130 rfl rfl kz) ?_
    refine jx_of (fun _ _ kz => jw_getPe (some (32, 0)) fl_M_16 d_M_define_131 rfl rfl (by simp [me_I_sI, me_I_sP, me_I_nx, me_P_sI, me_P_sP, me_P_nx, me_N_sI, me_N_sP, me_N_nx, me_L_sI, me_L_sP, me_L_nx, show me_P M1 7 0 2 = some (32, 0) from hm1.1 (7, 0, 2, 32, 0) (by decide)]) kz) ?_
    refine jx_of (fun _ _ kz => jw_bipush 6 d_M_define_134 (by decide) kz) ?_
    refine jx_of (fun _ _ kz => jw_ialde (nI dl) d_M_define_136 rfl rfl (by rw [show me_L _ 32 0 = 7 from (by simp [me_I_sI, me_I_sP, me_I_nx, me_P_sI, me_P_sP, me_P_nx, me_N_sI, me_N_sP, me_N_nx, me_L_sI, me_L_sP, me_L_nx, show me_L M1 32 0 = 7 from hm1.2 (32, 0, 7) (by decide)])]; unfold vp_in; decide) (by rw [show Int32.toNatClampNeg 6 = 6 from by decide]; first | exact e6 | (rw [mx_ne (by omega)]; exact e6)) kz) ?_
    refine jx_of (fun _ _ kz => jw_iast d_M_define_137 rfl rfl (by rw [show me_L _ 32 0 = 7 from (by simp [me_I_sI, me_I_sP, me_I_nx, me_P_sI, me_P_sP, me_P_nx, me_N_sI, me_N_sP, me_N_nx, me_L_sI, me_L_sP, me_L_nx, show me_L M1 32 0 = 7 from hm1.2 (32, 0, 7) (by decide)])]; exact (vp_in_nI (by omega) (by decide))) kz) ?_
    rw [nI_clamp (by omega)]
    refine jx_of (fun _ _ kz => jw_aload_n 0 d_M_define_138 rfl rfl kz) ?_
    refine jx_of (fun _ _ kz => jw_getPe (some (32, 0)) fl_M_16 d_M_define_139 rfl rfl (by simp [me_I_sI, me_I_sP, me_I_nx, me_P_sI, me_P_sP, me_P_nx, me_N_sI, me_N_sP, me_N_nx, me_L_sI, me_L_sP, me_L_nx, show me_P M1 7 0 2 = some (32, 0) from hm1.1 (7, 0, 2, 32, 0) (by decide)]) kz) ?_
    refine jx_of (fun _ _ kz => jw_bipush 6 d_M_define_142 (by decide) kz) ?_
    refine jx_of (fun _ _ kz => jw_iconst 0 d_M_define_144 (by decide) kz) ?_
    refine jx_of (fun _ _ kz => jw_iast d_M_define_145 rfl rfl (by rw [show me_L _ 32 0 = 7 from (by simp [me_I_sI, me_I_sP, me_I_nx, me_P_sI, me_P_sP, me_P_nx, me_N_sI, me_N_sP, me_N_nx, me_L_sI, me_L_sP, me_L_nx, show me_L M1 32 0 = 7 from hm1.2 (32, 0, 7) (by decide)])]; unfold vp_in; decide) kz) ?_
    rw [show Int32.toNatClampNeg 6 = 6 from by decide]
    refine jx_of (fun _ _ kz => jw_aload_n 0 d_M_define_146 rfl rfl kz) ?_
    refine jx_of (fun _ _ kz => jw_dup d_M_define_147 kz) ?_
    refine jx_of (fun _ _ kz => jw_getIe (nI np) fl_M_105 d_M_define_148 rfl rfl (by rw [mx_ne (by omega), mx_ne (by omega)]; exact e3) kz) ?_
    refine jx_of (fun _ _ kz => jw_dup_x1 d_M_define_151 kz) ?_
    refine jx_of (fun _ _ kz => jw_iconst 1 d_M_define_152 (by decide) kz) ?_
    refine jx_of (fun _ _ kz => jw_iadd d_M_define_153 kz) ?_
    rw [show ((nI np) + 1 : Int32) = nI (np + 1) from nI_1 _]
    refine jx_of (fun _ _ kz => jw_putI fl_M_105 (Or.inl rfl) rfl rfl d_M_define_154 rfl rfl kz) ?_
    refine jx_iret d_M_define_157 rfl ?_
    exact Or.inr (Or.inr ⟨hv, hp, rfl, (mJ_def hJ hp hD hv hc).1, by simp [me_I_sI], (mJ_def hJ hp hD hv hc).2, sq_sI (sq_sI (sq_sI hc.1)), fun s j q z => by rw [me_I_sI, if_neg (by omega), me_I_sI, if_neg (by omega), me_I_sI, if_neg (by omega), hc.2, if_neg (by omega)]⟩)
  | succ m ih =>
    intro k M1 hk hc
    have hm1 := mSh_mc hJ.1.1 hc.1
    have e3 : me_I M1 7 0 3 = nI np := by rw [cp_o hc (by omega)]; exact hJ.1.2.1.1
    refine jx_of (fun _ _ kz => jw_iload_n 2 d_M_define_64 rfl rfl kz) ?_
    refine jx_of (fun _ _ kz => jw_bipush 12 d_M_define_65 (by decide) kz) ?_
    refine jx_icmp_ge 122 d_M_define_67 (by decide) (fun h => absurd h (nI_ge (b := 12) (by omega) (by decide))) (fun _ => ?_)
    refine jx_of (fun _ _ kz => jw_aload_n 0 d_M_define_70 rfl rfl kz) ?_
    refine jx_of (fun _ _ kz => jw_getPe (some (30, 0)) fl_M_7 d_M_define_71 rfl rfl (by simp [me_I_sI, me_I_sP, me_I_nx, me_P_sI, me_P_sP, me_P_nx, me_N_sI, me_N_sP, me_N_nx, me_L_sI, me_L_sP, me_L_nx, show me_P M1 7 0 0 = some (30, 0) from hm1.1 (7, 0, 0, 30, 0) (by decide)]) kz) ?_
    refine jx_of (fun _ _ kz => jw_bipush 12 d_M_define_74 (by decide) kz) ?_
    refine jx_of (fun _ _ kz => jw_aload_n 0 d_M_define_76 rfl rfl kz) ?_
    refine jx_of (fun _ _ kz => jw_getIe (nI np) fl_M_105 d_M_define_77 rfl rfl e3 kz) ?_
    refine jx_of (fun _ _ kz => jw_imul d_M_define_80 kz) ?_
    rw [show (12 * (nI np) : Int32) = nI (12 * np) from n12 np]
    refine jx_of (fun _ _ kz => jw_iload_n 2 d_M_define_81 rfl rfl kz) ?_
    refine jx_of (fun _ _ kz => jw_iadd d_M_define_82 kz) ?_
    rw [show ((nI (12 * np)) + (nI k) : Int32) = nI (12 * np + k) from nI_add _ _]
    refine jx_of (fun _ _ kz => jw_aload_n 0 d_M_define_83 rfl rfl kz) ?_
    refine jx_of (fun _ _ kz => jw_getPe (some (30, 0)) fl_M_7 d_M_define_84 rfl rfl (by simp [me_I_sI, me_I_sP, me_I_nx, me_P_sI, me_P_sP, me_P_nx, me_N_sI, me_N_sP, me_N_nx, me_L_sI, me_L_sP, me_L_nx, show me_P M1 7 0 0 = some (30, 0) from hm1.1 (7, 0, 0, 30, 0) (by decide)]) kz) ?_
    refine jx_of (fun _ _ kz => jw_bipush 72 d_M_define_87 (by decide) kz) ?_
    refine jx_of (fun _ _ kz => jw_iload_n 2 d_M_define_89 rfl rfl kz) ?_
    refine jx_of (fun _ _ kz => jw_iadd d_M_define_90 kz) ?_
    rw [show (72 + (nI k) : Int32) = nI (72 + k) from nI_add 72 k]
    refine jx_of (fun _ _ kz => jw_ialde (me_I M 30 0 (72 + k)) d_M_define_91 rfl rfl (by rw [show me_L _ 30 0 = 84 from (by simp [me_I_sI, me_I_sP, me_I_nx, me_P_sI, me_P_sP, me_P_nx, me_N_sI, me_N_sP, me_N_nx, me_L_sI, me_L_sP, me_L_nx, show me_L M1 30 0 = 84 from hm1.2 (30, 0, 84) (by decide)])]; exact (vp_in_nI (by omega) (by decide))) (by rw [nI_clamp (by omega)]; exact cp_o hc (by omega)) kz) ?_
    refine jx_of (fun _ _ kz => jw_iast d_M_define_92 rfl rfl (by rw [show me_L _ 30 0 = 84 from (by simp [me_I_sI, me_I_sP, me_I_nx, me_P_sI, me_P_sP, me_P_nx, me_N_sI, me_N_sP, me_N_nx, me_L_sI, me_L_sP, me_L_nx, show me_L M1 30 0 = 84 from hm1.2 (30, 0, 84) (by decide)])]; exact (vp_in_nI (by omega) (by decide))) kz) ?_
    rw [nI_clamp (by omega)]
    refine jx_of (fun _ _ kz => jw_aload_n 0 d_M_define_93 rfl rfl kz) ?_
    refine jx_of (fun _ _ kz => jw_getPe (some (31, 0)) fl_M_13 d_M_define_94 rfl rfl (by simp [me_I_sI, me_I_sP, me_I_nx, me_P_sI, me_P_sP, me_P_nx, me_N_sI, me_N_sP, me_N_nx, me_L_sI, me_L_sP, me_L_nx, show me_P M1 7 0 1 = some (31, 0) from hm1.1 (7, 0, 1, 31, 0) (by decide)]) kz) ?_
    refine jx_of (fun _ _ kz => jw_bipush 12 d_M_define_97 (by decide) kz) ?_
    refine jx_of (fun _ _ kz => jw_aload_n 0 d_M_define_99 rfl rfl kz) ?_
    refine jx_of (fun _ _ kz => jw_getIe (nI np) fl_M_105 d_M_define_100 rfl rfl (by rw [mx_ne (by omega)]; exact e3) kz) ?_
    refine jx_of (fun _ _ kz => jw_imul d_M_define_103 kz) ?_
    rw [show (12 * (nI np) : Int32) = nI (12 * np) from n12 np]
    refine jx_of (fun _ _ kz => jw_iload_n 2 d_M_define_104 rfl rfl kz) ?_
    refine jx_of (fun _ _ kz => jw_iadd d_M_define_105 kz) ?_
    rw [show ((nI (12 * np)) + (nI k) : Int32) = nI (12 * np + k) from nI_add _ _]
    refine jx_of (fun _ _ kz => jw_aload_n 0 d_M_define_106 rfl rfl kz) ?_
    refine jx_of (fun _ _ kz => jw_getPe (some (31, 0)) fl_M_13 d_M_define_107 rfl rfl (by simp [me_I_sI, me_I_sP, me_I_nx, me_P_sI, me_P_sP, me_P_nx, me_N_sI, me_N_sP, me_N_nx, me_L_sI, me_L_sP, me_L_nx, show me_P M1 7 0 1 = some (31, 0) from hm1.1 (7, 0, 1, 31, 0) (by decide)]) kz) ?_
    refine jx_of (fun _ _ kz => jw_bipush 72 d_M_define_110 (by decide) kz) ?_
    refine jx_of (fun _ _ kz => jw_iload_n 2 d_M_define_112 rfl rfl kz) ?_
    refine jx_of (fun _ _ kz => jw_iadd d_M_define_113 kz) ?_
    rw [show (72 + (nI k) : Int32) = nI (72 + k) from nI_add 72 k]
    refine jx_of (fun _ _ kz => jw_ialde (me_I M 31 0 (72 + k)) d_M_define_114 rfl rfl (by rw [show me_L _ 31 0 = 84 from (by simp [me_I_sI, me_I_sP, me_I_nx, me_P_sI, me_P_sP, me_P_nx, me_N_sI, me_N_sP, me_N_nx, me_L_sI, me_L_sP, me_L_nx, show me_L M1 31 0 = 84 from hm1.2 (31, 0, 84) (by decide)])]; exact (vp_in_nI (by omega) (by decide))) (by rw [nI_clamp (by omega), mx_ne (by omega)]; exact cp_o hc (by omega)) kz) ?_
    refine jx_of (fun _ _ kz => jw_iast d_M_define_115 rfl rfl (by rw [show me_L _ 31 0 = 84 from (by simp [me_I_sI, me_I_sP, me_I_nx, me_P_sI, me_P_sP, me_P_nx, me_N_sI, me_N_sP, me_N_nx, me_L_sI, me_L_sP, me_L_nx, show me_L M1 31 0 = 84 from hm1.2 (31, 0, 84) (by decide)])]; exact (vp_in_nI (by omega) (by decide))) kz) ?_
    rw [nI_clamp (by omega)]
    refine jx_of (fun _ _ kz => jw_iincc 1 d_M_define_116 (by decide) rfl (Nat.le_of_ble_eq_true rfl) kz) ?_
    dsimp only [List.set]
    refine jx_of (fun _ _ kz => jw_goto 64 d_M_define_119 (by decide) kz) ?_
    rw [nI_1]
    exact ih (k + 1) _ (by omega) (cp_st hc (by omega) hp)
set_option maxRecDepth 20000 in
set_option maxHeartbeats 4000000 in
theorem df_50 {G : Gt} {M : Me} (d np nt dl : Nat) (o : Nat → Nat) (v : Int32) (o2 : Option AV) (hJ : mJ M np nt) (hD : mD M dl o) (hv : vld o dl) (c0 s0 : Nat) : jx G yt_M_define (d + 4) c0 s0 M 50 [some (.inr (some (7, 0))), some (.inl v), o2] [] (fun r M' => (¬ vld o dl ∧ r = some (.inl (-1)) ∧ M = M') ∨ (vld o dl ∧ np = 6 ∧ r = some (.inl (-2)) ∧ M = M') ∨ (vld o dl ∧ np < 6 ∧ r = some (.inl (nI np)) ∧ mJ M' (np + 1) nt ∧ me_I M' 32 0 6 = 0 ∧ me_I M' 7 0 29 = me_I M 7 0 29 ∧ sq M M' ∧ ∀ s j k, (s < 7 ∨ (8 ≤ s ∧ s < 30)) → me_I M' s j k = me_I M s j k)) := by
  refine jx_of (fun _ _ kz => jw_aload_n 0 d_M_define_50 rfl rfl kz) ?_
  refine jx_of (fun _ _ kz => jw_getIe (nI np) fl_M_105 d_M_define_51 rfl rfl hJ.1.2.1.1 kz) ?_
  refine jx_of (fun _ _ kz => jw_bipush 6 d_M_define_54 (by decide) kz) ?_
  refine jx_icmp_ne 62 d_M_define_56 (by decide) (fun b_56 => ?_) (fun b_56 => ?_)
  · skip
    refine jx_of (fun _ _ kz => jw_iconst 0 d_M_define_62 (by decide) kz) ?_
    refine jx_of (fun _ _ kz => jw_istore_n 2 d_M_define_63 rfl (Nat.le_of_ble_eq_true rfl) kz) ?_
    dsimp only [List.set]
    exact df_cp d np nt dl o v hJ (by have := hJ.1.2.1.2.1; rcases Nat.lt_or_ge np 6 with q | q; exact q; exact absurd (by rw [show np = 6 by omega]; rfl) b_56) hD hv _ _ 12 0 M (by omega) ⟨sq_rf, fun s i j => by rw [if_neg (by omega)]⟩
  · skip
    refine jx_of (fun _ _ kz => jw_bipush (-2) d_M_define_59 (by decide) kz) ?_
    refine jx_iret d_M_define_61 rfl ?_
    exact Or.inr (Or.inl ⟨hv, (nI_eq (b := 6) (by have := hJ.1.2.1.2.1; omega) (by decide)).mp b_56, rfl, rfl⟩)
set_option maxRecDepth 20000 in
set_option maxHeartbeats 4000000 in
theorem df_1 {G : Gt} {M : Me} (d np nt dl : Nat) (o : Nat → Nat) (hJ : mJ M np nt) (hD : mD M dl o) (c0 s0 : Nat) : ∀ (m k e : Nat), k + m = dl → (e : Int) = due o k → (∀ j, j < k → 1 ≤ due o j) → jx G yt_M_define (d + 4) c0 s0 M 4 [some (.inr (some (7, 0))), some (.inl (nI e)), some (.inl (nI k))] [] (fun r M' => (¬ vld o dl ∧ r = some (.inl (-1)) ∧ M = M') ∨ (vld o dl ∧ np = 6 ∧ r = some (.inl (-2)) ∧ M = M') ∨ (vld o dl ∧ np < 6 ∧ r = some (.inl (nI np)) ∧ mJ M' (np + 1) nt ∧ me_I M' 32 0 6 = 0 ∧ me_I M' 7 0 29 = me_I M 7 0 29 ∧ sq M M' ∧ ∀ s j k, (s < 7 ∨ (8 ≤ s ∧ s < 30)) → me_I M' s j k = me_I M s j k)) := by
  have hd2 := hD.2.1
  intro m
  induction m with
  | zero =>
    intro k e hk he hge
    have hdu := due_le o k (by omega)
    refine jx_of (fun _ _ kz => jw_iload_n 2 d_M_define_4 rfl rfl kz) ?_
    refine jx_of (fun _ _ kz => jw_aload_n 0 d_M_define_5 rfl rfl kz) ?_
    refine jx_of (fun _ _ kz => jw_getPe (some (32, 0)) fl_M_16 d_M_define_6 rfl rfl (by simp [me_I_sI, me_I_sP, me_I_nx, me_P_sI, me_P_sP, me_P_nx, me_N_sI, me_N_sP, me_N_nx, me_L_sI, me_L_sP, me_L_nx, show me_P M 7 0 2 = some (32, 0) from hJ.1.1.1 (7, 0, 2, 32, 0) (by decide)]) kz) ?_
    refine jx_of (fun _ _ kz => jw_bipush 6 d_M_define_9 (by decide) kz) ?_
    refine jx_of (fun _ _ kz => jw_ialde (nI dl) d_M_define_11 rfl rfl (by rw [show me_L _ 32 0 = 7 from (by simp [me_I_sI, me_I_sP, me_I_nx, me_P_sI, me_P_sP, me_P_nx, me_N_sI, me_N_sP, me_N_nx, me_L_sI, me_L_sP, me_L_nx, show me_L M 32 0 = 7 from hJ.1.1.2 (32, 0, 7) (by decide)])]; unfold vp_in; decide) (by rw [show Int32.toNatClampNeg 6 = 6 from by decide]; exact hD.1) kz) ?_
    refine jx_icmp_ge 44 d_M_define_12 (by decide) (fun _ => ?_) (fun h => absurd (nI_le (by omega) (by omega)) h)
    refine jx_of (fun _ _ kz => jw_iload_n 1 d_M_define_44 rfl rfl kz) ?_
    refine jx_if_le 50 d_M_define_45 (by decide) (fun b_45 => ?_) (fun b_45 => ?_)
    · skip
      exact df_50 d np nt dl o _ _ hJ hD ⟨fun j hj => hge j (by omega), by rw [show dl = k by omega]; rcases Nat.eq_zero_or_pos e with q | q; omega; exact absurd b_45 (nI_nle q (by omega))⟩ _ _
    · skip
      refine jx_of (fun _ _ kz => jw_iconst (-1) d_M_define_48 (by decide) kz) ?_
      refine jx_iret d_M_define_49 rfl ?_
      exact Or.inl ⟨fun q => b_45 (by have := q.2; rw [show e = 0 by rw [show k = dl by omega] at he; omega]; decide), rfl, rfl⟩
  | succ m ih =>
    intro k e hk he hge
    have hdu := due_le o k (by omega)
    refine jx_of (fun _ _ kz => jw_iload_n 2 d_M_define_4 rfl rfl kz) ?_
    refine jx_of (fun _ _ kz => jw_aload_n 0 d_M_define_5 rfl rfl kz) ?_
    refine jx_of (fun _ _ kz => jw_getPe (some (32, 0)) fl_M_16 d_M_define_6 rfl rfl (by simp [me_I_sI, me_I_sP, me_I_nx, me_P_sI, me_P_sP, me_P_nx, me_N_sI, me_N_sP, me_N_nx, me_L_sI, me_L_sP, me_L_nx, show me_P M 7 0 2 = some (32, 0) from hJ.1.1.1 (7, 0, 2, 32, 0) (by decide)]) kz) ?_
    refine jx_of (fun _ _ kz => jw_bipush 6 d_M_define_9 (by decide) kz) ?_
    refine jx_of (fun _ _ kz => jw_ialde (nI dl) d_M_define_11 rfl rfl (by rw [show me_L _ 32 0 = 7 from (by simp [me_I_sI, me_I_sP, me_I_nx, me_P_sI, me_P_sP, me_P_nx, me_N_sI, me_N_sP, me_N_nx, me_L_sI, me_L_sP, me_L_nx, show me_L M 32 0 = 7 from hJ.1.1.2 (32, 0, 7) (by decide)])]; unfold vp_in; decide) (by rw [show Int32.toNatClampNeg 6 = 6 from by decide]; exact hD.1) kz) ?_
    refine jx_icmp_ge 44 d_M_define_12 (by decide) (fun h => absurd h (nI_ge (by omega) (by omega))) (fun _ => ?_)
    refine jx_of (fun _ _ kz => jw_iload_n 1 d_M_define_15 rfl rfl kz) ?_
    refine jx_if_ne 21 d_M_define_16 (by decide) (fun b_16 => ?_) (fun b_16 => ?_)
    · skip
      have he1 : 1 ≤ e := by rcases Nat.eq_zero_or_pos e with q | q; exact absurd (by rw [q]; rfl) b_16; exact q
      refine jx_of (fun _ _ kz => jw_iload_n 1 d_M_define_21 rfl rfl kz) ?_
      refine jx_of (fun _ _ kz => jw_aload_n 0 d_M_define_22 rfl rfl kz) ?_
      refine jx_of (fun _ _ kz => jw_getPe (some (30, 0)) fl_M_7 d_M_define_23 rfl rfl (by simp [me_I_sI, me_I_sP, me_I_nx, me_P_sI, me_P_sP, me_P_nx, me_N_sI, me_N_sP, me_N_nx, me_L_sI, me_L_sP, me_L_nx, show me_P M 7 0 0 = some (30, 0) from hJ.1.1.1 (7, 0, 0, 30, 0) (by decide)]) kz) ?_
      refine jx_of (fun _ _ kz => jw_bipush 72 d_M_define_26 (by decide) kz) ?_
      refine jx_of (fun _ _ kz => jw_iload_n 2 d_M_define_28 rfl rfl kz) ?_
      refine jx_of (fun _ _ kz => jw_iadd d_M_define_29 kz) ?_
      rw [show (72 + (nI k) : Int32) = nI (72 + k) from nI_add 72 k]
      refine jx_of (fun _ _ kz => jw_ialde (nI (o k)) d_M_define_30 rfl rfl (by rw [show me_L _ 30 0 = 84 from (by simp [me_I_sI, me_I_sP, me_I_nx, me_P_sI, me_P_sP, me_P_nx, me_N_sI, me_N_sP, me_N_nx, me_L_sI, me_L_sP, me_L_nx, show me_L M 30 0 = 84 from hJ.1.1.2 (30, 0, 84) (by decide)])]; exact (vp_in_nI (by omega) (by decide))) (by rw [nI_clamp (by omega)]; exact (hD.2.2 k (by omega)).2.1) kz) ?_
      refine jx_callS (z_M_parts (d + 1) ((o k))  (hD.2.2 k (by omega)).1) mt_M_parts ml_M_101 sm_M_parts d_M_define_31 rfl rfl (Nat.le_of_ble_eq_true rfl) ?_
      rintro _ _ ⟨rfl, rfl⟩
      refine jx_eq (st2 := [.inl (nI (pN (o k))), .inl (nI e)]) rfl rfl rfl ?_
      refine jx_of (fun _ _ kz => jw_iconst 1 d_M_define_34 (by decide) kz) ?_
      refine jx_of (fun _ _ kz => jw_isub d_M_define_35 kz) ?_
      refine jx_of (fun _ _ kz => jw_iadd d_M_define_36 kz) ?_
      rw [show ((nI e) + ((nI (pN (o k))) - 1) : Int32) = nI (e + pN (o k) - 1) from nI_pm (by rcases Nat.eq_zero_or_pos e with q | q; exact absurd (by rw [q]; rfl) b_16; exact q)]
      refine jx_of (fun _ _ kz => jw_istore_n 1 d_M_define_37 rfl (Nat.le_of_ble_eq_true rfl) kz) ?_
      dsimp only [List.set]
      refine jx_of (fun _ _ kz => jw_iincc 1 d_M_define_38 (by decide) rfl (Nat.le_of_ble_eq_true rfl) kz) ?_
      dsimp only [List.set]
      refine jx_of (fun _ _ kz => jw_goto 4 d_M_define_41 (by decide) kz) ?_
      rw [nI_1]
      exact ih (k + 1) (e + pN (o k) - 1) (by omega) (by rw [due_s]; omega) (fun j hj => by rcases Nat.lt_or_ge j k with q | q; exact hge j q; rw [show j = k by omega]; omega)
    · skip
      refine jx_of (fun _ _ kz => jw_iconst (-1) d_M_define_19 (by decide) kz) ?_
      refine jx_iret d_M_define_20 rfl ?_
      exact Or.inl ⟨fun q => by have h1 := q.1 k (by omega); have h2 : e = 0 := (nI_eq (b := 0) (by omega) (by decide)).mp b_16; omega, rfl, rfl⟩
set_option maxRecDepth 20000 in
set_option maxHeartbeats 4000000 in
theorem z_M_define {G : Gt} {M : Me} (d : Nat) (np : Nat) (nt : Nat) (dl : Nat) (o : Nat → Nat) (hJ : mJ M np nt) (hD : mD M dl o) : sx G yt_M_define yn_M_define (d + 4) [.inr (some (7, 0))] M (fun r M' => (¬ vld o dl ∧ r = some (.inl (-1)) ∧ M = M') ∨ (vld o dl ∧ np = 6 ∧ r = some (.inl (-2)) ∧ M = M') ∨ (vld o dl ∧ np < 6 ∧ r = some (.inl (nI np)) ∧ mJ M' (np + 1) nt ∧ me_I M' 32 0 6 = 0 ∧ me_I M' 7 0 29 = me_I M 7 0 29 ∧ sq M M' ∧ ∀ s j k, (s < 7 ∨ (8 ≤ s ∧ s < 30)) → me_I M' s j k = me_I M s j k)) := by
  refine sx_of (k := 2) (lc := [some (.inr (some (7, 0))), none, none]) mt_M_define (Nat.le_of_ble_eq_true rfl) rfl ?_
  refine jx_of (fun _ _ kz => jw_iconst 1 d_M_define_0 (by decide) kz) ?_
  refine jx_of (fun _ _ kz => jw_istore_n 1 d_M_define_1 rfl (Nat.le_of_ble_eq_true rfl) kz) ?_
  dsimp only [List.set]
  refine jx_of (fun _ _ kz => jw_iconst 0 d_M_define_2 (by decide) kz) ?_
  refine jx_of (fun _ _ kz => jw_istore_n 2 d_M_define_3 rfl (Nat.le_of_ble_eq_true rfl) kz) ?_
  dsimp only [List.set]
  exact df_1 d np nt dl o hJ hD _ _ dl 0 1 (by omega) rfl (fun j hj => by omega)
