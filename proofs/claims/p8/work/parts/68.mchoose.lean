theorem chR {M M' : Me} {np nt t : Nat} (h : mI M np nt []) (hf : fw nt M M') (e : me_I M' 7 0 27 = me_I M 7 0 27) (q : mQ M' nt [t]) : ∃ rv : Int32, (some (.inl (nI t)) : Option AV) = some (.inl rv) ∧ fw nt M M' ∧ ((rv = -2 ∧ mI M' np nt []) ∨ ∃ t, t < nt ∧ rv = nI t ∧ mI M' np nt [t]) := by
  refine ⟨nI t, rfl, hf, Or.inr ⟨t, ?_, rfl, mI_q h hf e q⟩⟩
  obtain ⟨a, b, c, q⟩ := q
  exact (qX_out q).2
theorem mc27 {M M1 M2 : Me} (e : me_I M1 7 0 27 = me_I M 7 0 27) (c : mc M1 M2) : me_I M2 7 0 27 = me_I M 7 0 27 := (c.2 7 0 27 (by unfold kp; omega)).trans e
theorem pos_cons {l : List Nat} (h : ¬ nI l.length ≤ 0) : ∃ a l', l = a :: l' := by
  match l with
  | [] => exact absurd (by decide) h
  | a :: l' => exact ⟨a, l', rfl⟩
theorem slv_pos {o : Option Nat} (h : ¬ slv o < 0) : ∃ t, o = some t := by
  match o with
  | none => exact absurd (by decide) h
  | some t => exact ⟨t, rfl⟩
set_option maxRecDepth 20000 in
set_option maxHeartbeats 4000000 in
theorem ch_134 {G : Gt} {M M1 : Me} (d w np nt : Nat) (inj : List Nat) (rg : Nat → List Nat) (sl : Nat → Option Nat) (row : Int32) (hI : mI M np nt []) (hw : w < 3) (hf : fw nt M M1) (e27 : me_I M1 7 0 27 = me_I M 7 0 27) (hm1 : mSh M1) (hq : qX M1 nt inj rg sl []) (c0 s0 : Nat) : ∀ (m k : Nat) (o3 o5 o6 o7 o8 o9 : Option AV), k + m = 3 → 1 ≤ k → jx G yt_M_choose (d + 4) c0 s0 M1 134 [some (.inr (some (7, 0))), some (.inl (nI w)), some (.inl row), o3, some (.inl (nI k)), o5, o6, o7, o8, o9] [] (fun r M' => ∃ rv : Int32, r = some (.inl rv) ∧ fw nt M M' ∧ ((rv = -2 ∧ mI M' np nt []) ∨ ∃ t, t < nt ∧ rv = nI t ∧ mI M' np nt [t])) := by
  intro m
  induction m with
  | zero =>
    intro k o3 o5 o6 o7 o8 o9 hk hk1
    refine jx_of (fun _ _ kz => jw_iload d_M_choose_134 rfl kz) ?_
    refine jx_of (fun _ _ kz => jw_iconst 3 d_M_choose_136 (by decide) kz) ?_
    refine jx_icmp_ge 227 d_M_choose_137 (by decide) (fun _ => ?_) (fun h => absurd (by rw [show k = 3 by omega]; decide) h)
    refine jx_of (fun _ _ kz => jw_bipush (-2) d_M_choose_227 (by decide) kz) ?_
    refine jx_iret d_M_choose_229 rfl ?_
    exact ⟨_, rfl, hf, Or.inl ⟨rfl, mI_q hI hf e27 ⟨_, _, _, hq⟩⟩⟩
  | succ m ih =>
    intro k o3 o5 o6 o7 o8 o9 hk hk1
    obtain ⟨v, hv0⟩ : ∃ v, v = (w + k) % 3 := ⟨_, rfl⟩
    have hv : v < 3 := by omega
    have hl4 := (hq.2.1 v hv).2.1
    rcases (show ((rg v).length + 1) / 2 = 0 ∨ ((rg v).length + 1) / 2 = 1 ∨ ((rg v).length + 1) / 2 = 2 by omega) with hmm | hmm | hmm
    · skip
      refine jx_of (fun _ _ kz => jw_iload d_M_choose_134 rfl kz) ?_
      refine jx_of (fun _ _ kz => jw_iconst 3 d_M_choose_136 (by decide) kz) ?_
      refine jx_icmp_ge 227 d_M_choose_137 (by decide) (fun h => absurd h (by rcases (show k = 1 ∨ k = 2 by omega) with q | q <;> rw [q] <;> decide)) (fun _ => ?_)
      refine jx_of (fun _ _ kz => jw_iload_n 1 d_M_choose_140 rfl rfl kz) ?_
      refine jx_of (fun _ _ kz => jw_iload d_M_choose_141 rfl kz) ?_
      refine jx_of (fun _ _ kz => jw_iadd d_M_choose_143 kz) ?_
      rw [show ((nI w) + (nI k) : Int32) = nI (w + k) from nI_add _ _]
      refine jx_of (fun _ _ kz => jw_iconst 3 d_M_choose_144 (by decide) kz) ?_
      refine jx_of (fun _ _ kz => jw_irem d_M_choose_145 (by decide) kz) ?_
      rw [show ((nI (w + k)) - (nI (w + k)) / 3 * 3 : Int32) = nI v from (by rw [hv0]; exact pk_rem (by omega) (by decide) (by decide))]
      refine jx_of (fun _ _ kz => jw_istore d_M_choose_146 (Nat.le_of_ble_eq_true rfl) kz) ?_
      dsimp only [List.set]
      refine jx_of (fun _ _ kz => jw_aload_n 0 d_M_choose_148 rfl rfl kz) ?_
      refine jx_of (fun _ _ kz => jw_getPe (some (52, 0)) fl_M_77 d_M_choose_149 rfl rfl (by simp [me_I_sI, me_I_sP, me_I_nx, me_P_sI, me_P_sP, me_P_nx, me_N_sI, me_N_sP, me_N_nx, me_L_sI, me_L_sP, me_L_nx, show me_P M1 7 0 23 = some (52, 0) from hm1.1 (7, 0, 23, 52, 0) (by decide)]) kz) ?_
      refine jx_of (fun _ _ kz => jw_iload d_M_choose_152 rfl kz) ?_
      refine jx_of (fun _ _ kz => jw_ialde (nI (rg v).length) d_M_choose_154 rfl rfl (by rw [show me_L _ 52 0 = 3 from (by simp [me_I_sI, me_I_sP, me_I_nx, me_P_sI, me_P_sP, me_P_nx, me_N_sI, me_N_sP, me_N_nx, me_L_sI, me_L_sP, me_L_nx, show me_L M1 52 0 = 3 from hm1.2 (52, 0, 3) (by decide)])]; exact (vp_in_nI hv (by decide))) (by rw [nI_clamp (by omega)]; exact (hq.2.1 v hv).1) kz) ?_
      refine jx_of (fun _ _ kz => jw_iconst 1 d_M_choose_155 (by decide) kz) ?_
      refine jx_of (fun _ _ kz => jw_iadd d_M_choose_156 kz) ?_
      rw [show ((nI (rg v).length) + 1 : Int32) = nI ((rg v).length + 1) from nI_1 _]
      refine jx_of (fun _ _ kz => jw_iconst 2 d_M_choose_157 (by decide) kz) ?_
      refine jx_of (fun _ _ kz => jw_idiv d_M_choose_158 (by decide) kz) ?_
      rw [show ((nI ((rg v).length + 1)) / 2 : Int32) = 0 from ((pk_div (by omega) (by decide) (by decide)).trans (by rw [hmm]; rfl))]
      refine jx_of (fun _ _ kz => jw_istore d_M_choose_159 (Nat.le_of_ble_eq_true rfl) kz) ?_
      dsimp only [List.set]
      refine jx_of (fun _ _ kz => jw_iload d_M_choose_161 rfl kz) ?_
      refine jx_if_ne 169 d_M_choose_163 (by decide) (fun h => absurd h (by decide)) (fun _ => ?_)
      refine jx_of (fun _ _ kz => jw_goto 221 d_M_choose_166 (by decide) kz) ?_
      refine jx_of (fun _ _ kz => jw_iincc 1 d_M_choose_221 (by decide) rfl (Nat.le_of_ble_eq_true rfl) kz) ?_
      dsimp only [List.set]
      refine jx_of (fun _ _ kz => jw_goto 134 d_M_choose_224 (by decide) kz) ?_
      rw [nI_1]
      exact ih (k + 1) _ _ _ _ _ _ (by omega) (by omega)
    · obtain ⟨a, l, hr⟩ : ∃ a l, rg v = a :: l := by
        match h : rg v with
        | [] => rw [h] at hmm; simp at hmm
        | a :: l => exact ⟨a, l, rfl⟩
      refine jx_of (fun _ _ kz => jw_iload d_M_choose_134 rfl kz) ?_
      refine jx_of (fun _ _ kz => jw_iconst 3 d_M_choose_136 (by decide) kz) ?_
      refine jx_icmp_ge 227 d_M_choose_137 (by decide) (fun h => absurd h (by rcases (show k = 1 ∨ k = 2 by omega) with q | q <;> rw [q] <;> decide)) (fun _ => ?_)
      refine jx_of (fun _ _ kz => jw_iload_n 1 d_M_choose_140 rfl rfl kz) ?_
      refine jx_of (fun _ _ kz => jw_iload d_M_choose_141 rfl kz) ?_
      refine jx_of (fun _ _ kz => jw_iadd d_M_choose_143 kz) ?_
      rw [show ((nI w) + (nI k) : Int32) = nI (w + k) from nI_add _ _]
      refine jx_of (fun _ _ kz => jw_iconst 3 d_M_choose_144 (by decide) kz) ?_
      refine jx_of (fun _ _ kz => jw_irem d_M_choose_145 (by decide) kz) ?_
      rw [show ((nI (w + k)) - (nI (w + k)) / 3 * 3 : Int32) = nI v from (by rw [hv0]; exact pk_rem (by omega) (by decide) (by decide))]
      refine jx_of (fun _ _ kz => jw_istore d_M_choose_146 (Nat.le_of_ble_eq_true rfl) kz) ?_
      dsimp only [List.set]
      refine jx_of (fun _ _ kz => jw_aload_n 0 d_M_choose_148 rfl rfl kz) ?_
      refine jx_of (fun _ _ kz => jw_getPe (some (52, 0)) fl_M_77 d_M_choose_149 rfl rfl (by simp [me_I_sI, me_I_sP, me_I_nx, me_P_sI, me_P_sP, me_P_nx, me_N_sI, me_N_sP, me_N_nx, me_L_sI, me_L_sP, me_L_nx, show me_P M1 7 0 23 = some (52, 0) from hm1.1 (7, 0, 23, 52, 0) (by decide)]) kz) ?_
      refine jx_of (fun _ _ kz => jw_iload d_M_choose_152 rfl kz) ?_
      refine jx_of (fun _ _ kz => jw_ialde (nI (rg v).length) d_M_choose_154 rfl rfl (by rw [show me_L _ 52 0 = 3 from (by simp [me_I_sI, me_I_sP, me_I_nx, me_P_sI, me_P_sP, me_P_nx, me_N_sI, me_N_sP, me_N_nx, me_L_sI, me_L_sP, me_L_nx, show me_L M1 52 0 = 3 from hm1.2 (52, 0, 3) (by decide)])]; exact (vp_in_nI hv (by decide))) (by rw [nI_clamp (by omega)]; exact (hq.2.1 v hv).1) kz) ?_
      refine jx_of (fun _ _ kz => jw_iconst 1 d_M_choose_155 (by decide) kz) ?_
      refine jx_of (fun _ _ kz => jw_iadd d_M_choose_156 kz) ?_
      rw [show ((nI (rg v).length) + 1 : Int32) = nI ((rg v).length + 1) from nI_1 _]
      refine jx_of (fun _ _ kz => jw_iconst 2 d_M_choose_157 (by decide) kz) ?_
      refine jx_of (fun _ _ kz => jw_idiv d_M_choose_158 (by decide) kz) ?_
      rw [show ((nI ((rg v).length + 1)) / 2 : Int32) = 1 from ((pk_div (by omega) (by decide) (by decide)).trans (by rw [hmm]; rfl))]
      refine jx_of (fun _ _ kz => jw_istore d_M_choose_159 (Nat.le_of_ble_eq_true rfl) kz) ?_
      dsimp only [List.set]
      refine jx_of (fun _ _ kz => jw_iload d_M_choose_161 rfl kz) ?_
      refine jx_if_ne 169 d_M_choose_163 (by decide) (fun _ => ?_) (fun h => absurd h (by decide))
      refine jx_of (fun _ _ kz => jw_aload_n 0 d_M_choose_169 rfl rfl kz) ?_
      refine jx_of (fun _ _ kz => jw_dup d_M_choose_170 kz) ?_
      refine jx_of (fun _ _ kz => jw_getIe (me_I M1 7 0 31) fl_M_211 d_M_choose_171 rfl rfl rfl kz) ?_
      refine jx_of (fun _ _ kz => jw_iconst 1 d_M_choose_174 (by decide) kz) ?_
      refine jx_of (fun _ _ kz => jw_iadd d_M_choose_175 kz) ?_
      refine jx_of (fun _ _ kz => jw_putI fl_M_211 (Or.inl rfl) rfl rfl d_M_choose_176 rfl rfl kz) ?_
      refine jx_of (fun _ _ kz => jw_aload_n 0 d_M_choose_179 rfl rfl kz) ?_
      refine jx_of (fun _ _ kz => jw_iload d_M_choose_180 rfl kz) ?_
      refine jx_callV (z_M_shift (d + 2) v a l nt inj rg sl ([]) (mSh_mc hm1 (sq_sI sq_rf))  hv (qX_any hq (by omega)) hr) mt_M_shift cf_M rfl rfl ml_M_122 im_M_shift se_M_shift d_M_choose_182 rfl rfl (Nat.le_of_ble_eq_true rfl) ?_
      rintro _ M3 ⟨rfl, q3, c3, t3⟩
      refine jx_eq (st2 := [.inl (nI a)]) rfl rfl rfl ?_
      refine jx_of (fun _ _ kz => jw_istore d_M_choose_185 (Nat.le_of_ble_eq_true rfl) kz) ?_
      dsimp only [List.set]
      refine jx_of (fun _ _ kz => jw_iconst 1 d_M_choose_187 (by decide) kz) ?_
      refine jx_of (fun _ _ kz => jw_istore d_M_choose_188 (Nat.le_of_ble_eq_true rfl) kz) ?_
      dsimp only [List.set]
      refine jx_of (fun _ _ kz => jw_iload d_M_choose_190 rfl kz) ?_
      refine jx_of (fun _ _ kz => jw_iload d_M_choose_192 rfl kz) ?_
      refine jx_icmp_ge 218 d_M_choose_194 (by decide) (fun _ => ?_) (fun h => absurd h (by decide))
      refine jx_of (fun _ _ kz => jw_iload d_M_choose_218 rfl kz) ?_
      refine jx_iret d_M_choose_220 rfl ?_
      first | exact chR hI (fw_mc (fw_mc (fw_mc (fw_sI hf (by omega)) c3) c4) c5) (mc27 (mc27 (mc27 ((mx_ne (by omega)).trans e27) c3) c4) c5) q5 | exact chR hI (fw_mc (fw_sI hf (by omega)) c3) (mc27 ((mx_ne (by omega)).trans e27) c3) ⟨_, _, _, q3⟩
    · obtain ⟨a, b, l2, hr⟩ : ∃ a b l2, rg v = a :: b :: l2 := by
        match h : rg v with
        | [] => rw [h] at hmm; simp at hmm
        | [_] => rw [h] at hmm; simp at hmm
        | a :: b :: l2 => exact ⟨a, b, l2, rfl⟩
      obtain ⟨l, hr2⟩ : ∃ l, l = b :: l2 := ⟨_, rfl⟩
      rw [← hr2] at hr
      refine jx_of (fun _ _ kz => jw_iload d_M_choose_134 rfl kz) ?_
      refine jx_of (fun _ _ kz => jw_iconst 3 d_M_choose_136 (by decide) kz) ?_
      refine jx_icmp_ge 227 d_M_choose_137 (by decide) (fun h => absurd h (by rcases (show k = 1 ∨ k = 2 by omega) with q | q <;> rw [q] <;> decide)) (fun _ => ?_)
      refine jx_of (fun _ _ kz => jw_iload_n 1 d_M_choose_140 rfl rfl kz) ?_
      refine jx_of (fun _ _ kz => jw_iload d_M_choose_141 rfl kz) ?_
      refine jx_of (fun _ _ kz => jw_iadd d_M_choose_143 kz) ?_
      rw [show ((nI w) + (nI k) : Int32) = nI (w + k) from nI_add _ _]
      refine jx_of (fun _ _ kz => jw_iconst 3 d_M_choose_144 (by decide) kz) ?_
      refine jx_of (fun _ _ kz => jw_irem d_M_choose_145 (by decide) kz) ?_
      rw [show ((nI (w + k)) - (nI (w + k)) / 3 * 3 : Int32) = nI v from (by rw [hv0]; exact pk_rem (by omega) (by decide) (by decide))]
      refine jx_of (fun _ _ kz => jw_istore d_M_choose_146 (Nat.le_of_ble_eq_true rfl) kz) ?_
      dsimp only [List.set]
      refine jx_of (fun _ _ kz => jw_aload_n 0 d_M_choose_148 rfl rfl kz) ?_
      refine jx_of (fun _ _ kz => jw_getPe (some (52, 0)) fl_M_77 d_M_choose_149 rfl rfl (by simp [me_I_sI, me_I_sP, me_I_nx, me_P_sI, me_P_sP, me_P_nx, me_N_sI, me_N_sP, me_N_nx, me_L_sI, me_L_sP, me_L_nx, show me_P M1 7 0 23 = some (52, 0) from hm1.1 (7, 0, 23, 52, 0) (by decide)]) kz) ?_
      refine jx_of (fun _ _ kz => jw_iload d_M_choose_152 rfl kz) ?_
      refine jx_of (fun _ _ kz => jw_ialde (nI (rg v).length) d_M_choose_154 rfl rfl (by rw [show me_L _ 52 0 = 3 from (by simp [me_I_sI, me_I_sP, me_I_nx, me_P_sI, me_P_sP, me_P_nx, me_N_sI, me_N_sP, me_N_nx, me_L_sI, me_L_sP, me_L_nx, show me_L M1 52 0 = 3 from hm1.2 (52, 0, 3) (by decide)])]; exact (vp_in_nI hv (by decide))) (by rw [nI_clamp (by omega)]; exact (hq.2.1 v hv).1) kz) ?_
      refine jx_of (fun _ _ kz => jw_iconst 1 d_M_choose_155 (by decide) kz) ?_
      refine jx_of (fun _ _ kz => jw_iadd d_M_choose_156 kz) ?_
      rw [show ((nI (rg v).length) + 1 : Int32) = nI ((rg v).length + 1) from nI_1 _]
      refine jx_of (fun _ _ kz => jw_iconst 2 d_M_choose_157 (by decide) kz) ?_
      refine jx_of (fun _ _ kz => jw_idiv d_M_choose_158 (by decide) kz) ?_
      rw [show ((nI ((rg v).length + 1)) / 2 : Int32) = 2 from ((pk_div (by omega) (by decide) (by decide)).trans (by rw [hmm]; rfl))]
      refine jx_of (fun _ _ kz => jw_istore d_M_choose_159 (Nat.le_of_ble_eq_true rfl) kz) ?_
      dsimp only [List.set]
      refine jx_of (fun _ _ kz => jw_iload d_M_choose_161 rfl kz) ?_
      refine jx_if_ne 169 d_M_choose_163 (by decide) (fun _ => ?_) (fun h => absurd h (by decide))
      refine jx_of (fun _ _ kz => jw_aload_n 0 d_M_choose_169 rfl rfl kz) ?_
      refine jx_of (fun _ _ kz => jw_dup d_M_choose_170 kz) ?_
      refine jx_of (fun _ _ kz => jw_getIe (me_I M1 7 0 31) fl_M_211 d_M_choose_171 rfl rfl rfl kz) ?_
      refine jx_of (fun _ _ kz => jw_iconst 1 d_M_choose_174 (by decide) kz) ?_
      refine jx_of (fun _ _ kz => jw_iadd d_M_choose_175 kz) ?_
      refine jx_of (fun _ _ kz => jw_putI fl_M_211 (Or.inl rfl) rfl rfl d_M_choose_176 rfl rfl kz) ?_
      refine jx_of (fun _ _ kz => jw_aload_n 0 d_M_choose_179 rfl rfl kz) ?_
      refine jx_of (fun _ _ kz => jw_iload d_M_choose_180 rfl kz) ?_
      refine jx_callV (z_M_shift (d + 2) v a l nt inj rg sl ([]) (mSh_mc hm1 (sq_sI sq_rf))  hv (qX_any hq (by omega)) hr) mt_M_shift cf_M rfl rfl ml_M_122 im_M_shift se_M_shift d_M_choose_182 rfl rfl (Nat.le_of_ble_eq_true rfl) ?_
      rintro _ M3 ⟨rfl, q3, c3, t3⟩
      refine jx_eq (st2 := [.inl (nI a)]) rfl rfl rfl ?_
      refine jx_of (fun _ _ kz => jw_istore d_M_choose_185 (Nat.le_of_ble_eq_true rfl) kz) ?_
      dsimp only [List.set]
      refine jx_of (fun _ _ kz => jw_iconst 1 d_M_choose_187 (by decide) kz) ?_
      refine jx_of (fun _ _ kz => jw_istore d_M_choose_188 (Nat.le_of_ble_eq_true rfl) kz) ?_
      dsimp only [List.set]
      refine jx_of (fun _ _ kz => jw_iload d_M_choose_190 rfl kz) ?_
      refine jx_of (fun _ _ kz => jw_iload d_M_choose_192 rfl kz) ?_
      refine jx_icmp_ge 218 d_M_choose_194 (by decide) (fun h => absurd h (by decide)) (fun _ => ?_)
      refine jx_of (fun _ _ kz => jw_aload_n 0 d_M_choose_197 rfl rfl kz) ?_
      refine jx_of (fun _ _ kz => jw_iload d_M_choose_198 rfl kz) ?_
      refine jx_callV (z_M_shift (d + 2) v b l2 nt inj ((rgu rg v l)) sl ([a]) (mSh_mc hm1 (sq_tr (sq_sI sq_rf) c3.1))  hv q3 (by simp [rgu, hr2])) mt_M_shift cf_M rfl rfl ml_M_122 im_M_shift se_M_shift d_M_choose_200 rfl rfl (Nat.le_of_ble_eq_true rfl) ?_
      rintro _ M4 ⟨rfl, q4, c4, t4⟩
      refine jx_eq (st2 := [.inl (nI b)]) rfl rfl rfl ?_
      refine jx_of (fun _ _ kz => jw_istore d_M_choose_203 (Nat.le_of_ble_eq_true rfl) kz) ?_
      dsimp only [List.set]
      refine jx_of (fun _ _ kz => jw_aload_n 0 d_M_choose_205 rfl rfl kz) ?_
      refine jx_of (fun _ _ kz => jw_iload d_M_choose_206 rfl kz) ?_
      refine jx_of (fun _ _ kz => jw_iload_n 1 d_M_choose_208 rfl rfl kz) ?_
      refine jx_callV (z_M_toRing d b w nt ([a]) (mSh_mc hm1 (sq_tr (sq_tr (sq_sI sq_rf) c3.1) c4.1))  hw ⟨_, _, _, q4⟩) mt_M_toRing cf_M rfl rfl ml_M_128 im_M_toRing se_M_toRing d_M_choose_209 rfl rfl (Nat.le_of_ble_eq_true rfl) ?_
      rintro _ M5 ⟨rfl, q5, c5, t5⟩
      refine jx_eq (st2 := []) rfl rfl rfl ?_
      refine jx_of (fun _ _ kz => jw_iincc 1 d_M_choose_212 (by decide) rfl (Nat.le_of_ble_eq_true rfl) kz) ?_
      dsimp only [List.set]
      rw [show (1 + 1 : Int32) = 2 from by decide]
      refine jx_of (fun _ _ kz => jw_goto 190 d_M_choose_215 (by decide) kz) ?_
      refine jx_of (fun _ _ kz => jw_iload d_M_choose_190 rfl kz) ?_
      refine jx_of (fun _ _ kz => jw_iload d_M_choose_192 rfl kz) ?_
      refine jx_icmp_ge 218 d_M_choose_194 (by decide) (fun _ => ?_) (fun h => absurd h (by decide))
      refine jx_of (fun _ _ kz => jw_iload d_M_choose_218 rfl kz) ?_
      refine jx_iret d_M_choose_220 rfl ?_
      first | exact chR hI (fw_mc (fw_mc (fw_mc (fw_sI hf (by omega)) c3) c4) c5) (mc27 (mc27 (mc27 ((mx_ne (by omega)).trans e27) c3) c4) c5) q5 | exact chR hI (fw_mc (fw_sI hf (by omega)) c3) (mc27 ((mx_ne (by omega)).trans e27) c3) ⟨_, _, _, q3⟩
set_option maxRecDepth 20000 in
set_option maxHeartbeats 4000000 in
theorem ch_104 {G : Gt} {M M1 : Me} (d w np nt : Nat) (inj : List Nat) (rg : Nat → List Nat) (sl : Nat → Option Nat) (row : Int32) (hI : mI M np nt []) (hw : w < 3) (hf : fw nt M M1) (e27 : me_I M1 7 0 27 = me_I M 7 0 27) (hm1 : mSh M1) (hq : qX M1 nt inj rg sl []) (c0 s0 : Nat) (o3 o4 o5 o6 o7 o8 o9 : Option AV) : jx G yt_M_choose (d + 4) c0 s0 M1 104 [some (.inr (some (7, 0))), some (.inl (nI w)), some (.inl row), o3, o4, o5, o6, o7, o8, o9] [] (fun r M' => ∃ rv : Int32, r = some (.inl rv) ∧ fw nt M M' ∧ ((rv = -2 ∧ mI M' np nt []) ∨ ∃ t, t < nt ∧ rv = nI t ∧ mI M' np nt [t])) := by
  refine jx_of (fun _ _ kz => jw_aload_n 0 d_M_choose_104 rfl rfl kz) ?_
  refine jx_of (fun _ _ kz => jw_getPe (some (52, 0)) fl_M_77 d_M_choose_105 rfl rfl (by simp [me_I_sI, me_I_sP, me_I_nx, me_P_sI, me_P_sP, me_P_nx, me_N_sI, me_N_sP, me_N_nx, me_L_sI, me_L_sP, me_L_nx, show me_P M1 7 0 23 = some (52, 0) from hm1.1 (7, 0, 23, 52, 0) (by decide)]) kz) ?_
  refine jx_of (fun _ _ kz => jw_iload_n 1 d_M_choose_108 rfl rfl kz) ?_
  refine jx_of (fun _ _ kz => jw_ialde (nI (rg w).length) d_M_choose_109 rfl rfl (by rw [show me_L _ 52 0 = 3 from (by simp [me_I_sI, me_I_sP, me_I_nx, me_P_sI, me_P_sP, me_P_nx, me_N_sI, me_N_sP, me_N_nx, me_L_sI, me_L_sP, me_L_nx, show me_L M1 52 0 = 3 from hm1.2 (52, 0, 3) (by decide)])]; exact (vp_in_nI hw (by decide))) (by rw [nI_clamp (by omega)]; exact (hq.2.1 w hw).1) kz) ?_
  refine jx_if_le 119 d_M_choose_110 (by decide) (fun b_110 => ?_) (fun b_110 => ?_)
  · skip
    refine jx_of (fun _ _ kz => jw_aload_n 0 d_M_choose_119 rfl rfl kz) ?_
    refine jx_of (fun _ _ kz => jw_getIe (nI inj.length) fl_M_119 d_M_choose_120 rfl rfl hq.1.1 kz) ?_
    refine jx_if_le 131 d_M_choose_123 (by decide) (fun b_123 => ?_) (fun b_123 => ?_)
    · skip
      refine jx_of (fun _ _ kz => jw_iconst 1 d_M_choose_131 (by decide) kz) ?_
      refine jx_of (fun _ _ kz => jw_istore d_M_choose_132 (Nat.le_of_ble_eq_true rfl) kz) ?_
      dsimp only [List.set]
      exact ch_134 d w np nt inj rg sl row hI hw hf e27 hm1 hq _ _ 2 1 _ _ _ _ _ _ (by omega) (by omega)
    · skip
      obtain ⟨a, l, hr⟩ := pos_cons b_123
      refine jx_of (fun _ _ kz => jw_aload_n 0 d_M_choose_126 rfl rfl kz) ?_
      refine jx_callV (z_M_shiftInjector (d + 2) a l nt inj rg sl ([]) hm1  hq hr) mt_M_shiftInjector cf_M rfl rfl ml_M_207 im_M_shiftInjector se_M_shiftInjector d_M_choose_127 rfl rfl (Nat.le_of_ble_eq_true rfl) ?_
      rintro _ M3 ⟨rfl, q3, c3, t3⟩
      refine jx_eq (st2 := [.inl (nI a)]) rfl rfl rfl ?_
      refine jx_iret d_M_choose_130 rfl ?_
      exact chR hI (fw_mc hf c3) (mc27 e27 c3) ⟨_, _, _, q3⟩
  · skip
    obtain ⟨a, l, hr⟩ := pos_cons b_110
    refine jx_of (fun _ _ kz => jw_aload_n 0 d_M_choose_113 rfl rfl kz) ?_
    refine jx_of (fun _ _ kz => jw_iload_n 1 d_M_choose_114 rfl rfl kz) ?_
    refine jx_callV (z_M_shift (d + 2) w a l nt inj rg sl ([]) hm1  hw hq hr) mt_M_shift cf_M rfl rfl ml_M_122 im_M_shift se_M_shift d_M_choose_115 rfl rfl (Nat.le_of_ble_eq_true rfl) ?_
    rintro _ M3 ⟨rfl, q3, c3, t3⟩
    refine jx_eq (st2 := [.inl (nI a)]) rfl rfl rfl ?_
    refine jx_iret d_M_choose_118 rfl ?_
    exact chR hI (fw_mc hf c3) (mc27 e27 c3) ⟨_, _, _, q3⟩
set_option maxRecDepth 20000 in
set_option maxHeartbeats 4000000 in
theorem ch_59 {G : Gt} {M M1 : Me} (d w np nt : Nat) (inj : List Nat) (rg : Nat → List Nat) (sl : Nat → Option Nat) (row : Int32) (hI : mI M np nt []) (hw : w < 3) (hf : fw nt M M1) (e27 : me_I M1 7 0 27 = me_I M 7 0 27) (hm1 : mSh M1) (hq : qX M1 nt inj rg sl []) (c0 s0 : Nat) (b : Int32) (o4 o5 o6 o7 o8 o9 : Option AV) : jx G yt_M_choose (d + 4) c0 s0 M1 59 [some (.inr (some (7, 0))), some (.inl (nI w)), some (.inl row), some (.inl b), o4, o5, o6, o7, o8, o9] [] (fun r M' => ∃ rv : Int32, r = some (.inl rv) ∧ fw nt M M' ∧ ((rv = -2 ∧ mI M' np nt []) ∨ ∃ t, t < nt ∧ rv = nI t ∧ mI M' np nt [t])) := by
  refine jx_of (fun _ _ kz => jw_aload_n 0 d_M_choose_59 rfl rfl kz) ?_
  refine jx_of (fun _ _ kz => jw_getPe (some (48, 0)) fl_M_65 d_M_choose_60 rfl rfl (by simp [me_I_sI, me_I_sP, me_I_nx, me_P_sI, me_P_sP, me_P_nx, me_N_sI, me_N_sP, me_N_nx, me_L_sI, me_L_sP, me_L_nx, show me_P M1 7 0 19 = some (48, 0) from hm1.1 (7, 0, 19, 48, 0) (by decide)]) kz) ?_
  refine jx_of (fun _ _ kz => jw_iload_n 1 d_M_choose_63 rfl rfl kz) ?_
  refine jx_of (fun _ _ kz => jw_ialde (slv (sl w)) d_M_choose_64 rfl rfl (by rw [show me_L _ 48 0 = 3 from (by simp [me_I_sI, me_I_sP, me_I_nx, me_P_sI, me_P_sP, me_P_nx, me_N_sI, me_N_sP, me_N_nx, me_L_sI, me_L_sP, me_L_nx, show me_L M1 48 0 = 3 from hm1.2 (48, 0, 3) (by decide)])]; exact (vp_in_nI hw (by decide))) (by rw [nI_clamp (by omega)]; exact hq.2.2.1 w hw) kz) ?_
  refine jx_if_lt 104 d_M_choose_65 (by decide) (fun b_65 => ?_) (fun b_65 => ?_)
  · skip
    exact ch_104 d w np nt inj rg sl row hI hw hf e27 hm1 hq _ _ _ _ _ _ _ _ _
  · skip
    refine jx_of (fun _ _ kz => jw_iload_n 2 d_M_choose_68 rfl rfl kz) ?_
    refine jx_of (fun _ _ kz => jw_iconst 2 d_M_choose_69 (by decide) kz) ?_
    refine jx_icmp_lt 77 d_M_choose_70 (by decide) (fun b_70 => ?_) (fun b_70 => ?_)
    · skip
      obtain ⟨t, ht9⟩ := slv_pos b_65
      refine jx_of (fun _ _ kz => jw_aload_n 0 d_M_choose_77 rfl rfl kz) ?_
      refine jx_of (fun _ _ kz => jw_getPe (some (48, 0)) fl_M_65 d_M_choose_78 rfl rfl (by simp [me_I_sI, me_I_sP, me_I_nx, me_P_sI, me_P_sP, me_P_nx, me_N_sI, me_N_sP, me_N_nx, me_L_sI, me_L_sP, me_L_nx, show me_P M1 7 0 19 = some (48, 0) from hm1.1 (7, 0, 19, 48, 0) (by decide)]) kz) ?_
      refine jx_of (fun _ _ kz => jw_iload_n 1 d_M_choose_81 rfl rfl kz) ?_
      refine jx_of (fun _ _ kz => jw_ialde (nI t) d_M_choose_82 rfl rfl (by rw [show me_L _ 48 0 = 3 from (by simp [me_I_sI, me_I_sP, me_I_nx, me_P_sI, me_P_sP, me_P_nx, me_N_sI, me_N_sP, me_N_nx, me_L_sI, me_L_sP, me_L_nx, show me_L M1 48 0 = 3 from hm1.2 (48, 0, 3) (by decide)])]; exact (vp_in_nI hw (by decide))) (by rw [nI_clamp (by omega), hq.2.2.1 w hw, ht9]; rfl) kz) ?_
      refine jx_of (fun _ _ kz => jw_istore d_M_choose_83 (Nat.le_of_ble_eq_true rfl) kz) ?_
      dsimp only [List.set]
      refine jx_of (fun _ _ kz => jw_aload_n 0 d_M_choose_85 rfl rfl kz) ?_
      refine jx_of (fun _ _ kz => jw_getPe (some (48, 0)) fl_M_65 d_M_choose_86 rfl rfl (by simp [me_I_sI, me_I_sP, me_I_nx, me_P_sI, me_P_sP, me_P_nx, me_N_sI, me_N_sP, me_N_nx, me_L_sI, me_L_sP, me_L_nx, show me_P M1 7 0 19 = some (48, 0) from hm1.1 (7, 0, 19, 48, 0) (by decide)]) kz) ?_
      refine jx_of (fun _ _ kz => jw_iload_n 1 d_M_choose_89 rfl rfl kz) ?_
      refine jx_of (fun _ _ kz => jw_iconst (-1) d_M_choose_90 (by decide) kz) ?_
      refine jx_of (fun _ _ kz => jw_iast d_M_choose_91 rfl rfl (by rw [show me_L _ 48 0 = 3 from (by simp [me_I_sI, me_I_sP, me_I_nx, me_P_sI, me_P_sP, me_P_nx, me_N_sI, me_N_sP, me_N_nx, me_L_sI, me_L_sP, me_L_nx, show me_L M1 48 0 = 3 from hm1.2 (48, 0, 3) (by decide)])]; exact (vp_in_nI hw (by decide))) kz) ?_
      rw [nI_clamp (by omega)]
      refine jx_of (fun _ _ kz => jw_aload_n 0 d_M_choose_92 rfl rfl kz) ?_
      refine jx_of (fun _ _ kz => jw_getPe (some (50, 0)) fl_M_71 d_M_choose_93 rfl rfl (by simp [me_I_sI, me_I_sP, me_I_nx, me_P_sI, me_P_sP, me_P_nx, me_N_sI, me_N_sP, me_N_nx, me_L_sI, me_L_sP, me_L_nx, show me_P M1 7 0 21 = some (50, 0) from hm1.1 (7, 0, 21, 50, 0) (by decide)]) kz) ?_
      refine jx_of (fun _ _ kz => jw_iload_n 1 d_M_choose_96 rfl rfl kz) ?_
      refine jx_of (fun _ _ kz => jw_iload_n 2 d_M_choose_97 rfl rfl kz) ?_
      refine jx_of (fun _ _ kz => jw_iconst 1 d_M_choose_98 (by decide) kz) ?_
      refine jx_of (fun _ _ kz => jw_iadd d_M_choose_99 kz) ?_
      refine jx_of (fun _ _ kz => jw_iast d_M_choose_100 rfl rfl (by rw [show me_L _ 50 0 = 3 from (by simp [me_I_sI, me_I_sP, me_I_nx, me_P_sI, me_P_sP, me_P_nx, me_N_sI, me_N_sP, me_N_nx, me_L_sI, me_L_sP, me_L_nx, show me_L M1 50 0 = 3 from hm1.2 (50, 0, 3) (by decide)])]; exact (vp_in_nI hw (by decide))) kz) ?_
      rw [nI_clamp (by omega)]
      refine jx_of (fun _ _ kz => jw_iload d_M_choose_101 rfl kz) ?_
      refine jx_iret d_M_choose_103 rfl ?_
      exact chR hI (fw_sI (fw_sI hf (by omega)) (by omega)) ((mx_ne (by omega)).trans ((mx_ne (by omega)).trans e27)) ⟨_, _, _, qX_any (qX_unslot hq hw ht9) (by omega)⟩
    · skip
      refine jx_of (fun _ _ kz => jw_iload_n 3 d_M_choose_73 rfl rfl kz) ?_
      refine jx_if_ne 104 d_M_choose_74 (by decide) (fun b_74 => ?_) (fun b_74 => ?_)
      · skip
        exact ch_104 d w np nt inj rg sl row hI hw hf e27 hm1 hq _ _ _ _ _ _ _ _ _
      · skip
        obtain ⟨t, ht9⟩ := slv_pos b_65
        refine jx_of (fun _ _ kz => jw_aload_n 0 d_M_choose_77 rfl rfl kz) ?_
        refine jx_of (fun _ _ kz => jw_getPe (some (48, 0)) fl_M_65 d_M_choose_78 rfl rfl (by simp [me_I_sI, me_I_sP, me_I_nx, me_P_sI, me_P_sP, me_P_nx, me_N_sI, me_N_sP, me_N_nx, me_L_sI, me_L_sP, me_L_nx, show me_P M1 7 0 19 = some (48, 0) from hm1.1 (7, 0, 19, 48, 0) (by decide)]) kz) ?_
        refine jx_of (fun _ _ kz => jw_iload_n 1 d_M_choose_81 rfl rfl kz) ?_
        refine jx_of (fun _ _ kz => jw_ialde (nI t) d_M_choose_82 rfl rfl (by rw [show me_L _ 48 0 = 3 from (by simp [me_I_sI, me_I_sP, me_I_nx, me_P_sI, me_P_sP, me_P_nx, me_N_sI, me_N_sP, me_N_nx, me_L_sI, me_L_sP, me_L_nx, show me_L M1 48 0 = 3 from hm1.2 (48, 0, 3) (by decide)])]; exact (vp_in_nI hw (by decide))) (by rw [nI_clamp (by omega), hq.2.2.1 w hw, ht9]; rfl) kz) ?_
        refine jx_of (fun _ _ kz => jw_istore d_M_choose_83 (Nat.le_of_ble_eq_true rfl) kz) ?_
        dsimp only [List.set]
        refine jx_of (fun _ _ kz => jw_aload_n 0 d_M_choose_85 rfl rfl kz) ?_
        refine jx_of (fun _ _ kz => jw_getPe (some (48, 0)) fl_M_65 d_M_choose_86 rfl rfl (by simp [me_I_sI, me_I_sP, me_I_nx, me_P_sI, me_P_sP, me_P_nx, me_N_sI, me_N_sP, me_N_nx, me_L_sI, me_L_sP, me_L_nx, show me_P M1 7 0 19 = some (48, 0) from hm1.1 (7, 0, 19, 48, 0) (by decide)]) kz) ?_
        refine jx_of (fun _ _ kz => jw_iload_n 1 d_M_choose_89 rfl rfl kz) ?_
        refine jx_of (fun _ _ kz => jw_iconst (-1) d_M_choose_90 (by decide) kz) ?_
        refine jx_of (fun _ _ kz => jw_iast d_M_choose_91 rfl rfl (by rw [show me_L _ 48 0 = 3 from (by simp [me_I_sI, me_I_sP, me_I_nx, me_P_sI, me_P_sP, me_P_nx, me_N_sI, me_N_sP, me_N_nx, me_L_sI, me_L_sP, me_L_nx, show me_L M1 48 0 = 3 from hm1.2 (48, 0, 3) (by decide)])]; exact (vp_in_nI hw (by decide))) kz) ?_
        rw [nI_clamp (by omega)]
        refine jx_of (fun _ _ kz => jw_aload_n 0 d_M_choose_92 rfl rfl kz) ?_
        refine jx_of (fun _ _ kz => jw_getPe (some (50, 0)) fl_M_71 d_M_choose_93 rfl rfl (by simp [me_I_sI, me_I_sP, me_I_nx, me_P_sI, me_P_sP, me_P_nx, me_N_sI, me_N_sP, me_N_nx, me_L_sI, me_L_sP, me_L_nx, show me_P M1 7 0 21 = some (50, 0) from hm1.1 (7, 0, 21, 50, 0) (by decide)]) kz) ?_
        refine jx_of (fun _ _ kz => jw_iload_n 1 d_M_choose_96 rfl rfl kz) ?_
        refine jx_of (fun _ _ kz => jw_iload_n 2 d_M_choose_97 rfl rfl kz) ?_
        refine jx_of (fun _ _ kz => jw_iconst 1 d_M_choose_98 (by decide) kz) ?_
        refine jx_of (fun _ _ kz => jw_iadd d_M_choose_99 kz) ?_
        refine jx_of (fun _ _ kz => jw_iast d_M_choose_100 rfl rfl (by rw [show me_L _ 50 0 = 3 from (by simp [me_I_sI, me_I_sP, me_I_nx, me_P_sI, me_P_sP, me_P_nx, me_N_sI, me_N_sP, me_N_nx, me_L_sI, me_L_sP, me_L_nx, show me_L M1 50 0 = 3 from hm1.2 (50, 0, 3) (by decide)])]; exact (vp_in_nI hw (by decide))) kz) ?_
        rw [nI_clamp (by omega)]
        refine jx_of (fun _ _ kz => jw_iload d_M_choose_101 rfl kz) ?_
        refine jx_iret d_M_choose_103 rfl ?_
        exact chR hI (fw_sI (fw_sI hf (by omega)) (by omega)) ((mx_ne (by omega)).trans ((mx_ne (by omega)).trans e27)) ⟨_, _, _, qX_any (qX_unslot hq hw ht9) (by omega)⟩
set_option maxRecDepth 20000 in
set_option maxHeartbeats 4000000 in
theorem ch_37 {G : Gt} {M M1 : Me} (d w np nt : Nat) (inj : List Nat) (rg : Nat → List Nat) (sl : Nat → Option Nat) (row : Int32) (hI : mI M np nt []) (hw : w < 3) (hf : fw nt M M1) (e27 : me_I M1 7 0 27 = me_I M 7 0 27) (hm1 : mSh M1) (hq : qX M1 nt inj rg sl []) (c0 s0 : Nat) (o3 o4 o5 o6 o7 o8 o9 : Option AV) : jx G yt_M_choose (d + 4) c0 s0 M1 37 [some (.inr (some (7, 0))), some (.inl (nI w)), some (.inl row), o3, o4, o5, o6, o7, o8, o9] [] (fun r M' => ∃ rv : Int32, r = some (.inl rv) ∧ fw nt M M' ∧ ((rv = -2 ∧ mI M' np nt []) ∨ ∃ t, t < nt ∧ rv = nI t ∧ mI M' np nt [t])) := by
  refine jx_of (fun _ _ kz => jw_aload_n 0 d_M_choose_37 rfl rfl kz) ?_
  refine jx_of (fun _ _ kz => jw_getPe (some (52, 0)) fl_M_77 d_M_choose_38 rfl rfl (by simp [me_I_sI, me_I_sP, me_I_nx, me_P_sI, me_P_sP, me_P_nx, me_N_sI, me_N_sP, me_N_nx, me_L_sI, me_L_sP, me_L_nx, show me_P M1 7 0 23 = some (52, 0) from hm1.1 (7, 0, 23, 52, 0) (by decide)]) kz) ?_
  refine jx_of (fun _ _ kz => jw_iload_n 1 d_M_choose_41 rfl rfl kz) ?_
  refine jx_of (fun _ _ kz => jw_ialde (nI (rg w).length) d_M_choose_42 rfl rfl (by rw [show me_L _ 52 0 = 3 from (by simp [me_I_sI, me_I_sP, me_I_nx, me_P_sI, me_P_sP, me_P_nx, me_N_sI, me_N_sP, me_N_nx, me_L_sI, me_L_sP, me_L_nx, show me_L M1 52 0 = 3 from hm1.2 (52, 0, 3) (by decide)])]; exact (vp_in_nI hw (by decide))) (by rw [nI_clamp (by omega)]; exact (hq.2.1 w hw).1) kz) ?_
  refine jx_if_gt 53 d_M_choose_43 (by decide) (fun b_43 => ?_) (fun b_43 => ?_)
  · skip
    refine jx_of (fun _ _ kz => jw_iconst 1 d_M_choose_53 (by decide) kz) ?_
    refine jx_of (fun _ _ kz => jw_goto 58 d_M_choose_54 (by decide) kz) ?_
    refine jx_of (fun _ _ kz => jw_istore_n 3 d_M_choose_58 rfl (Nat.le_of_ble_eq_true rfl) kz) ?_
    dsimp only [List.set]
    exact ch_59 d w np nt inj rg sl row hI hw hf e27 hm1 hq _ _ _ _ _ _ _ _ _
  · skip
    refine jx_of (fun _ _ kz => jw_aload_n 0 d_M_choose_46 rfl rfl kz) ?_
    refine jx_of (fun _ _ kz => jw_getIe (nI inj.length) fl_M_119 d_M_choose_47 rfl rfl hq.1.1 kz) ?_
    refine jx_if_le 57 d_M_choose_50 (by decide) (fun b_50 => ?_) (fun b_50 => ?_)
    · skip
      refine jx_of (fun _ _ kz => jw_iconst 0 d_M_choose_57 (by decide) kz) ?_
      refine jx_of (fun _ _ kz => jw_istore_n 3 d_M_choose_58 rfl (Nat.le_of_ble_eq_true rfl) kz) ?_
      dsimp only [List.set]
      exact ch_59 d w np nt inj rg sl row hI hw hf e27 hm1 hq _ _ _ _ _ _ _ _ _
    · skip
      refine jx_of (fun _ _ kz => jw_iconst 1 d_M_choose_53 (by decide) kz) ?_
      refine jx_of (fun _ _ kz => jw_goto 58 d_M_choose_54 (by decide) kz) ?_
      refine jx_of (fun _ _ kz => jw_istore_n 3 d_M_choose_58 rfl (Nat.le_of_ble_eq_true rfl) kz) ?_
      dsimp only [List.set]
      exact ch_59 d w np nt inj rg sl row hI hw hf e27 hm1 hq _ _ _ _ _ _ _ _ _
set_option maxRecDepth 20000 in
set_option maxHeartbeats 4000000 in
theorem z_M_choose {G : Gt} {M : Me} (d : Nat) (w : Nat) (np : Nat) (nt : Nat) (hI : mI M np nt []) (hw : w < 3) : sx G yt_M_choose yn_M_choose (d + 4) [.inr (some (7, 0)), .inl (nI w)] M (fun r M' => ∃ rv : Int32, r = some (.inl rv) ∧ fw nt M M' ∧ ((rv = -2 ∧ mI M' np nt []) ∨ ∃ t, t < nt ∧ rv = nI t ∧ mI M' np nt [t])) := by
  refine sx_of (k := 8) (lc := [some (.inr (some (7, 0))), some (.inl (nI w)), none, none, none, none, none, none, none, none]) mt_M_choose (Nat.le_of_ble_eq_true rfl) rfl ?_
  obtain ⟨inj, rg, sl, hq0⟩ := hI.2.2.2.1
  refine jx_of (fun _ _ kz => jw_aload_n 0 d_M_choose_0 rfl rfl kz) ?_
  refine jx_of (fun _ _ kz => jw_getPe (some (50, 0)) fl_M_71 d_M_choose_1 rfl rfl (by simp [me_I_sI, me_I_sP, me_I_nx, me_P_sI, me_P_sP, me_P_nx, me_N_sI, me_N_sP, me_N_nx, me_L_sI, me_L_sP, me_L_nx, show me_P M 7 0 21 = some (50, 0) from hI.1.1 (7, 0, 21, 50, 0) (by decide)]) kz) ?_
  refine jx_of (fun _ _ kz => jw_iload_n 1 d_M_choose_4 rfl rfl kz) ?_
  refine jx_of (fun _ _ kz => jw_ialde (me_I M 50 0 w) d_M_choose_5 rfl rfl (by rw [show me_L _ 50 0 = 3 from (by simp [me_I_sI, me_I_sP, me_I_nx, me_P_sI, me_P_sP, me_P_nx, me_N_sI, me_N_sP, me_N_nx, me_L_sI, me_L_sP, me_L_nx, show me_L M 50 0 = 3 from hI.1.2 (50, 0, 3) (by decide)])]; exact (vp_in_nI hw (by decide))) (by rw [nI_clamp (by omega)] <;> simp [me_I_sI]) kz) ?_
  refine jx_of (fun _ _ kz => jw_istore_n 2 d_M_choose_6 rfl (Nat.le_of_ble_eq_true rfl) kz) ?_
  dsimp only [List.set]
  refine jx_of (fun _ _ kz => jw_aload_n 0 d_M_choose_7 rfl rfl kz) ?_
  refine jx_of (fun _ _ kz => jw_getPe (some (50, 0)) fl_M_71 d_M_choose_8 rfl rfl (by simp [me_I_sI, me_I_sP, me_I_nx, me_P_sI, me_P_sP, me_P_nx, me_N_sI, me_N_sP, me_N_nx, me_L_sI, me_L_sP, me_L_nx, show me_P M 7 0 21 = some (50, 0) from hI.1.1 (7, 0, 21, 50, 0) (by decide)]) kz) ?_
  refine jx_of (fun _ _ kz => jw_iload_n 1 d_M_choose_11 rfl rfl kz) ?_
  refine jx_of (fun _ _ kz => jw_iconst 0 d_M_choose_12 (by decide) kz) ?_
  refine jx_of (fun _ _ kz => jw_iast d_M_choose_13 rfl rfl (by rw [show me_L _ 50 0 = 3 from (by simp [me_I_sI, me_I_sP, me_I_nx, me_P_sI, me_P_sP, me_P_nx, me_N_sI, me_N_sP, me_N_nx, me_L_sI, me_L_sP, me_L_nx, show me_L M 50 0 = 3 from hI.1.2 (50, 0, 3) (by decide)])]; exact (vp_in_nI hw (by decide))) kz) ?_
  rw [nI_clamp (by omega)]
  refine jx_of (fun _ _ kz => jw_aload_n 0 d_M_choose_14 rfl rfl kz) ?_
  refine jx_of (fun _ _ kz => jw_getPe (some (49, 0)) fl_M_68 d_M_choose_15 rfl rfl (by simp [me_I_sI, me_I_sP, me_I_nx, me_P_sI, me_P_sP, me_P_nx, me_N_sI, me_N_sP, me_N_nx, me_L_sI, me_L_sP, me_L_nx, show me_P M 7 0 20 = some (49, 0) from hI.1.1 (7, 0, 20, 49, 0) (by decide)]) kz) ?_
  refine jx_of (fun _ _ kz => jw_iload_n 1 d_M_choose_18 rfl rfl kz) ?_
  refine jx_of (fun _ _ kz => jw_ialde (me_I M 49 0 w) d_M_choose_19 rfl rfl (by rw [show me_L _ 49 0 = 3 from (by simp [me_I_sI, me_I_sP, me_I_nx, me_P_sI, me_P_sP, me_P_nx, me_N_sI, me_N_sP, me_N_nx, me_L_sI, me_L_sP, me_L_nx, show me_L M 49 0 = 3 from hI.1.2 (49, 0, 3) (by decide)])]; exact (vp_in_nI hw (by decide))) (by rw [nI_clamp (by omega)] <;> simp [me_I_sI]) kz) ?_
  refine jx_of (fun _ _ kz => jw_iconst 5 d_M_choose_20 (by decide) kz) ?_
  refine jx_of (fun _ _ kz => jw_irem d_M_choose_21 (by decide) kz) ?_
  refine jx_if_ne 37 d_M_choose_22 (by decide) (fun b_22 => ?_) (fun b_22 => ?_)
  · skip
    exact ch_37 d w np nt inj rg sl _ hI hw (fw_sI fw_rf (by omega)) (mx_ne (by omega)) (mSh_mc hI.1 (sq_sI sq_rf)) (qX_any hq0 (by omega)) _ _ _ _ _ _ _ _ _
  · skip
    refine jx_of (fun _ _ kz => jw_aload_n 0 d_M_choose_25 rfl rfl kz) ?_
    refine jx_of (fun _ _ kz => jw_getIe (nI inj.length) fl_M_119 d_M_choose_26 rfl rfl ((mx_ne (by omega)).trans hq0.1.1) kz) ?_
    refine jx_if_le 37 d_M_choose_29 (by decide) (fun b_29 => ?_) (fun b_29 => ?_)
    · skip
      exact ch_37 d w np nt inj rg sl _ hI hw (fw_sI fw_rf (by omega)) (mx_ne (by omega)) (mSh_mc hI.1 (sq_sI sq_rf)) (qX_any hq0 (by omega)) _ _ _ _ _ _ _ _ _
    · skip
      obtain ⟨a, l, hr⟩ := pos_cons b_29
      refine jx_of (fun _ _ kz => jw_aload_n 0 d_M_choose_32 rfl rfl kz) ?_
      refine jx_callV (z_M_shiftInjector (d + 2) a l nt inj rg sl ([]) (mSh_mc hI.1 (sq_sI sq_rf))  (qX_any hq0 (by omega)) hr) mt_M_shiftInjector cf_M rfl rfl ml_M_207 im_M_shiftInjector se_M_shiftInjector d_M_choose_33 rfl rfl (Nat.le_of_ble_eq_true rfl) ?_
      rintro _ M3 ⟨rfl, q3, c3, t3⟩
      refine jx_eq (st2 := [.inl (nI a)]) rfl rfl rfl ?_
      refine jx_iret d_M_choose_36 rfl ?_
      exact chR hI (fw_mc (fw_sI fw_rf (by omega)) c3) (mc27 (mx_ne (by omega)) c3) ⟨_, _, _, q3⟩
