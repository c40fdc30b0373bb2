theorem rng (u : Int32) (n : Nat) (h : n < 100) : (u < 0 ∨ nI n - 1 < u) ∨ ∃ j, j < n ∧ u = nI j ∧ ¬ u < 0 ∧ ¬ nI n - 1 < u := by
  rcases Classical.em (u < 0) with a | a
  · exact Or.inl (Or.inl a)
  · rcases Classical.em (nI n - 1 < u) with b | b
    · exact Or.inl (Or.inr b)
    · right
      obtain ⟨j, hj, e⟩ := nI_of a
      refine ⟨j, ?_, e, a, b⟩
      rcases Nat.eq_zero_or_pos n with z | z
      · exfalso; rw [z] at b; apply b
        rw [show nI 0 - 1 = (-1 : Int32) from by decide, Int32.lt_iff_toInt_lt, e, nI_toInt hj]
        have : (-1 : Int32).toInt = -1 := by decide
        omega
      · rw [nI_p1 z, e] at b
        rcases Nat.lt_or_ge j n with c | c
        · exact c
        · exact absurd (nI_lt (by omega) hj) b
theorem qX_grow {M : Me} {nt : Nat} {X : List Nat} {v : Int32} (h : mQ M nt X) (h12 : nt < 12) : mQ (me_sI (me_sI (me_sI M 7 0 27 (nI (nt + 1))) 36 0 nt v) 33 0 nt 0) (nt + 1) X := by
  obtain ⟨inj, rg, sl, h⟩ := h
  have z : qC X inj rg sl nt = 0 := by
    rcases Nat.eq_zero_or_pos (qC X inj rg sl nt) with q | q
    · exact q
    · have := h.2.2.2.1.2.1 nt q; omega
  have h1 := qX_state (t := nt) (v := 0) (qX_any (s := 36) (k := nt) (v := v) (qX_any (s := 7) (k := 27) (v := nI (nt + 1)) h (by omega)) (by omega)) (Or.inr z)
  obtain ⟨a, b, c, ⟨e1, e2, e3⟩, f, g⟩ := h1
  refine ⟨inj, rg, sl, a, b, c, ⟨e1, fun x hx => by have := e2 x hx; omega, by omega⟩, f, fun t ht hs => ?_⟩
  rcases Nat.lt_or_ge t nt with q | q
  · exact g t q hs
  · rw [show t = nt by omega]; exact z
theorem iv_make {M : Me} {np nt pp : Nat} {X : List Nat} (h : mI M np nt X) (h12 : nt < 12) (hp : pp < np) : iv np nt (nt + 1) X M (me_sI (me_sI (me_sI M 7 0 27 (nI (nt + 1))) 36 0 nt (nI pp)) 33 0 nt 0) := by
  have hx : nt ∉ X := fun q => by
    obtain ⟨inj, rg, sl, h9⟩ := h.2.2.2.1
    have := h9.2.2.2.1.2.1 nt (by have := cm.mp q; unfold qC; omega)
    omega
  have o : ∀ s i k, ¬ (s = 7 ∧ k = 27) → ¬ (s = 36 ∧ k = nt) → ¬ (s = 33 ∧ k = nt) → me_I (me_sI (me_sI (me_sI M 7 0 27 (nI (nt + 1))) 36 0 nt (nI pp)) 33 0 nt 0) s i k = me_I M s i k := fun s i k a b c => by
    rw [mx_ne (by omega), mx_ne (by omega), mx_ne (by omega)]
  refine ⟨by omega, ⟨mSh_mc h.1 (sq_sI (sq_sI (sq_sI sq_rf))), mPr_o h.2.1 (fun s j q => o s 0 j (by omega) (by omega) (by omega)), ⟨by simp [me_I_sI], by omega, fun t ht => ?_⟩, qX_grow h.2.2.2.1 h12, wV_o h.2.2.2.2 (o 7 0 35 (by omega) (by omega) (by omega))⟩, ⟨sq_sI (sq_sI (sq_sI sq_rf)), fun s i k q => o s i k (by unfold kg at q; omega) (by unfold kg at q; omega) (by unfold kg at q; omega), fun t ht => o 36 0 t (by omega) (by omega) (by omega)⟩, fun s hs => ⟨o 38 0 s (by omega) (by omega) (by omega), o 33 0 s (by omega) (by omega) (fun q => hx (by rw [← q.2]; exact hs))⟩⟩
  rcases Nat.lt_or_ge t nt with q | q
  · rw [o 36 0 t (by omega) (by omega) (by omega)]; exact h.2.2.1.2.2 t q
  · exact ⟨pp, hp, by rw [show t = nt by omega]; simp [me_I_sI]⟩
set_option maxRecDepth 20000 in
set_option maxHeartbeats 4000000 in
theorem z_M_take {G : Gt} {M : Me} (d : Nat) (t : Nat) (x : Nat) (aa : Nat) (np : Nat) (nt : Nat) (X : List Nat) (hI : mI M np nt X) (ht : t < nt) (hx : x < 144) (ha : aa ≤ 5) : sx G yt_M_take yn_M_take (d + 6) [.inr (some (7, 0)), .inl (nI t), .inl (nI x), .inl (nI aa)] M (fun r M' => r = none ∧ iv np nt nt X M M') := by
  refine sx_of (k := 4) (lc := [some (.inr (some (7, 0))), some (.inl (nI t)), some (.inl (nI x)), some (.inl (nI aa)), none, none, none, none]) mt_M_take (Nat.le_of_ble_eq_true rfl) rfl ?_
  refine jx_of (fun _ _ kz => jw_iload_n 3 d_M_take_0 rfl rfl kz) ?_
  refine jx_of (fun _ _ kz => jw_iconst 2 d_M_take_1 (by decide) kz) ?_
  refine jx_of (fun _ _ kz => jw_irem d_M_take_2 (by decide) kz) ?_
  rw [show ((nI aa) - (nI aa) / 2 * 2 : Int32) = nI (aa % 2) from pk_rem (by omega) (by decide) (by decide)]
  refine jx_of (fun _ _ kz => jw_istore d_M_take_3 (Nat.le_of_ble_eq_true rfl) kz) ?_
  dsimp only [List.set]
  refine jx_of (fun _ _ kz => jw_iload_n 3 d_M_take_5 rfl rfl kz) ?_
  refine jx_callS (z_M_wants (d + 4) ((nI aa))) mt_M_wants ml_M_138 sm_M_wants d_M_take_6 rfl rfl (Nat.le_of_ble_eq_true rfl) ?_
  rintro _ _ ⟨rfl, rfl⟩
  refine jx_eq (st2 := [.inl (1 + ((nI aa) / 2))]) rfl rfl rfl ?_
  refine jx_of (fun _ _ kz => jw_istore d_M_take_9 (Nat.le_of_ble_eq_true rfl) kz) ?_
  dsimp only [List.set]
  refine jx_of (fun _ _ kz => jw_aload_n 0 d_M_take_11 rfl rfl kz) ?_
  refine jx_of (fun _ _ kz => jw_getPe (some (40, 0)) fl_M_41 d_M_take_12 rfl rfl (by simp [me_I_sI, me_I_sP, me_I_nx, me_P_sI, me_P_sP, me_P_nx, me_N_sI, me_N_sP, me_N_nx, me_L_sI, me_L_sP, me_L_nx, show me_P M 7 0 11 = some (40, 0) from hI.1.1 (7, 0, 11, 40, 0) (by decide)]) kz) ?_
  refine jx_of (fun _ _ kz => jw_iload_n 2 d_M_take_15 rfl rfl kz) ?_
  refine jx_of (fun _ _ kz => jw_ialde (me_I M 40 0 x) d_M_take_16 rfl rfl (by rw [show me_L _ 40 0 = 144 from (by simp [me_I_sI, me_I_sP, me_I_nx, me_P_sI, me_P_sP, me_P_nx, me_N_sI, me_N_sP, me_N_nx, me_L_sI, me_L_sP, me_L_nx, show me_L M 40 0 = 144 from hI.1.2 (40, 0, 144) (by decide)])]; exact (vp_in_nI hx (by decide))) (by rw [nI_clamp (by omega)] <;> simp [me_I_sI]) kz) ?_
  refine jx_if_ne 46 d_M_take_17 (by decide) (fun b_17 => ?_) (fun b_17 => ?_)
  · skip
    refine jx_of (fun _ _ kz => jw_iconst 0 d_M_take_46 (by decide) kz) ?_
    refine jx_of (fun _ _ kz => jw_istore d_M_take_47 (Nat.le_of_ble_eq_true rfl) kz) ?_
    dsimp only [List.set]
    refine jx_of (fun _ _ kz => jw_iload d_M_take_49 rfl kz) ?_
    refine jx_if_ne 63 d_M_take_51 (by decide) (fun h => absurd h (by decide)) (fun _ => ?_)
    refine jx_of (fun _ _ kz => jw_aload_n 0 d_M_take_54 rfl rfl kz) ?_
    refine jx_of (fun _ _ kz => jw_getPe (some (45, 0)) fl_M_56 d_M_take_55 rfl rfl (by simp [me_I_sI, me_I_sP, me_I_nx, me_P_sI, me_P_sP, me_P_nx, me_N_sI, me_N_sP, me_N_nx, me_L_sI, me_L_sP, me_L_nx, show me_P M 7 0 16 = some (45, 0) from hI.1.1 (7, 0, 16, 45, 0) (by decide)]) kz) ?_
    refine jx_of (fun _ _ kz => jw_iload_n 2 d_M_take_58 rfl rfl kz) ?_
    refine jx_of (fun _ _ kz => jw_zalde (me_I M 45 0 x) d_M_take_59 rfl rfl (by rw [show me_L _ 45 0 = 144 from (by simp [me_I_sI, me_I_sP, me_I_nx, me_P_sI, me_P_sP, me_P_nx, me_N_sI, me_N_sP, me_N_nx, me_L_sI, me_L_sP, me_L_nx, show me_L M 45 0 = 144 from hI.1.2 (45, 0, 144) (by decide)])]; exact (vp_in_nI hx (by decide))) (by rw [nI_clamp (by omega)] <;> simp [me_I_sI]) kz) ?_
    refine jx_if_eq 115 d_M_take_60 (by decide) (fun b_60 => ?_) (fun b_60 => ?_)
    · skip
      refine jx_of (fun _ _ kz => jw_aload_n 0 d_M_take_115 rfl rfl kz) ?_
      refine jx_of (fun _ _ kz => jw_getPe (some (40, 0)) fl_M_41 d_M_take_116 rfl rfl (by simp [me_I_sI, me_I_sP, me_I_nx, me_P_sI, me_P_sP, me_P_nx, me_N_sI, me_N_sP, me_N_nx, me_L_sI, me_L_sP, me_L_nx, show me_P M 7 0 11 = some (40, 0) from hI.1.1 (7, 0, 11, 40, 0) (by decide)]) kz) ?_
      refine jx_of (fun _ _ kz => jw_iload_n 2 d_M_take_119 rfl rfl kz) ?_
      refine jx_of (fun _ _ kz => jw_ialde (me_I M 40 0 x) d_M_take_120 rfl rfl (by rw [show me_L _ 40 0 = 144 from (by simp [me_I_sI, me_I_sP, me_I_nx, me_P_sI, me_P_sP, me_P_nx, me_N_sI, me_N_sP, me_N_nx, me_L_sI, me_L_sP, me_L_nx, show me_L M 40 0 = 144 from hI.1.2 (40, 0, 144) (by decide)])]; exact (vp_in_nI hx (by decide))) (by rw [nI_clamp (by omega)] <;> simp [me_I_sI]) kz) ?_
      refine jx_if_ne 169 d_M_take_121 (by decide) (fun b_121 => ?_) (fun b_121 => ?_)
      · skip
        refine jx_of (fun _ _ kz => jw_aload_n 0 d_M_take_169 rfl rfl kz) ?_
        refine jx_of (fun _ _ kz => jw_iload_n 2 d_M_take_170 rfl rfl kz) ?_
        refine jx_callV (z_M_pending (d + 4) x np nt X (by first | exact hI | exact (iv_sI (iv_sI (iv_sI (iv_sI (iv_sI (iv_rf hI) (by unfold hl; omega)) (by unfold hl; omega)) (by unfold hl; omega)) (by unfold hl; omega)) (by unfold hl; omega)).2.1)  hx) mt_M_pending cf_M rfl rfl ml_M_174 im_M_pending se_M_pending d_M_take_171 rfl rfl (Nat.le_of_ble_eq_true rfl) ?_
        rintro _ M2 ⟨rfl, h2⟩
        refine jx_eq (st2 := []) rfl rfl rfl ?_
        refine jx_vret d_M_take_174 rfl ?_
        first | exact ⟨rfl, iv_tr (iv_sI (iv_sI h1 (by unfold hl; omega)) (by unfold hl; omega)) h2⟩ | exact ⟨rfl, iv_tr (iv_sI h1 (by unfold hl; omega)) h2⟩ | exact ⟨rfl, h2⟩ | exact ⟨rfl, iv_tr (iv_sI (iv_sI (iv_sI (iv_sI (iv_sI (iv_rf hI) (by unfold hl; omega)) (by unfold hl; omega)) (by unfold hl; omega)) (by unfold hl; omega)) (by unfold hl; omega)) h2⟩
      · skip
        refine jx_of (fun _ _ kz => jw_aload_n 0 d_M_take_124 rfl rfl kz) ?_
        refine jx_of (fun _ _ kz => jw_getPe (some (42, 0)) fl_M_47 d_M_take_125 rfl rfl (by simp [me_I_sI, me_I_sP, me_I_nx, me_P_sI, me_P_sP, me_P_nx, me_N_sI, me_N_sP, me_N_nx, me_L_sI, me_L_sP, me_L_nx, show me_P M 7 0 13 = some (42, 0) from hI.1.1 (7, 0, 13, 42, 0) (by decide)]) kz) ?_
        refine jx_of (fun _ _ kz => jw_iload_n 2 d_M_take_128 rfl rfl kz) ?_
        refine jx_of (fun _ _ kz => jw_aload_n 0 d_M_take_129 rfl rfl kz) ?_
        refine jx_of (fun _ _ kz => jw_getPe (some (54, 0)) fl_M_83 d_M_take_130 rfl rfl (by simp [me_I_sI, me_I_sP, me_I_nx, me_P_sI, me_P_sP, me_P_nx, me_N_sI, me_N_sP, me_N_nx, me_L_sI, me_L_sP, me_L_nx, show me_P M 7 0 25 = some (54, 0) from hI.1.1 (7, 0, 25, 54, 0) (by decide)]) kz) ?_
        refine jx_of (fun _ _ kz => jw_iload d_M_take_133 rfl kz) ?_
        refine jx_of (fun _ _ kz => jw_ialde (me_I M 54 0 (aa % 2)) d_M_take_135 rfl rfl (by rw [show me_L _ 54 0 = 2 from (by simp [me_I_sI, me_I_sP, me_I_nx, me_P_sI, me_P_sP, me_P_nx, me_N_sI, me_N_sP, me_N_nx, me_L_sI, me_L_sP, me_L_nx, show me_L M 54 0 = 2 from hI.1.2 (54, 0, 2) (by decide)])]; exact (vp_in_nI (by omega) (by decide))) (by rw [nI_clamp (by omega)] <;> simp [me_I_sI]) kz) ?_
        refine jx_of (fun _ _ kz => jw_iast d_M_take_136 rfl rfl (by rw [show me_L _ 42 0 = 144 from (by simp [me_I_sI, me_I_sP, me_I_nx, me_P_sI, me_P_sP, me_P_nx, me_N_sI, me_N_sP, me_N_nx, me_L_sI, me_L_sP, me_L_nx, show me_L M 42 0 = 144 from hI.1.2 (42, 0, 144) (by decide)])]; exact (vp_in_nI hx (by decide))) kz) ?_
        rw [nI_clamp (by omega)]
        refine jx_of (fun _ _ kz => jw_aload_n 0 d_M_take_137 rfl rfl kz) ?_
        refine jx_of (fun _ _ kz => jw_getPe (some (54, 0)) fl_M_83 d_M_take_138 rfl rfl (by simp [me_I_sI, me_I_sP, me_I_nx, me_P_sI, me_P_sP, me_P_nx, me_N_sI, me_N_sP, me_N_nx, me_L_sI, me_L_sP, me_L_nx, show me_P M 7 0 25 = some (54, 0) from hI.1.1 (7, 0, 25, 54, 0) (by decide)]) kz) ?_
        refine jx_of (fun _ _ kz => jw_iload d_M_take_141 rfl kz) ?_
        refine jx_of (fun _ _ kz => jw_iconst 0 d_M_take_143 (by decide) kz) ?_
        refine jx_of (fun _ _ kz => jw_iast d_M_take_144 rfl rfl (by rw [show me_L _ 54 0 = 2 from (by simp [me_I_sI, me_I_sP, me_I_nx, me_P_sI, me_P_sP, me_P_nx, me_N_sI, me_N_sP, me_N_nx, me_L_sI, me_L_sP, me_L_nx, show me_L M 54 0 = 2 from hI.1.2 (54, 0, 2) (by decide)])]; exact (vp_in_nI (by omega) (by decide))) kz) ?_
        rw [nI_clamp (by omega)]
        refine jx_of (fun _ _ kz => jw_aload_n 0 d_M_take_145 rfl rfl kz) ?_
        refine jx_of (fun _ _ kz => jw_getPe (some (44, 0)) fl_M_53 d_M_take_146 rfl rfl (by simp [me_I_sI, me_I_sP, me_I_nx, me_P_sI, me_P_sP, me_P_nx, me_N_sI, me_N_sP, me_N_nx, me_L_sI, me_L_sP, me_L_nx, show me_P M 7 0 15 = some (44, 0) from hI.1.1 (7, 0, 15, 44, 0) (by decide)]) kz) ?_
        refine jx_of (fun _ _ kz => jw_iload_n 2 d_M_take_149 rfl rfl kz) ?_
        refine jx_of (fun _ _ kz => jw_iconst 1 d_M_take_150 (by decide) kz) ?_
        refine jx_of (fun _ _ kz => jw_zast d_M_take_151 rfl rfl (by rw [show me_L _ 44 0 = 144 from (by simp [me_I_sI, me_I_sP, me_I_nx, me_P_sI, me_P_sP, me_P_nx, me_N_sI, me_N_sP, me_N_nx, me_L_sI, me_L_sP, me_L_nx, show me_L M 44 0 = 144 from hI.1.2 (44, 0, 144) (by decide)])]; exact (vp_in_nI hx (by decide))) (by decide) kz) ?_
        rw [nI_clamp (by omega)]
        refine jx_of (fun _ _ kz => jw_aload_n 0 d_M_take_152 rfl rfl kz) ?_
        refine jx_of (fun _ _ kz => jw_getPe (some (43, 0)) fl_M_50 d_M_take_153 rfl rfl (by simp [me_I_sI, me_I_sP, me_I_nx, me_P_sI, me_P_sP, me_P_nx, me_N_sI, me_N_sP, me_N_nx, me_L_sI, me_L_sP, me_L_nx, show me_P M 7 0 14 = some (43, 0) from hI.1.1 (7, 0, 14, 43, 0) (by decide)]) kz) ?_
        refine jx_of (fun _ _ kz => jw_iload_n 2 d_M_take_156 rfl rfl kz) ?_
        refine jx_of (fun _ _ kz => jw_aload_n 0 d_M_take_157 rfl rfl kz) ?_
        refine jx_of (fun _ _ kz => jw_dup d_M_take_158 kz) ?_
        refine jx_of (fun _ _ kz => jw_getIe (me_I M 7 0 33) fl_M_192 d_M_take_159 rfl rfl (by simp [me_I_sI]) kz) ?_
        refine jx_of (fun _ _ kz => jw_dup_x1 d_M_take_162 kz) ?_
        refine jx_of (fun _ _ kz => jw_iconst 1 d_M_take_163 (by decide) kz) ?_
        refine jx_of (fun _ _ kz => jw_iadd d_M_take_164 kz) ?_
        refine jx_of (fun _ _ kz => jw_putI fl_M_192 (Or.inl rfl) rfl rfl d_M_take_165 rfl rfl kz) ?_
        refine jx_of (fun _ _ kz => jw_iast d_M_take_168 rfl rfl (by rw [show me_L _ 43 0 = 144 from (by simp [me_I_sI, me_I_sP, me_I_nx, me_P_sI, me_P_sP, me_P_nx, me_N_sI, me_N_sP, me_N_nx, me_L_sI, me_L_sP, me_L_nx, show me_L M 43 0 = 144 from hI.1.2 (43, 0, 144) (by decide)])]; exact (vp_in_nI hx (by decide))) kz) ?_
        rw [nI_clamp (by omega)]
        refine jx_of (fun _ _ kz => jw_aload_n 0 d_M_take_169 rfl rfl kz) ?_
        refine jx_of (fun _ _ kz => jw_iload_n 2 d_M_take_170 rfl rfl kz) ?_
        refine jx_callV (z_M_pending (d + 4) x np nt X (by first | exact hI | exact (iv_sI (iv_sI (iv_sI (iv_sI (iv_sI (iv_rf hI) (by unfold hl; omega)) (by unfold hl; omega)) (by unfold hl; omega)) (by unfold hl; omega)) (by unfold hl; omega)).2.1)  hx) mt_M_pending cf_M rfl rfl ml_M_174 im_M_pending se_M_pending d_M_take_171 rfl rfl (Nat.le_of_ble_eq_true rfl) ?_
        rintro _ M2 ⟨rfl, h2⟩
        refine jx_eq (st2 := []) rfl rfl rfl ?_
        refine jx_vret d_M_take_174 rfl ?_
        first | exact ⟨rfl, iv_tr (iv_sI (iv_sI h1 (by unfold hl; omega)) (by unfold hl; omega)) h2⟩ | exact ⟨rfl, iv_tr (iv_sI h1 (by unfold hl; omega)) h2⟩ | exact ⟨rfl, h2⟩ | exact ⟨rfl, iv_tr (iv_sI (iv_sI (iv_sI (iv_sI (iv_sI (iv_rf hI) (by unfold hl; omega)) (by unfold hl; omega)) (by unfold hl; omega)) (by unfold hl; omega)) (by unfold hl; omega)) h2⟩
    · skip
      refine jx_of (fun _ _ kz => jw_aload_n 0 d_M_take_63 rfl rfl kz) ?_
      refine jx_of (fun _ _ kz => jw_iload_n 1 d_M_take_64 rfl rfl kz) ?_
      refine jx_callV (z_M_spends d t np nt X hI  ht) mt_M_spends cf_M rfl rfl ml_M_180 im_M_spends se_M_spends d_M_take_65 rfl rfl (Nat.le_of_ble_eq_true rfl) ?_
      rintro r M1 ⟨hr, h1⟩
      obtain ⟨rv, rfl⟩ : ∃ v : Int32, r = some (.inl v) := by rcases hr with hr | hr; exact ⟨_, hr⟩; exact ⟨_, hr⟩
      refine jx_eq (st2 := [.inl rv]) rfl rfl rfl ?_
      refine jx_of (fun _ _ kz => jw_istore d_M_take_68 (Nat.le_of_ble_eq_true rfl) kz) ?_
      dsimp only [List.set]
      refine jx_of (fun _ _ kz => jw_iload d_M_take_70 rfl kz) ?_
      refine jx_if_ne 81 d_M_take_72 (by decide) (fun b_72 => ?_) (fun b_72 => ?_)
      · skip
        refine jx_of (fun _ _ kz => jw_iload d_M_take_81 rfl kz) ?_
        refine jx_if_eq 98 d_M_take_83 (by decide) (fun _ => ?_) (fun h => absurd h (by decide))
        refine jx_of (fun _ _ kz => jw_aload_n 0 d_M_take_98 rfl rfl kz) ?_
        refine jx_of (fun _ _ kz => jw_getPe (some (45, 0)) fl_M_56 d_M_take_99 rfl rfl (by simp [me_I_sI, me_I_sP, me_I_nx, me_P_sI, me_P_sP, me_P_nx, me_N_sI, me_N_sP, me_N_nx, me_L_sI, me_L_sP, me_L_nx, show me_P M1 7 0 16 = some (45, 0) from h1.2.1.1.1 (7, 0, 16, 45, 0) (by decide)]) kz) ?_
        refine jx_of (fun _ _ kz => jw_iload_n 2 d_M_take_102 rfl rfl kz) ?_
        refine jx_of (fun _ _ kz => jw_iconst 0 d_M_take_103 (by decide) kz) ?_
        refine jx_of (fun _ _ kz => jw_zast d_M_take_104 rfl rfl (by rw [show me_L _ 45 0 = 144 from (by simp [me_I_sI, me_I_sP, me_I_nx, me_P_sI, me_P_sP, me_P_nx, me_N_sI, me_N_sP, me_N_nx, me_L_sI, me_L_sP, me_L_nx, show me_L M1 45 0 = 144 from h1.2.1.1.2 (45, 0, 144) (by decide)])]; exact (vp_in_nI hx (by decide))) (by decide) kz) ?_
        rw [nI_clamp (by omega)]
        refine jx_of (fun _ _ kz => jw_aload_n 0 d_M_take_105 rfl rfl kz) ?_
        refine jx_of (fun _ _ kz => jw_iload_n 2 d_M_take_106 rfl rfl kz) ?_
        refine jx_of (fun _ _ kz => jw_iload d_M_take_107 rfl kz) ?_
        refine jx_callV (z_M_ready (d + 4) x ((1 + ((nI aa) / 2))) np nt X (by first | exact (iv_sI (iv_sI h1 (by unfold hl; omega)) (by unfold hl; omega)).2.1 | exact (iv_sI h1 (by unfold hl; omega)).2.1)  hx) mt_M_ready cf_M rfl rfl ml_M_171 im_M_ready se_M_ready d_M_take_109 rfl rfl (Nat.le_of_ble_eq_true rfl) ?_
        rintro _ M2 ⟨rfl, h2⟩
        refine jx_eq (st2 := []) rfl rfl rfl ?_
        refine jx_of (fun _ _ kz => jw_goto 174 d_M_take_112 (by decide) kz) ?_
        refine jx_vret d_M_take_174 rfl ?_
        first | exact ⟨rfl, iv_tr (iv_sI (iv_sI h1 (by unfold hl; omega)) (by unfold hl; omega)) h2⟩ | exact ⟨rfl, iv_tr (iv_sI h1 (by unfold hl; omega)) h2⟩ | exact ⟨rfl, h2⟩ | exact ⟨rfl, iv_tr (iv_sI (iv_sI (iv_sI (iv_sI (iv_sI (iv_rf hI) (by unfold hl; omega)) (by unfold hl; omega)) (by unfold hl; omega)) (by unfold hl; omega)) (by unfold hl; omega)) h2⟩
      · skip
        refine jx_of (fun _ _ kz => jw_aload_n 0 d_M_take_75 rfl rfl kz) ?_
        refine jx_of (fun _ _ kz => jw_iconst 1 d_M_take_76 (by decide) kz) ?_
        refine jx_of (fun _ _ kz => jw_putI fl_M_151 (Or.inl rfl) rfl rfl d_M_take_77 rfl rfl kz) ?_
        refine jx_vret d_M_take_80 rfl ?_
        exact ⟨rfl, (iv_sI h1 (by unfold hl; omega))⟩
  · skip
    refine jx_of (fun _ _ kz => jw_aload_n 0 d_M_take_20 rfl rfl kz) ?_
    refine jx_of (fun _ _ kz => jw_getPe (some (54, 0)) fl_M_83 d_M_take_21 rfl rfl (by simp [me_I_sI, me_I_sP, me_I_nx, me_P_sI, me_P_sP, me_P_nx, me_N_sI, me_N_sP, me_N_nx, me_L_sI, me_L_sP, me_L_nx, show me_P M 7 0 25 = some (54, 0) from hI.1.1 (7, 0, 25, 54, 0) (by decide)]) kz) ?_
    refine jx_of (fun _ _ kz => jw_iload d_M_take_24 rfl kz) ?_
    refine jx_of (fun _ _ kz => jw_ialde (me_I M 54 0 (aa % 2)) d_M_take_26 rfl rfl (by rw [show me_L _ 54 0 = 2 from (by simp [me_I_sI, me_I_sP, me_I_nx, me_P_sI, me_P_sP, me_P_nx, me_N_sI, me_N_sP, me_N_nx, me_L_sI, me_L_sP, me_L_nx, show me_L M 54 0 = 2 from hI.1.2 (54, 0, 2) (by decide)])]; exact (vp_in_nI (by omega) (by decide))) (by rw [nI_clamp (by omega)] <;> simp [me_I_sI]) kz) ?_
    refine jx_of (fun _ _ kz => jw_iload d_M_take_27 rfl kz) ?_
    refine jx_icmp_lt 46 d_M_take_29 (by decide) (fun b_29 => ?_) (fun b_29 => ?_)
    · skip
      refine jx_of (fun _ _ kz => jw_iconst 0 d_M_take_46 (by decide) kz) ?_
      refine jx_of (fun _ _ kz => jw_istore d_M_take_47 (Nat.le_of_ble_eq_true rfl) kz) ?_
      dsimp only [List.set]
      refine jx_of (fun _ _ kz => jw_iload d_M_take_49 rfl kz) ?_
      refine jx_if_ne 63 d_M_take_51 (by decide) (fun h => absurd h (by decide)) (fun _ => ?_)
      refine jx_of (fun _ _ kz => jw_aload_n 0 d_M_take_54 rfl rfl kz) ?_
      refine jx_of (fun _ _ kz => jw_getPe (some (45, 0)) fl_M_56 d_M_take_55 rfl rfl (by simp [me_I_sI, me_I_sP, me_I_nx, me_P_sI, me_P_sP, me_P_nx, me_N_sI, me_N_sP, me_N_nx, me_L_sI, me_L_sP, me_L_nx, show me_P M 7 0 16 = some (45, 0) from hI.1.1 (7, 0, 16, 45, 0) (by decide)]) kz) ?_
      refine jx_of (fun _ _ kz => jw_iload_n 2 d_M_take_58 rfl rfl kz) ?_
      refine jx_of (fun _ _ kz => jw_zalde (me_I M 45 0 x) d_M_take_59 rfl rfl (by rw [show me_L _ 45 0 = 144 from (by simp [me_I_sI, me_I_sP, me_I_nx, me_P_sI, me_P_sP, me_P_nx, me_N_sI, me_N_sP, me_N_nx, me_L_sI, me_L_sP, me_L_nx, show me_L M 45 0 = 144 from hI.1.2 (45, 0, 144) (by decide)])]; exact (vp_in_nI hx (by decide))) (by rw [nI_clamp (by omega)] <;> simp [me_I_sI]) kz) ?_
      refine jx_if_eq 115 d_M_take_60 (by decide) (fun b_60 => ?_) (fun b_60 => ?_)
      · skip
        refine jx_of (fun _ _ kz => jw_aload_n 0 d_M_take_115 rfl rfl kz) ?_
        refine jx_of (fun _ _ kz => jw_getPe (some (40, 0)) fl_M_41 d_M_take_116 rfl rfl (by simp [me_I_sI, me_I_sP, me_I_nx, me_P_sI, me_P_sP, me_P_nx, me_N_sI, me_N_sP, me_N_nx, me_L_sI, me_L_sP, me_L_nx, show me_P M 7 0 11 = some (40, 0) from hI.1.1 (7, 0, 11, 40, 0) (by decide)]) kz) ?_
        refine jx_of (fun _ _ kz => jw_iload_n 2 d_M_take_119 rfl rfl kz) ?_
        refine jx_of (fun _ _ kz => jw_ialde (me_I M 40 0 x) d_M_take_120 rfl rfl (by rw [show me_L _ 40 0 = 144 from (by simp [me_I_sI, me_I_sP, me_I_nx, me_P_sI, me_P_sP, me_P_nx, me_N_sI, me_N_sP, me_N_nx, me_L_sI, me_L_sP, me_L_nx, show me_L M 40 0 = 144 from hI.1.2 (40, 0, 144) (by decide)])]; exact (vp_in_nI hx (by decide))) (by rw [nI_clamp (by omega)] <;> simp [me_I_sI]) kz) ?_
        refine jx_if_ne 169 d_M_take_121 (by decide) (fun b_121 => ?_) (fun b_121 => ?_)
        · skip
          refine jx_of (fun _ _ kz => jw_aload_n 0 d_M_take_169 rfl rfl kz) ?_
          refine jx_of (fun _ _ kz => jw_iload_n 2 d_M_take_170 rfl rfl kz) ?_
          refine jx_callV (z_M_pending (d + 4) x np nt X (by first | exact hI | exact (iv_sI (iv_sI (iv_sI (iv_sI (iv_sI (iv_rf hI) (by unfold hl; omega)) (by unfold hl; omega)) (by unfold hl; omega)) (by unfold hl; omega)) (by unfold hl; omega)).2.1)  hx) mt_M_pending cf_M rfl rfl ml_M_174 im_M_pending se_M_pending d_M_take_171 rfl rfl (Nat.le_of_ble_eq_true rfl) ?_
          rintro _ M2 ⟨rfl, h2⟩
          refine jx_eq (st2 := []) rfl rfl rfl ?_
          refine jx_vret d_M_take_174 rfl ?_
          first | exact ⟨rfl, iv_tr (iv_sI (iv_sI h1 (by unfold hl; omega)) (by unfold hl; omega)) h2⟩ | exact ⟨rfl, iv_tr (iv_sI h1 (by unfold hl; omega)) h2⟩ | exact ⟨rfl, h2⟩ | exact ⟨rfl, iv_tr (iv_sI (iv_sI (iv_sI (iv_sI (iv_sI (iv_rf hI) (by unfold hl; omega)) (by unfold hl; omega)) (by unfold hl; omega)) (by unfold hl; omega)) (by unfold hl; omega)) h2⟩
        · skip
          refine jx_of (fun _ _ kz => jw_aload_n 0 d_M_take_124 rfl rfl kz) ?_
          refine jx_of (fun _ _ kz => jw_getPe (some (42, 0)) fl_M_47 d_M_take_125 rfl rfl (by simp [me_I_sI, me_I_sP, me_I_nx, me_P_sI, me_P_sP, me_P_nx, me_N_sI, me_N_sP, me_N_nx, me_L_sI, me_L_sP, me_L_nx, show me_P M 7 0 13 = some (42, 0) from hI.1.1 (7, 0, 13, 42, 0) (by decide)]) kz) ?_
          refine jx_of (fun _ _ kz => jw_iload_n 2 d_M_take_128 rfl rfl kz) ?_
          refine jx_of (fun _ _ kz => jw_aload_n 0 d_M_take_129 rfl rfl kz) ?_
          refine jx_of (fun _ _ kz => jw_getPe (some (54, 0)) fl_M_83 d_M_take_130 rfl rfl (by simp [me_I_sI, me_I_sP, me_I_nx, me_P_sI, me_P_sP, me_P_nx, me_N_sI, me_N_sP, me_N_nx, me_L_sI, me_L_sP, me_L_nx, show me_P M 7 0 25 = some (54, 0) from hI.1.1 (7, 0, 25, 54, 0) (by decide)]) kz) ?_
          refine jx_of (fun _ _ kz => jw_iload d_M_take_133 rfl kz) ?_
          refine jx_of (fun _ _ kz => jw_ialde (me_I M 54 0 (aa % 2)) d_M_take_135 rfl rfl (by rw [show me_L _ 54 0 = 2 from (by simp [me_I_sI, me_I_sP, me_I_nx, me_P_sI, me_P_sP, me_P_nx, me_N_sI, me_N_sP, me_N_nx, me_L_sI, me_L_sP, me_L_nx, show me_L M 54 0 = 2 from hI.1.2 (54, 0, 2) (by decide)])]; exact (vp_in_nI (by omega) (by decide))) (by rw [nI_clamp (by omega)] <;> simp [me_I_sI]) kz) ?_
          refine jx_of (fun _ _ kz => jw_iast d_M_take_136 rfl rfl (by rw [show me_L _ 42 0 = 144 from (by simp [me_I_sI, me_I_sP, me_I_nx, me_P_sI, me_P_sP, me_P_nx, me_N_sI, me_N_sP, me_N_nx, me_L_sI, me_L_sP, me_L_nx, show me_L M 42 0 = 144 from hI.1.2 (42, 0, 144) (by decide)])]; exact (vp_in_nI hx (by decide))) kz) ?_
          rw [nI_clamp (by omega)]
          refine jx_of (fun _ _ kz => jw_aload_n 0 d_M_take_137 rfl rfl kz) ?_
          refine jx_of (fun _ _ kz => jw_getPe (some (54, 0)) fl_M_83 d_M_take_138 rfl rfl (by simp [me_I_sI, me_I_sP, me_I_nx, me_P_sI, me_P_sP, me_P_nx, me_N_sI, me_N_sP, me_N_nx, me_L_sI, me_L_sP, me_L_nx, show me_P M 7 0 25 = some (54, 0) from hI.1.1 (7, 0, 25, 54, 0) (by decide)]) kz) ?_
          refine jx_of (fun _ _ kz => jw_iload d_M_take_141 rfl kz) ?_
          refine jx_of (fun _ _ kz => jw_iconst 0 d_M_take_143 (by decide) kz) ?_
          refine jx_of (fun _ _ kz => jw_iast d_M_take_144 rfl rfl (by rw [show me_L _ 54 0 = 2 from (by simp [me_I_sI, me_I_sP, me_I_nx, me_P_sI, me_P_sP, me_P_nx, me_N_sI, me_N_sP, me_N_nx, me_L_sI, me_L_sP, me_L_nx, show me_L M 54 0 = 2 from hI.1.2 (54, 0, 2) (by decide)])]; exact (vp_in_nI (by omega) (by decide))) kz) ?_
          rw [nI_clamp (by omega)]
          refine jx_of (fun _ _ kz => jw_aload_n 0 d_M_take_145 rfl rfl kz) ?_
          refine jx_of (fun _ _ kz => jw_getPe (some (44, 0)) fl_M_53 d_M_take_146 rfl rfl (by simp [me_I_sI, me_I_sP, me_I_nx, me_P_sI, me_P_sP, me_P_nx, me_N_sI, me_N_sP, me_N_nx, me_L_sI, me_L_sP, me_L_nx, show me_P M 7 0 15 = some (44, 0) from hI.1.1 (7, 0, 15, 44, 0) (by decide)]) kz) ?_
          refine jx_of (fun _ _ kz => jw_iload_n 2 d_M_take_149 rfl rfl kz) ?_
          refine jx_of (fun _ _ kz => jw_iconst 1 d_M_take_150 (by decide) kz) ?_
          refine jx_of (fun _ _ kz => jw_zast d_M_take_151 rfl rfl (by rw [show me_L _ 44 0 = 144 from (by simp [me_I_sI, me_I_sP, me_I_nx, me_P_sI, me_P_sP, me_P_nx, me_N_sI, me_N_sP, me_N_nx, me_L_sI, me_L_sP, me_L_nx, show me_L M 44 0 = 144 from hI.1.2 (44, 0, 144) (by decide)])]; exact (vp_in_nI hx (by decide))) (by decide) kz) ?_
          rw [nI_clamp (by omega)]
          refine jx_of (fun _ _ kz => jw_aload_n 0 d_M_take_152 rfl rfl kz) ?_
          refine jx_of (fun _ _ kz => jw_getPe (some (43, 0)) fl_M_50 d_M_take_153 rfl rfl (by simp [me_I_sI, me_I_sP, me_I_nx, me_P_sI, me_P_sP, me_P_nx, me_N_sI, me_N_sP, me_N_nx, me_L_sI, me_L_sP, me_L_nx, show me_P M 7 0 14 = some (43, 0) from hI.1.1 (7, 0, 14, 43, 0) (by decide)]) kz) ?_
          refine jx_of (fun _ _ kz => jw_iload_n 2 d_M_take_156 rfl rfl kz) ?_
          refine jx_of (fun _ _ kz => jw_aload_n 0 d_M_take_157 rfl rfl kz) ?_
          refine jx_of (fun _ _ kz => jw_dup d_M_take_158 kz) ?_
          refine jx_of (fun _ _ kz => jw_getIe (me_I M 7 0 33) fl_M_192 d_M_take_159 rfl rfl (by simp [me_I_sI]) kz) ?_
          refine jx_of (fun _ _ kz => jw_dup_x1 d_M_take_162 kz) ?_
          refine jx_of (fun _ _ kz => jw_iconst 1 d_M_take_163 (by decide) kz) ?_
          refine jx_of (fun _ _ kz => jw_iadd d_M_take_164 kz) ?_
          refine jx_of (fun _ _ kz => jw_putI fl_M_192 (Or.inl rfl) rfl rfl d_M_take_165 rfl rfl kz) ?_
          refine jx_of (fun _ _ kz => jw_iast d_M_take_168 rfl rfl (by rw [show me_L _ 43 0 = 144 from (by simp [me_I_sI, me_I_sP, me_I_nx, me_P_sI, me_P_sP, me_P_nx, me_N_sI, me_N_sP, me_N_nx, me_L_sI, me_L_sP, me_L_nx, show me_L M 43 0 = 144 from hI.1.2 (43, 0, 144) (by decide)])]; exact (vp_in_nI hx (by decide))) kz) ?_
          rw [nI_clamp (by omega)]
          refine jx_of (fun _ _ kz => jw_aload_n 0 d_M_take_169 rfl rfl kz) ?_
          refine jx_of (fun _ _ kz => jw_iload_n 2 d_M_take_170 rfl rfl kz) ?_
          refine jx_callV (z_M_pending (d + 4) x np nt X (by first | exact hI | exact (iv_sI (iv_sI (iv_sI (iv_sI (iv_sI (iv_rf hI) (by unfold hl; omega)) (by unfold hl; omega)) (by unfold hl; omega)) (by unfold hl; omega)) (by unfold hl; omega)).2.1)  hx) mt_M_pending cf_M rfl rfl ml_M_174 im_M_pending se_M_pending d_M_take_171 rfl rfl (Nat.le_of_ble_eq_true rfl) ?_
          rintro _ M2 ⟨rfl, h2⟩
          refine jx_eq (st2 := []) rfl rfl rfl ?_
          refine jx_vret d_M_take_174 rfl ?_
          first | exact ⟨rfl, iv_tr (iv_sI (iv_sI h1 (by unfold hl; omega)) (by unfold hl; omega)) h2⟩ | exact ⟨rfl, iv_tr (iv_sI h1 (by unfold hl; omega)) h2⟩ | exact ⟨rfl, h2⟩ | exact ⟨rfl, iv_tr (iv_sI (iv_sI (iv_sI (iv_sI (iv_sI (iv_rf hI) (by unfold hl; omega)) (by unfold hl; omega)) (by unfold hl; omega)) (by unfold hl; omega)) (by unfold hl; omega)) h2⟩
      · skip
        refine jx_of (fun _ _ kz => jw_aload_n 0 d_M_take_63 rfl rfl kz) ?_
        refine jx_of (fun _ _ kz => jw_iload_n 1 d_M_take_64 rfl rfl kz) ?_
        refine jx_callV (z_M_spends d t np nt X hI  ht) mt_M_spends cf_M rfl rfl ml_M_180 im_M_spends se_M_spends d_M_take_65 rfl rfl (Nat.le_of_ble_eq_true rfl) ?_
        rintro r M1 ⟨hr, h1⟩
        obtain ⟨rv, rfl⟩ : ∃ v : Int32, r = some (.inl v) := by rcases hr with hr | hr; exact ⟨_, hr⟩; exact ⟨_, hr⟩
        refine jx_eq (st2 := [.inl rv]) rfl rfl rfl ?_
        refine jx_of (fun _ _ kz => jw_istore d_M_take_68 (Nat.le_of_ble_eq_true rfl) kz) ?_
        dsimp only [List.set]
        refine jx_of (fun _ _ kz => jw_iload d_M_take_70 rfl kz) ?_
        refine jx_if_ne 81 d_M_take_72 (by decide) (fun b_72 => ?_) (fun b_72 => ?_)
        · skip
          refine jx_of (fun _ _ kz => jw_iload d_M_take_81 rfl kz) ?_
          refine jx_if_eq 98 d_M_take_83 (by decide) (fun _ => ?_) (fun h => absurd h (by decide))
          refine jx_of (fun _ _ kz => jw_aload_n 0 d_M_take_98 rfl rfl kz) ?_
          refine jx_of (fun _ _ kz => jw_getPe (some (45, 0)) fl_M_56 d_M_take_99 rfl rfl (by simp [me_I_sI, me_I_sP, me_I_nx, me_P_sI, me_P_sP, me_P_nx, me_N_sI, me_N_sP, me_N_nx, me_L_sI, me_L_sP, me_L_nx, show me_P M1 7 0 16 = some (45, 0) from h1.2.1.1.1 (7, 0, 16, 45, 0) (by decide)]) kz) ?_
          refine jx_of (fun _ _ kz => jw_iload_n 2 d_M_take_102 rfl rfl kz) ?_
          refine jx_of (fun _ _ kz => jw_iconst 0 d_M_take_103 (by decide) kz) ?_
          refine jx_of (fun _ _ kz => jw_zast d_M_take_104 rfl rfl (by rw [show me_L _ 45 0 = 144 from (by simp [me_I_sI, me_I_sP, me_I_nx, me_P_sI, me_P_sP, me_P_nx, me_N_sI, me_N_sP, me_N_nx, me_L_sI, me_L_sP, me_L_nx, show me_L M1 45 0 = 144 from h1.2.1.1.2 (45, 0, 144) (by decide)])]; exact (vp_in_nI hx (by decide))) (by decide) kz) ?_
          rw [nI_clamp (by omega)]
          refine jx_of (fun _ _ kz => jw_aload_n 0 d_M_take_105 rfl rfl kz) ?_
          refine jx_of (fun _ _ kz => jw_iload_n 2 d_M_take_106 rfl rfl kz) ?_
          refine jx_of (fun _ _ kz => jw_iload d_M_take_107 rfl kz) ?_
          refine jx_callV (z_M_ready (d + 4) x ((1 + ((nI aa) / 2))) np nt X (by first | exact (iv_sI (iv_sI h1 (by unfold hl; omega)) (by unfold hl; omega)).2.1 | exact (iv_sI h1 (by unfold hl; omega)).2.1)  hx) mt_M_ready cf_M rfl rfl ml_M_171 im_M_ready se_M_ready d_M_take_109 rfl rfl (Nat.le_of_ble_eq_true rfl) ?_
          rintro _ M2 ⟨rfl, h2⟩
          refine jx_eq (st2 := []) rfl rfl rfl ?_
          refine jx_of (fun _ _ kz => jw_goto 174 d_M_take_112 (by decide) kz) ?_
          refine jx_vret d_M_take_174 rfl ?_
          first | exact ⟨rfl, iv_tr (iv_sI (iv_sI h1 (by unfold hl; omega)) (by unfold hl; omega)) h2⟩ | exact ⟨rfl, iv_tr (iv_sI h1 (by unfold hl; omega)) h2⟩ | exact ⟨rfl, h2⟩ | exact ⟨rfl, iv_tr (iv_sI (iv_sI (iv_sI (iv_sI (iv_sI (iv_rf hI) (by unfold hl; omega)) (by unfold hl; omega)) (by unfold hl; omega)) (by unfold hl; omega)) (by unfold hl; omega)) h2⟩
        · skip
          refine jx_of (fun _ _ kz => jw_aload_n 0 d_M_take_75 rfl rfl kz) ?_
          refine jx_of (fun _ _ kz => jw_iconst 1 d_M_take_76 (by decide) kz) ?_
          refine jx_of (fun _ _ kz => jw_putI fl_M_151 (Or.inl rfl) rfl rfl d_M_take_77 rfl rfl kz) ?_
          refine jx_vret d_M_take_80 rfl ?_
          exact ⟨rfl, (iv_sI h1 (by unfold hl; omega))⟩
    · skip
      refine jx_of (fun _ _ kz => jw_aload_n 0 d_M_take_32 rfl rfl kz) ?_
      refine jx_of (fun _ _ kz => jw_iconst 3 d_M_take_33 (by decide) kz) ?_
      refine jx_of (fun _ _ kz => jw_iload d_M_take_34 rfl kz) ?_
      refine jx_callV (z_M_firstAt (d + 3) 3 ((nI (aa % 2))) np nt hI.1  hI.2.1 hI.2.2.1) mt_M_firstAt cf_M rfl rfl ml_M_135 im_M_firstAt se_M_firstAt d_M_take_36 rfl rfl (Nat.le_of_ble_eq_true rfl) ?_
      rintro _ _ ⟨⟨ks, rfl, hb⟩, rfl⟩
      refine jx_eq (st2 := [.inl ks]) rfl rfl rfl ?_
      refine jx_if_ge 46 d_M_take_39 (by decide) (fun b_39 => ?_) (fun b_39 => ?_)
      · skip
        refine jx_of (fun _ _ kz => jw_iconst 0 d_M_take_46 (by decide) kz) ?_
        refine jx_of (fun _ _ kz => jw_istore d_M_take_47 (Nat.le_of_ble_eq_true rfl) kz) ?_
        dsimp only [List.set]
        refine jx_of (fun _ _ kz => jw_iload d_M_take_49 rfl kz) ?_
        refine jx_if_ne 63 d_M_take_51 (by decide) (fun h => absurd h (by decide)) (fun _ => ?_)
        refine jx_of (fun _ _ kz => jw_aload_n 0 d_M_take_54 rfl rfl kz) ?_
        refine jx_of (fun _ _ kz => jw_getPe (some (45, 0)) fl_M_56 d_M_take_55 rfl rfl (by simp [me_I_sI, me_I_sP, me_I_nx, me_P_sI, me_P_sP, me_P_nx, me_N_sI, me_N_sP, me_N_nx, me_L_sI, me_L_sP, me_L_nx, show me_P M 7 0 16 = some (45, 0) from hI.1.1 (7, 0, 16, 45, 0) (by decide)]) kz) ?_
        refine jx_of (fun _ _ kz => jw_iload_n 2 d_M_take_58 rfl rfl kz) ?_
        refine jx_of (fun _ _ kz => jw_zalde (me_I M 45 0 x) d_M_take_59 rfl rfl (by rw [show me_L _ 45 0 = 144 from (by simp [me_I_sI, me_I_sP, me_I_nx, me_P_sI, me_P_sP, me_P_nx, me_N_sI, me_N_sP, me_N_nx, me_L_sI, me_L_sP, me_L_nx, show me_L M 45 0 = 144 from hI.1.2 (45, 0, 144) (by decide)])]; exact (vp_in_nI hx (by decide))) (by rw [nI_clamp (by omega)] <;> simp [me_I_sI]) kz) ?_
        refine jx_if_eq 115 d_M_take_60 (by decide) (fun b_60 => ?_) (fun b_60 => ?_)
        · skip
          refine jx_of (fun _ _ kz => jw_aload_n 0 d_M_take_115 rfl rfl kz) ?_
          refine jx_of (fun _ _ kz => jw_getPe (some (40, 0)) fl_M_41 d_M_take_116 rfl rfl (by simp [me_I_sI, me_I_sP, me_I_nx, me_P_sI, me_P_sP, me_P_nx, me_N_sI, me_N_sP, me_N_nx, me_L_sI, me_L_sP, me_L_nx, show me_P M 7 0 11 = some (40, 0) from hI.1.1 (7, 0, 11, 40, 0) (by decide)]) kz) ?_
          refine jx_of (fun _ _ kz => jw_iload_n 2 d_M_take_119 rfl rfl kz) ?_
          refine jx_of (fun _ _ kz => jw_ialde (me_I M 40 0 x) d_M_take_120 rfl rfl (by rw [show me_L _ 40 0 = 144 from (by simp [me_I_sI, me_I_sP, me_I_nx, me_P_sI, me_P_sP, me_P_nx, me_N_sI, me_N_sP, me_N_nx, me_L_sI, me_L_sP, me_L_nx, show me_L M 40 0 = 144 from hI.1.2 (40, 0, 144) (by decide)])]; exact (vp_in_nI hx (by decide))) (by rw [nI_clamp (by omega)] <;> simp [me_I_sI]) kz) ?_
          refine jx_if_ne 169 d_M_take_121 (by decide) (fun b_121 => ?_) (fun b_121 => ?_)
          · skip
            refine jx_of (fun _ _ kz => jw_aload_n 0 d_M_take_169 rfl rfl kz) ?_
            refine jx_of (fun _ _ kz => jw_iload_n 2 d_M_take_170 rfl rfl kz) ?_
            refine jx_callV (z_M_pending (d + 4) x np nt X (by first | exact hI | exact (iv_sI (iv_sI (iv_sI (iv_sI (iv_sI (iv_rf hI) (by unfold hl; omega)) (by unfold hl; omega)) (by unfold hl; omega)) (by unfold hl; omega)) (by unfold hl; omega)).2.1)  hx) mt_M_pending cf_M rfl rfl ml_M_174 im_M_pending se_M_pending d_M_take_171 rfl rfl (Nat.le_of_ble_eq_true rfl) ?_
            rintro _ M2 ⟨rfl, h2⟩
            refine jx_eq (st2 := []) rfl rfl rfl ?_
            refine jx_vret d_M_take_174 rfl ?_
            first | exact ⟨rfl, iv_tr (iv_sI (iv_sI h1 (by unfold hl; omega)) (by unfold hl; omega)) h2⟩ | exact ⟨rfl, iv_tr (iv_sI h1 (by unfold hl; omega)) h2⟩ | exact ⟨rfl, h2⟩ | exact ⟨rfl, iv_tr (iv_sI (iv_sI (iv_sI (iv_sI (iv_sI (iv_rf hI) (by unfold hl; omega)) (by unfold hl; omega)) (by unfold hl; omega)) (by unfold hl; omega)) (by unfold hl; omega)) h2⟩
          · skip
            refine jx_of (fun _ _ kz => jw_aload_n 0 d_M_take_124 rfl rfl kz) ?_
            refine jx_of (fun _ _ kz => jw_getPe (some (42, 0)) fl_M_47 d_M_take_125 rfl rfl (by simp [me_I_sI, me_I_sP, me_I_nx, me_P_sI, me_P_sP, me_P_nx, me_N_sI, me_N_sP, me_N_nx, me_L_sI, me_L_sP, me_L_nx, show me_P M 7 0 13 = some (42, 0) from hI.1.1 (7, 0, 13, 42, 0) (by decide)]) kz) ?_
            refine jx_of (fun _ _ kz => jw_iload_n 2 d_M_take_128 rfl rfl kz) ?_
            refine jx_of (fun _ _ kz => jw_aload_n 0 d_M_take_129 rfl rfl kz) ?_
            refine jx_of (fun _ _ kz => jw_getPe (some (54, 0)) fl_M_83 d_M_take_130 rfl rfl (by simp [me_I_sI, me_I_sP, me_I_nx, me_P_sI, me_P_sP, me_P_nx, me_N_sI, me_N_sP, me_N_nx, me_L_sI, me_L_sP, me_L_nx, show me_P M 7 0 25 = some (54, 0) from hI.1.1 (7, 0, 25, 54, 0) (by decide)]) kz) ?_
            refine jx_of (fun _ _ kz => jw_iload d_M_take_133 rfl kz) ?_
            refine jx_of (fun _ _ kz => jw_ialde (me_I M 54 0 (aa % 2)) d_M_take_135 rfl rfl (by rw [show me_L _ 54 0 = 2 from (by simp [me_I_sI, me_I_sP, me_I_nx, me_P_sI, me_P_sP, me_P_nx, me_N_sI, me_N_sP, me_N_nx, me_L_sI, me_L_sP, me_L_nx, show me_L M 54 0 = 2 from hI.1.2 (54, 0, 2) (by decide)])]; exact (vp_in_nI (by omega) (by decide))) (by rw [nI_clamp (by omega)] <;> simp [me_I_sI]) kz) ?_
            refine jx_of (fun _ _ kz => jw_iast d_M_take_136 rfl rfl (by rw [show me_L _ 42 0 = 144 from (by simp [me_I_sI, me_I_sP, me_I_nx, me_P_sI, me_P_sP, me_P_nx, me_N_sI, me_N_sP, me_N_nx, me_L_sI, me_L_sP, me_L_nx, show me_L M 42 0 = 144 from hI.1.2 (42, 0, 144) (by decide)])]; exact (vp_in_nI hx (by decide))) kz) ?_
            rw [nI_clamp (by omega)]
            refine jx_of (fun _ _ kz => jw_aload_n 0 d_M_take_137 rfl rfl kz) ?_
            refine jx_of (fun _ _ kz => jw_getPe (some (54, 0)) fl_M_83 d_M_take_138 rfl rfl (by simp [me_I_sI, me_I_sP, me_I_nx, me_P_sI, me_P_sP, me_P_nx, me_N_sI, me_N_sP, me_N_nx, me_L_sI, me_L_sP, me_L_nx, show me_P M 7 0 25 = some (54, 0) from hI.1.1 (7, 0, 25, 54, 0) (by decide)]) kz) ?_
            refine jx_of (fun _ _ kz => jw_iload d_M_take_141 rfl kz) ?_
            refine jx_of (fun _ _ kz => jw_iconst 0 d_M_take_143 (by decide) kz) ?_
            refine jx_of (fun _ _ kz => jw_iast d_M_take_144 rfl rfl (by rw [show me_L _ 54 0 = 2 from (by simp [me_I_sI, me_I_sP, me_I_nx, me_P_sI, me_P_sP, me_P_nx, me_N_sI, me_N_sP, me_N_nx, me_L_sI, me_L_sP, me_L_nx, show me_L M 54 0 = 2 from hI.1.2 (54, 0, 2) (by decide)])]; exact (vp_in_nI (by omega) (by decide))) kz) ?_
            rw [nI_clamp (by omega)]
            refine jx_of (fun _ _ kz => jw_aload_n 0 d_M_take_145 rfl rfl kz) ?_
            refine jx_of (fun _ _ kz => jw_getPe (some (44, 0)) fl_M_53 d_M_take_146 rfl rfl (by simp [me_I_sI, me_I_sP, me_I_nx, me_P_sI, me_P_sP, me_P_nx, me_N_sI, me_N_sP, me_N_nx, me_L_sI, me_L_sP, me_L_nx, show me_P M 7 0 15 = some (44, 0) from hI.1.1 (7, 0, 15, 44, 0) (by decide)]) kz) ?_
            refine jx_of (fun _ _ kz => jw_iload_n 2 d_M_take_149 rfl rfl kz) ?_
            refine jx_of (fun _ _ kz => jw_iconst 1 d_M_take_150 (by decide) kz) ?_
            refine jx_of (fun _ _ kz => jw_zast d_M_take_151 rfl rfl (by rw [show me_L _ 44 0 = 144 from (by simp [me_I_sI, me_I_sP, me_I_nx, me_P_sI, me_P_sP, me_P_nx, me_N_sI, me_N_sP, me_N_nx, me_L_sI, me_L_sP, me_L_nx, show me_L M 44 0 = 144 from hI.1.2 (44, 0, 144) (by decide)])]; exact (vp_in_nI hx (by decide))) (by decide) kz) ?_
            rw [nI_clamp (by omega)]
            refine jx_of (fun _ _ kz => jw_aload_n 0 d_M_take_152 rfl rfl kz) ?_
            refine jx_of (fun _ _ kz => jw_getPe (some (43, 0)) fl_M_50 d_M_take_153 rfl rfl (by simp [me_I_sI, me_I_sP, me_I_nx, me_P_sI, me_P_sP, me_P_nx, me_N_sI, me_N_sP, me_N_nx, me_L_sI, me_L_sP, me_L_nx, show me_P M 7 0 14 = some (43, 0) from hI.1.1 (7, 0, 14, 43, 0) (by decide)]) kz) ?_
            refine jx_of (fun _ _ kz => jw_iload_n 2 d_M_take_156 rfl rfl kz) ?_
            refine jx_of (fun _ _ kz => jw_aload_n 0 d_M_take_157 rfl rfl kz) ?_
            refine jx_of (fun _ _ kz => jw_dup d_M_take_158 kz) ?_
            refine jx_of (fun _ _ kz => jw_getIe (me_I M 7 0 33) fl_M_192 d_M_take_159 rfl rfl (by simp [me_I_sI]) kz) ?_
            refine jx_of (fun _ _ kz => jw_dup_x1 d_M_take_162 kz) ?_
            refine jx_of (fun _ _ kz => jw_iconst 1 d_M_take_163 (by decide) kz) ?_
            refine jx_of (fun _ _ kz => jw_iadd d_M_take_164 kz) ?_
            refine jx_of (fun _ _ kz => jw_putI fl_M_192 (Or.inl rfl) rfl rfl d_M_take_165 rfl rfl kz) ?_
            refine jx_of (fun _ _ kz => jw_iast d_M_take_168 rfl rfl (by rw [show me_L _ 43 0 = 144 from (by simp [me_I_sI, me_I_sP, me_I_nx, me_P_sI, me_P_sP, me_P_nx, me_N_sI, me_N_sP, me_N_nx, me_L_sI, me_L_sP, me_L_nx, show me_L M 43 0 = 144 from hI.1.2 (43, 0, 144) (by decide)])]; exact (vp_in_nI hx (by decide))) kz) ?_
            rw [nI_clamp (by omega)]
            refine jx_of (fun _ _ kz => jw_aload_n 0 d_M_take_169 rfl rfl kz) ?_
            refine jx_of (fun _ _ kz => jw_iload_n 2 d_M_take_170 rfl rfl kz) ?_
            refine jx_callV (z_M_pending (d + 4) x np nt X (by first | exact hI | exact (iv_sI (iv_sI (iv_sI (iv_sI (iv_sI (iv_rf hI) (by unfold hl; omega)) (by unfold hl; omega)) (by unfold hl; omega)) (by unfold hl; omega)) (by unfold hl; omega)).2.1)  hx) mt_M_pending cf_M rfl rfl ml_M_174 im_M_pending se_M_pending d_M_take_171 rfl rfl (Nat.le_of_ble_eq_true rfl) ?_
            rintro _ M2 ⟨rfl, h2⟩
            refine jx_eq (st2 := []) rfl rfl rfl ?_
            refine jx_vret d_M_take_174 rfl ?_
            first | exact ⟨rfl, iv_tr (iv_sI (iv_sI h1 (by unfold hl; omega)) (by unfold hl; omega)) h2⟩ | exact ⟨rfl, iv_tr (iv_sI h1 (by unfold hl; omega)) h2⟩ | exact ⟨rfl, h2⟩ | exact ⟨rfl, iv_tr (iv_sI (iv_sI (iv_sI (iv_sI (iv_sI (iv_rf hI) (by unfold hl; omega)) (by unfold hl; omega)) (by unfold hl; omega)) (by unfold hl; omega)) (by unfold hl; omega)) h2⟩
        · skip
          refine jx_of (fun _ _ kz => jw_aload_n 0 d_M_take_63 rfl rfl kz) ?_
          refine jx_of (fun _ _ kz => jw_iload_n 1 d_M_take_64 rfl rfl kz) ?_
          refine jx_callV (z_M_spends d t np nt X hI  ht) mt_M_spends cf_M rfl rfl ml_M_180 im_M_spends se_M_spends d_M_take_65 rfl rfl (Nat.le_of_ble_eq_true rfl) ?_
          rintro r M1 ⟨hr, h1⟩
          obtain ⟨rv, rfl⟩ : ∃ v : Int32, r = some (.inl v) := by rcases hr with hr | hr; exact ⟨_, hr⟩; exact ⟨_, hr⟩
          refine jx_eq (st2 := [.inl rv]) rfl rfl rfl ?_
          refine jx_of (fun _ _ kz => jw_istore d_M_take_68 (Nat.le_of_ble_eq_true rfl) kz) ?_
          dsimp only [List.set]
          refine jx_of (fun _ _ kz => jw_iload d_M_take_70 rfl kz) ?_
          refine jx_if_ne 81 d_M_take_72 (by decide) (fun b_72 => ?_) (fun b_72 => ?_)
          · skip
            refine jx_of (fun _ _ kz => jw_iload d_M_take_81 rfl kz) ?_
            refine jx_if_eq 98 d_M_take_83 (by decide) (fun _ => ?_) (fun h => absurd h (by decide))
            refine jx_of (fun _ _ kz => jw_aload_n 0 d_M_take_98 rfl rfl kz) ?_
            refine jx_of (fun _ _ kz => jw_getPe (some (45, 0)) fl_M_56 d_M_take_99 rfl rfl (by simp [me_I_sI, me_I_sP, me_I_nx, me_P_sI, me_P_sP, me_P_nx, me_N_sI, me_N_sP, me_N_nx, me_L_sI, me_L_sP, me_L_nx, show me_P M1 7 0 16 = some (45, 0) from h1.2.1.1.1 (7, 0, 16, 45, 0) (by decide)]) kz) ?_
            refine jx_of (fun _ _ kz => jw_iload_n 2 d_M_take_102 rfl rfl kz) ?_
            refine jx_of (fun _ _ kz => jw_iconst 0 d_M_take_103 (by decide) kz) ?_
            refine jx_of (fun _ _ kz => jw_zast d_M_take_104 rfl rfl (by rw [show me_L _ 45 0 = 144 from (by simp [me_I_sI, me_I_sP, me_I_nx, me_P_sI, me_P_sP, me_P_nx, me_N_sI, me_N_sP, me_N_nx, me_L_sI, me_L_sP, me_L_nx, show me_L M1 45 0 = 144 from h1.2.1.1.2 (45, 0, 144) (by decide)])]; exact (vp_in_nI hx (by decide))) (by decide) kz) ?_
            rw [nI_clamp (by omega)]
            refine jx_of (fun _ _ kz => jw_aload_n 0 d_M_take_105 rfl rfl kz) ?_
            refine jx_of (fun _ _ kz => jw_iload_n 2 d_M_take_106 rfl rfl kz) ?_
            refine jx_of (fun _ _ kz => jw_iload d_M_take_107 rfl kz) ?_
            refine jx_callV (z_M_ready (d + 4) x ((1 + ((nI aa) / 2))) np nt X (by first | exact (iv_sI (iv_sI h1 (by unfold hl; omega)) (by unfold hl; omega)).2.1 | exact (iv_sI h1 (by unfold hl; omega)).2.1)  hx) mt_M_ready cf_M rfl rfl ml_M_171 im_M_ready se_M_ready d_M_take_109 rfl rfl (Nat.le_of_ble_eq_true rfl) ?_
            rintro _ M2 ⟨rfl, h2⟩
            refine jx_eq (st2 := []) rfl rfl rfl ?_
            refine jx_of (fun _ _ kz => jw_goto 174 d_M_take_112 (by decide) kz) ?_
            refine jx_vret d_M_take_174 rfl ?_
            first | exact ⟨rfl, iv_tr (iv_sI (iv_sI h1 (by unfold hl; omega)) (by unfold hl; omega)) h2⟩ | exact ⟨rfl, iv_tr (iv_sI h1 (by unfold hl; omega)) h2⟩ | exact ⟨rfl, h2⟩ | exact ⟨rfl, iv_tr (iv_sI (iv_sI (iv_sI (iv_sI (iv_sI (iv_rf hI) (by unfold hl; omega)) (by unfold hl; omega)) (by unfold hl; omega)) (by unfold hl; omega)) (by unfold hl; omega)) h2⟩
          · skip
            refine jx_of (fun _ _ kz => jw_aload_n 0 d_M_take_75 rfl rfl kz) ?_
            refine jx_of (fun _ _ kz => jw_iconst 1 d_M_take_76 (by decide) kz) ?_
            refine jx_of (fun _ _ kz => jw_putI fl_M_151 (Or.inl rfl) rfl rfl d_M_take_77 rfl rfl kz) ?_
            refine jx_vret d_M_take_80 rfl ?_
            exact ⟨rfl, (iv_sI h1 (by unfold hl; omega))⟩
      · skip
        refine jx_of (fun _ _ kz => jw_iconst 1 d_M_take_42 (by decide) kz) ?_
        refine jx_of (fun _ _ kz => jw_goto 47 d_M_take_43 (by decide) kz) ?_
        refine jx_of (fun _ _ kz => jw_istore d_M_take_47 (Nat.le_of_ble_eq_true rfl) kz) ?_
        dsimp only [List.set]
        refine jx_of (fun _ _ kz => jw_iload d_M_take_49 rfl kz) ?_
        refine jx_if_ne 63 d_M_take_51 (by decide) (fun _ => ?_) (fun h => absurd h (by decide))
        refine jx_of (fun _ _ kz => jw_aload_n 0 d_M_take_63 rfl rfl kz) ?_
        refine jx_of (fun _ _ kz => jw_iload_n 1 d_M_take_64 rfl rfl kz) ?_
        refine jx_callV (z_M_spends d t np nt X hI  ht) mt_M_spends cf_M rfl rfl ml_M_180 im_M_spends se_M_spends d_M_take_65 rfl rfl (Nat.le_of_ble_eq_true rfl) ?_
        rintro r M1 ⟨hr, h1⟩
        obtain ⟨rv, rfl⟩ : ∃ v : Int32, r = some (.inl v) := by rcases hr with hr | hr; exact ⟨_, hr⟩; exact ⟨_, hr⟩
        refine jx_eq (st2 := [.inl rv]) rfl rfl rfl ?_
        refine jx_of (fun _ _ kz => jw_istore d_M_take_68 (Nat.le_of_ble_eq_true rfl) kz) ?_
        dsimp only [List.set]
        refine jx_of (fun _ _ kz => jw_iload d_M_take_70 rfl kz) ?_
        refine jx_if_ne 81 d_M_take_72 (by decide) (fun b_72 => ?_) (fun b_72 => ?_)
        · skip
          refine jx_of (fun _ _ kz => jw_iload d_M_take_81 rfl kz) ?_
          refine jx_if_eq 98 d_M_take_83 (by decide) (fun h => absurd h (by decide)) (fun _ => ?_)
          refine jx_of (fun _ _ kz => jw_aload_n 0 d_M_take_86 rfl rfl kz) ?_
          refine jx_of (fun _ _ kz => jw_getPe (some (54, 0)) fl_M_83 d_M_take_87 rfl rfl (by simp [me_I_sI, me_I_sP, me_I_nx, me_P_sI, me_P_sP, me_P_nx, me_N_sI, me_N_sP, me_N_nx, me_L_sI, me_L_sP, me_L_nx, show me_P M1 7 0 25 = some (54, 0) from h1.2.1.1.1 (7, 0, 25, 54, 0) (by decide)]) kz) ?_
          refine jx_of (fun _ _ kz => jw_iload d_M_take_90 rfl kz) ?_
          refine jx_of (fun _ _ kz => jw_dup2 d_M_take_92 kz) ?_
          refine jx_of (fun _ _ kz => jw_ialde (me_I M1 54 0 (aa % 2)) d_M_take_93 rfl rfl (by rw [show me_L _ 54 0 = 2 from (by simp [me_I_sI, me_I_sP, me_I_nx, me_P_sI, me_P_sP, me_P_nx, me_N_sI, me_N_sP, me_N_nx, me_L_sI, me_L_sP, me_L_nx, show me_L M1 54 0 = 2 from h1.2.1.1.2 (54, 0, 2) (by decide)])]; exact (vp_in_nI (by omega) (by decide))) (by rw [nI_clamp (by omega)] <;> simp [me_I_sI]) kz) ?_
          refine jx_of (fun _ _ kz => jw_iload d_M_take_94 rfl kz) ?_
          refine jx_of (fun _ _ kz => jw_isub d_M_take_96 kz) ?_
          refine jx_of (fun _ _ kz => jw_iast d_M_take_97 rfl rfl (by rw [show me_L _ 54 0 = 2 from (by simp [me_I_sI, me_I_sP, me_I_nx, me_P_sI, me_P_sP, me_P_nx, me_N_sI, me_N_sP, me_N_nx, me_L_sI, me_L_sP, me_L_nx, show me_L M1 54 0 = 2 from h1.2.1.1.2 (54, 0, 2) (by decide)])]; exact (vp_in_nI (by omega) (by decide))) kz) ?_
          rw [nI_clamp (by omega)]
          refine jx_of (fun _ _ kz => jw_aload_n 0 d_M_take_98 rfl rfl kz) ?_
          refine jx_of (fun _ _ kz => jw_getPe (some (45, 0)) fl_M_56 d_M_take_99 rfl rfl (by simp [me_I_sI, me_I_sP, me_I_nx, me_P_sI, me_P_sP, me_P_nx, me_N_sI, me_N_sP, me_N_nx, me_L_sI, me_L_sP, me_L_nx, show me_P M1 7 0 16 = some (45, 0) from h1.2.1.1.1 (7, 0, 16, 45, 0) (by decide)]) kz) ?_
          refine jx_of (fun _ _ kz => jw_iload_n 2 d_M_take_102 rfl rfl kz) ?_
          refine jx_of (fun _ _ kz => jw_iconst 0 d_M_take_103 (by decide) kz) ?_
          refine jx_of (fun _ _ kz => jw_zast d_M_take_104 rfl rfl (by rw [show me_L _ 45 0 = 144 from (by simp [me_I_sI, me_I_sP, me_I_nx, me_P_sI, me_P_sP, me_P_nx, me_N_sI, me_N_sP, me_N_nx, me_L_sI, me_L_sP, me_L_nx, show me_L M1 45 0 = 144 from h1.2.1.1.2 (45, 0, 144) (by decide)])]; exact (vp_in_nI hx (by decide))) (by decide) kz) ?_
          rw [nI_clamp (by omega)]
          refine jx_of (fun _ _ kz => jw_aload_n 0 d_M_take_105 rfl rfl kz) ?_
          refine jx_of (fun _ _ kz => jw_iload_n 2 d_M_take_106 rfl rfl kz) ?_
          refine jx_of (fun _ _ kz => jw_iload d_M_take_107 rfl kz) ?_
          refine jx_callV (z_M_ready (d + 4) x ((1 + ((nI aa) / 2))) np nt X (by first | exact (iv_sI (iv_sI h1 (by unfold hl; omega)) (by unfold hl; omega)).2.1 | exact (iv_sI h1 (by unfold hl; omega)).2.1)  hx) mt_M_ready cf_M rfl rfl ml_M_171 im_M_ready se_M_ready d_M_take_109 rfl rfl (Nat.le_of_ble_eq_true rfl) ?_
          rintro _ M2 ⟨rfl, h2⟩
          refine jx_eq (st2 := []) rfl rfl rfl ?_
          refine jx_of (fun _ _ kz => jw_goto 174 d_M_take_112 (by decide) kz) ?_
          refine jx_vret d_M_take_174 rfl ?_
          first | exact ⟨rfl, iv_tr (iv_sI (iv_sI h1 (by unfold hl; omega)) (by unfold hl; omega)) h2⟩ | exact ⟨rfl, iv_tr (iv_sI h1 (by unfold hl; omega)) h2⟩ | exact ⟨rfl, h2⟩ | exact ⟨rfl, iv_tr (iv_sI (iv_sI (iv_sI (iv_sI (iv_sI (iv_rf hI) (by unfold hl; omega)) (by unfold hl; omega)) (by unfold hl; omega)) (by unfold hl; omega)) (by unfold hl; omega)) h2⟩
        · skip
          refine jx_of (fun _ _ kz => jw_aload_n 0 d_M_take_75 rfl rfl kz) ?_
          refine jx_of (fun _ _ kz => jw_iconst 1 d_M_take_76 (by decide) kz) ?_
          refine jx_of (fun _ _ kz => jw_putI fl_M_151 (Or.inl rfl) rfl rfl d_M_take_77 rfl rfl kz) ?_
          refine jx_vret d_M_take_80 rfl ?_
          exact ⟨rfl, (iv_sI h1 (by unfold hl; omega))⟩
set_option maxRecDepth 20000 in
set_option maxHeartbeats 4000000 in
theorem z_M_await {G : Gt} {M : Me} (d : Nat) (t : Nat) (x : Nat) (g : Nat) (np : Nat) (nt : Nat) (X : List Nat) (hI : mI M np nt X) (ht : t < nt) (hx : x < 144) (hg : g < 2) : sx G yt_M_await yn_M_await (d + 6) [.inr (some (7, 0)), .inl (nI t), .inl (nI x), .inl (nI g)] M (fun r M' => r = none ∧ iv np nt nt X M M') := by
  refine sx_of (k := 2) (lc := [some (.inr (some (7, 0))), some (.inl (nI t)), some (.inl (nI x)), some (.inl (nI g)), none, none]) mt_M_await (Nat.le_of_ble_eq_true rfl) rfl ?_
  refine jx_of (fun _ _ kz => jw_aload_n 0 d_M_await_0 rfl rfl kz) ?_
  refine jx_of (fun _ _ kz => jw_getPe (some (40, 0)) fl_M_41 d_M_await_1 rfl rfl (by simp [me_I_sI, me_I_sP, me_I_nx, me_P_sI, me_P_sP, me_P_nx, me_N_sI, me_N_sP, me_N_nx, me_L_sI, me_L_sP, me_L_nx, show me_P M 7 0 11 = some (40, 0) from hI.1.1 (7, 0, 11, 40, 0) (by decide)]) kz) ?_
  refine jx_of (fun _ _ kz => jw_iload_n 2 d_M_await_4 rfl rfl kz) ?_
  refine jx_of (fun _ _ kz => jw_ialde (me_I M 40 0 x) d_M_await_5 rfl rfl (by rw [show me_L _ 40 0 = 144 from (by simp [me_I_sI, me_I_sP, me_I_nx, me_P_sI, me_P_sP, me_P_nx, me_N_sI, me_N_sP, me_N_nx, me_L_sI, me_L_sP, me_L_nx, show me_L M 40 0 = 144 from hI.1.2 (40, 0, 144) (by decide)])]; exact (vp_in_nI hx (by decide))) (by rw [nI_clamp (by omega)] <;> simp [me_I_sI]) kz) ?_
  refine jx_if_ne 22 d_M_await_6 (by decide) (fun b_6 => ?_) (fun b_6 => ?_)
  · skip
    refine jx_of (fun _ _ kz => jw_iconst 0 d_M_await_22 (by decide) kz) ?_
    refine jx_of (fun _ _ kz => jw_istore d_M_await_23 (Nat.le_of_ble_eq_true rfl) kz) ?_
    dsimp only [List.set]
    refine jx_of (fun _ _ kz => jw_iload d_M_await_25 rfl kz) ?_
    refine jx_if_ne 39 d_M_await_27 (by decide) (fun h => absurd h (by decide)) (fun _ => ?_)
    refine jx_of (fun _ _ kz => jw_aload_n 0 d_M_await_30 rfl rfl kz) ?_
    refine jx_of (fun _ _ kz => jw_getPe (some (45, 0)) fl_M_56 d_M_await_31 rfl rfl (by simp [me_I_sI, me_I_sP, me_I_nx, me_P_sI, me_P_sP, me_P_nx, me_N_sI, me_N_sP, me_N_nx, me_L_sI, me_L_sP, me_L_nx, show me_P M 7 0 16 = some (45, 0) from hI.1.1 (7, 0, 16, 45, 0) (by decide)]) kz) ?_
    refine jx_of (fun _ _ kz => jw_iload_n 2 d_M_await_34 rfl rfl kz) ?_
    refine jx_of (fun _ _ kz => jw_zalde (me_I M 45 0 x) d_M_await_35 rfl rfl (by rw [show me_L _ 45 0 = 144 from (by simp [me_I_sI, me_I_sP, me_I_nx, me_P_sI, me_P_sP, me_P_nx, me_N_sI, me_N_sP, me_N_nx, me_L_sI, me_L_sP, me_L_nx, show me_L M 45 0 = 144 from hI.1.2 (45, 0, 144) (by decide)])]; exact (vp_in_nI hx (by decide))) (by rw [nI_clamp (by omega)] <;> simp [me_I_sI]) kz) ?_
    refine jx_if_eq 85 d_M_await_36 (by decide) (fun b_36 => ?_) (fun b_36 => ?_)
    · skip
      refine jx_of (fun _ _ kz => jw_aload_n 0 d_M_await_85 rfl rfl kz) ?_
      refine jx_of (fun _ _ kz => jw_getPe (some (40, 0)) fl_M_41 d_M_await_86 rfl rfl (by simp [me_I_sI, me_I_sP, me_I_nx, me_P_sI, me_P_sP, me_P_nx, me_N_sI, me_N_sP, me_N_nx, me_L_sI, me_L_sP, me_L_nx, show me_P M 7 0 11 = some (40, 0) from hI.1.1 (7, 0, 11, 40, 0) (by decide)]) kz) ?_
      refine jx_of (fun _ _ kz => jw_iload_n 2 d_M_await_89 rfl rfl kz) ?_
      refine jx_of (fun _ _ kz => jw_ialde (me_I M 40 0 x) d_M_await_90 rfl rfl (by rw [show me_L _ 40 0 = 144 from (by simp [me_I_sI, me_I_sP, me_I_nx, me_P_sI, me_P_sP, me_P_nx, me_N_sI, me_N_sP, me_N_nx, me_L_sI, me_L_sP, me_L_nx, show me_L M 40 0 = 144 from hI.1.2 (40, 0, 144) (by decide)])]; exact (vp_in_nI hx (by decide))) (by rw [nI_clamp (by omega)] <;> simp [me_I_sI]) kz) ?_
      refine jx_if_ne 118 d_M_await_91 (by decide) (fun b_91 => ?_) (fun b_91 => ?_)
      · skip
        refine jx_of (fun _ _ kz => jw_aload_n 0 d_M_await_118 rfl rfl kz) ?_
        refine jx_of (fun _ _ kz => jw_iload_n 2 d_M_await_119 rfl rfl kz) ?_
        refine jx_callV (z_M_pending (d + 4) x np nt X (by first | exact hI | exact (iv_sI (iv_sI (iv_sI (iv_rf hI) (by unfold hl; omega)) (by unfold hl; omega)) (by unfold hl; omega)).2.1)  hx) mt_M_pending cf_M rfl rfl ml_M_174 im_M_pending se_M_pending d_M_await_120 rfl rfl (Nat.le_of_ble_eq_true rfl) ?_
        rintro _ M2 ⟨rfl, h2⟩
        refine jx_eq (st2 := []) rfl rfl rfl ?_
        refine jx_vret d_M_await_123 rfl ?_
        first | exact ⟨rfl, iv_tr (iv_sI (iv_sI h1 (by unfold hl; omega)) (by unfold hl; omega)) h2⟩ | exact ⟨rfl, iv_tr (iv_sI h1 (by unfold hl; omega)) h2⟩ | exact ⟨rfl, h2⟩ | exact ⟨rfl, iv_tr (iv_sI (iv_sI (iv_sI (iv_rf hI) (by unfold hl; omega)) (by unfold hl; omega)) (by unfold hl; omega)) h2⟩
      · skip
        refine jx_of (fun _ _ kz => jw_aload_n 0 d_M_await_94 rfl rfl kz) ?_
        refine jx_of (fun _ _ kz => jw_getPe (some (44, 0)) fl_M_53 d_M_await_95 rfl rfl (by simp [me_I_sI, me_I_sP, me_I_nx, me_P_sI, me_P_sP, me_P_nx, me_N_sI, me_N_sP, me_N_nx, me_L_sI, me_L_sP, me_L_nx, show me_P M 7 0 15 = some (44, 0) from hI.1.1 (7, 0, 15, 44, 0) (by decide)]) kz) ?_
        refine jx_of (fun _ _ kz => jw_iload_n 2 d_M_await_98 rfl rfl kz) ?_
        refine jx_of (fun _ _ kz => jw_iconst 1 d_M_await_99 (by decide) kz) ?_
        refine jx_of (fun _ _ kz => jw_zast d_M_await_100 rfl rfl (by rw [show me_L _ 44 0 = 144 from (by simp [me_I_sI, me_I_sP, me_I_nx, me_P_sI, me_P_sP, me_P_nx, me_N_sI, me_N_sP, me_N_nx, me_L_sI, me_L_sP, me_L_nx, show me_L M 44 0 = 144 from hI.1.2 (44, 0, 144) (by decide)])]; exact (vp_in_nI hx (by decide))) (by decide) kz) ?_
        rw [nI_clamp (by omega)]
        refine jx_of (fun _ _ kz => jw_aload_n 0 d_M_await_101 rfl rfl kz) ?_
        refine jx_of (fun _ _ kz => jw_getPe (some (43, 0)) fl_M_50 d_M_await_102 rfl rfl (by simp [me_I_sI, me_I_sP, me_I_nx, me_P_sI, me_P_sP, me_P_nx, me_N_sI, me_N_sP, me_N_nx, me_L_sI, me_L_sP, me_L_nx, show me_P M 7 0 14 = some (43, 0) from hI.1.1 (7, 0, 14, 43, 0) (by decide)]) kz) ?_
        refine jx_of (fun _ _ kz => jw_iload_n 2 d_M_await_105 rfl rfl kz) ?_
        refine jx_of (fun _ _ kz => jw_aload_n 0 d_M_await_106 rfl rfl kz) ?_
        refine jx_of (fun _ _ kz => jw_dup d_M_await_107 kz) ?_
        refine jx_of (fun _ _ kz => jw_getIe (me_I M 7 0 33) fl_M_192 d_M_await_108 rfl rfl (by simp [me_I_sI]) kz) ?_
        refine jx_of (fun _ _ kz => jw_dup_x1 d_M_await_111 kz) ?_
        refine jx_of (fun _ _ kz => jw_iconst 1 d_M_await_112 (by decide) kz) ?_
        refine jx_of (fun _ _ kz => jw_iadd d_M_await_113 kz) ?_
        refine jx_of (fun _ _ kz => jw_putI fl_M_192 (Or.inl rfl) rfl rfl d_M_await_114 rfl rfl kz) ?_
        refine jx_of (fun _ _ kz => jw_iast d_M_await_117 rfl rfl (by rw [show me_L _ 43 0 = 144 from (by simp [me_I_sI, me_I_sP, me_I_nx, me_P_sI, me_P_sP, me_P_nx, me_N_sI, me_N_sP, me_N_nx, me_L_sI, me_L_sP, me_L_nx, show me_L M 43 0 = 144 from hI.1.2 (43, 0, 144) (by decide)])]; exact (vp_in_nI hx (by decide))) kz) ?_
        rw [nI_clamp (by omega)]
        refine jx_of (fun _ _ kz => jw_aload_n 0 d_M_await_118 rfl rfl kz) ?_
        refine jx_of (fun _ _ kz => jw_iload_n 2 d_M_await_119 rfl rfl kz) ?_
        refine jx_callV (z_M_pending (d + 4) x np nt X (by first | exact hI | exact (iv_sI (iv_sI (iv_sI (iv_rf hI) (by unfold hl; omega)) (by unfold hl; omega)) (by unfold hl; omega)).2.1)  hx) mt_M_pending cf_M rfl rfl ml_M_174 im_M_pending se_M_pending d_M_await_120 rfl rfl (Nat.le_of_ble_eq_true rfl) ?_
        rintro _ M2 ⟨rfl, h2⟩
        refine jx_eq (st2 := []) rfl rfl rfl ?_
        refine jx_vret d_M_await_123 rfl ?_
        first | exact ⟨rfl, iv_tr (iv_sI (iv_sI h1 (by unfold hl; omega)) (by unfold hl; omega)) h2⟩ | exact ⟨rfl, iv_tr (iv_sI h1 (by unfold hl; omega)) h2⟩ | exact ⟨rfl, h2⟩ | exact ⟨rfl, iv_tr (iv_sI (iv_sI (iv_sI (iv_rf hI) (by unfold hl; omega)) (by unfold hl; omega)) (by unfold hl; omega)) h2⟩
    · skip
      refine jx_of (fun _ _ kz => jw_aload_n 0 d_M_await_39 rfl rfl kz) ?_
      refine jx_of (fun _ _ kz => jw_iload_n 1 d_M_await_40 rfl rfl kz) ?_
      refine jx_callV (z_M_spends d t np nt X hI  ht) mt_M_spends cf_M rfl rfl ml_M_180 im_M_spends se_M_spends d_M_await_41 rfl rfl (Nat.le_of_ble_eq_true rfl) ?_
      rintro r M1 ⟨hr, h1⟩
      obtain ⟨rv, rfl⟩ : ∃ v : Int32, r = some (.inl v) := by rcases hr with hr | hr; exact ⟨_, hr⟩; exact ⟨_, hr⟩
      refine jx_eq (st2 := [.inl rv]) rfl rfl rfl ?_
      refine jx_of (fun _ _ kz => jw_istore d_M_await_44 (Nat.le_of_ble_eq_true rfl) kz) ?_
      dsimp only [List.set]
      refine jx_of (fun _ _ kz => jw_iload d_M_await_46 rfl kz) ?_
      refine jx_if_ne 57 d_M_await_48 (by decide) (fun b_48 => ?_) (fun b_48 => ?_)
      · skip
        refine jx_of (fun _ _ kz => jw_iload d_M_await_57 rfl kz) ?_
        refine jx_if_eq 69 d_M_await_59 (by decide) (fun _ => ?_) (fun h => absurd h (by decide))
        refine jx_of (fun _ _ kz => jw_aload_n 0 d_M_await_69 rfl rfl kz) ?_
        refine jx_of (fun _ _ kz => jw_getPe (some (45, 0)) fl_M_56 d_M_await_70 rfl rfl (by simp [me_I_sI, me_I_sP, me_I_nx, me_P_sI, me_P_sP, me_P_nx, me_N_sI, me_N_sP, me_N_nx, me_L_sI, me_L_sP, me_L_nx, show me_P M1 7 0 16 = some (45, 0) from h1.2.1.1.1 (7, 0, 16, 45, 0) (by decide)]) kz) ?_
        refine jx_of (fun _ _ kz => jw_iload_n 2 d_M_await_73 rfl rfl kz) ?_
        refine jx_of (fun _ _ kz => jw_iconst 0 d_M_await_74 (by decide) kz) ?_
        refine jx_of (fun _ _ kz => jw_zast d_M_await_75 rfl rfl (by rw [show me_L _ 45 0 = 144 from (by simp [me_I_sI, me_I_sP, me_I_nx, me_P_sI, me_P_sP, me_P_nx, me_N_sI, me_N_sP, me_N_nx, me_L_sI, me_L_sP, me_L_nx, show me_L M1 45 0 = 144 from h1.2.1.1.2 (45, 0, 144) (by decide)])]; exact (vp_in_nI hx (by decide))) (by decide) kz) ?_
        rw [nI_clamp (by omega)]
        refine jx_of (fun _ _ kz => jw_aload_n 0 d_M_await_76 rfl rfl kz) ?_
        refine jx_of (fun _ _ kz => jw_iload_n 2 d_M_await_77 rfl rfl kz) ?_
        refine jx_of (fun _ _ kz => jw_iconst 1 d_M_await_78 (by decide) kz) ?_
        refine jx_callV (z_M_ready (d + 4) x 1 np nt X (by first | exact (iv_sI (iv_sI h1 (by unfold hl; omega)) (by unfold hl; omega)).2.1 | exact (iv_sI h1 (by unfold hl; omega)).2.1)  hx) mt_M_ready cf_M rfl rfl ml_M_171 im_M_ready se_M_ready d_M_await_79 rfl rfl (Nat.le_of_ble_eq_true rfl) ?_
        rintro _ M2 ⟨rfl, h2⟩
        refine jx_eq (st2 := []) rfl rfl rfl ?_
        refine jx_of (fun _ _ kz => jw_goto 123 d_M_await_82 (by decide) kz) ?_
        refine jx_vret d_M_await_123 rfl ?_
        first | exact ⟨rfl, iv_tr (iv_sI (iv_sI h1 (by unfold hl; omega)) (by unfold hl; omega)) h2⟩ | exact ⟨rfl, iv_tr (iv_sI h1 (by unfold hl; omega)) h2⟩ | exact ⟨rfl, h2⟩ | exact ⟨rfl, iv_tr (iv_sI (iv_sI (iv_sI (iv_rf hI) (by unfold hl; omega)) (by unfold hl; omega)) (by unfold hl; omega)) h2⟩
      · skip
        refine jx_of (fun _ _ kz => jw_aload_n 0 d_M_await_51 rfl rfl kz) ?_
        refine jx_of (fun _ _ kz => jw_iconst 1 d_M_await_52 (by decide) kz) ?_
        refine jx_of (fun _ _ kz => jw_putI fl_M_151 (Or.inl rfl) rfl rfl d_M_await_53 rfl rfl kz) ?_
        refine jx_vret d_M_await_56 rfl ?_
        exact ⟨rfl, (iv_sI h1 (by unfold hl; omega))⟩
  · skip
    refine jx_of (fun _ _ kz => jw_aload_n 0 d_M_await_9 rfl rfl kz) ?_
    refine jx_of (fun _ _ kz => jw_getPe (some (55, 0)) fl_M_86 d_M_await_10 rfl rfl (by simp [me_I_sI, me_I_sP, me_I_nx, me_P_sI, me_P_sP, me_P_nx, me_N_sI, me_N_sP, me_N_nx, me_L_sI, me_L_sP, me_L_nx, show me_P M 7 0 26 = some (55, 0) from hI.1.1 (7, 0, 26, 55, 0) (by decide)]) kz) ?_
    refine jx_of (fun _ _ kz => jw_iload_n 3 d_M_await_13 rfl rfl kz) ?_
    refine jx_of (fun _ _ kz => jw_zalde (me_I M 55 0 g) d_M_await_14 rfl rfl (by rw [show me_L _ 55 0 = 2 from (by simp [me_I_sI, me_I_sP, me_I_nx, me_P_sI, me_P_sP, me_P_nx, me_N_sI, me_N_sP, me_N_nx, me_L_sI, me_L_sP, me_L_nx, show me_L M 55 0 = 2 from hI.1.2 (55, 0, 2) (by decide)])]; exact (vp_in_nI hg (by decide))) (by rw [nI_clamp (by omega)] <;> simp [me_I_sI]) kz) ?_
    refine jx_if_eq 22 d_M_await_15 (by decide) (fun b_15 => ?_) (fun b_15 => ?_)
    · skip
      refine jx_of (fun _ _ kz => jw_iconst 0 d_M_await_22 (by decide) kz) ?_
      refine jx_of (fun _ _ kz => jw_istore d_M_await_23 (Nat.le_of_ble_eq_true rfl) kz) ?_
      dsimp only [List.set]
      refine jx_of (fun _ _ kz => jw_iload d_M_await_25 rfl kz) ?_
      refine jx_if_ne 39 d_M_await_27 (by decide) (fun h => absurd h (by decide)) (fun _ => ?_)
      refine jx_of (fun _ _ kz => jw_aload_n 0 d_M_await_30 rfl rfl kz) ?_
      refine jx_of (fun _ _ kz => jw_getPe (some (45, 0)) fl_M_56 d_M_await_31 rfl rfl (by simp [me_I_sI, me_I_sP, me_I_nx, me_P_sI, me_P_sP, me_P_nx, me_N_sI, me_N_sP, me_N_nx, me_L_sI, me_L_sP, me_L_nx, show me_P M 7 0 16 = some (45, 0) from hI.1.1 (7, 0, 16, 45, 0) (by decide)]) kz) ?_
      refine jx_of (fun _ _ kz => jw_iload_n 2 d_M_await_34 rfl rfl kz) ?_
      refine jx_of (fun _ _ kz => jw_zalde (me_I M 45 0 x) d_M_await_35 rfl rfl (by rw [show me_L _ 45 0 = 144 from (by simp [me_I_sI, me_I_sP, me_I_nx, me_P_sI, me_P_sP, me_P_nx, me_N_sI, me_N_sP, me_N_nx, me_L_sI, me_L_sP, me_L_nx, show me_L M 45 0 = 144 from hI.1.2 (45, 0, 144) (by decide)])]; exact (vp_in_nI hx (by decide))) (by rw [nI_clamp (by omega)] <;> simp [me_I_sI]) kz) ?_
      refine jx_if_eq 85 d_M_await_36 (by decide) (fun b_36 => ?_) (fun b_36 => ?_)
      · skip
        refine jx_of (fun _ _ kz => jw_aload_n 0 d_M_await_85 rfl rfl kz) ?_
        refine jx_of (fun _ _ kz => jw_getPe (some (40, 0)) fl_M_41 d_M_await_86 rfl rfl (by simp [me_I_sI, me_I_sP, me_I_nx, me_P_sI, me_P_sP, me_P_nx, me_N_sI, me_N_sP, me_N_nx, me_L_sI, me_L_sP, me_L_nx, show me_P M 7 0 11 = some (40, 0) from hI.1.1 (7, 0, 11, 40, 0) (by decide)]) kz) ?_
        refine jx_of (fun _ _ kz => jw_iload_n 2 d_M_await_89 rfl rfl kz) ?_
        refine jx_of (fun _ _ kz => jw_ialde (me_I M 40 0 x) d_M_await_90 rfl rfl (by rw [show me_L _ 40 0 = 144 from (by simp [me_I_sI, me_I_sP, me_I_nx, me_P_sI, me_P_sP, me_P_nx, me_N_sI, me_N_sP, me_N_nx, me_L_sI, me_L_sP, me_L_nx, show me_L M 40 0 = 144 from hI.1.2 (40, 0, 144) (by decide)])]; exact (vp_in_nI hx (by decide))) (by rw [nI_clamp (by omega)] <;> simp [me_I_sI]) kz) ?_
        refine jx_if_ne 118 d_M_await_91 (by decide) (fun b_91 => ?_) (fun b_91 => ?_)
        · skip
          refine jx_of (fun _ _ kz => jw_aload_n 0 d_M_await_118 rfl rfl kz) ?_
          refine jx_of (fun _ _ kz => jw_iload_n 2 d_M_await_119 rfl rfl kz) ?_
          refine jx_callV (z_M_pending (d + 4) x np nt X (by first | exact hI | exact (iv_sI (iv_sI (iv_sI (iv_rf hI) (by unfold hl; omega)) (by unfold hl; omega)) (by unfold hl; omega)).2.1)  hx) mt_M_pending cf_M rfl rfl ml_M_174 im_M_pending se_M_pending d_M_await_120 rfl rfl (Nat.le_of_ble_eq_true rfl) ?_
          rintro _ M2 ⟨rfl, h2⟩
          refine jx_eq (st2 := []) rfl rfl rfl ?_
          refine jx_vret d_M_await_123 rfl ?_
          first | exact ⟨rfl, iv_tr (iv_sI (iv_sI h1 (by unfold hl; omega)) (by unfold hl; omega)) h2⟩ | exact ⟨rfl, iv_tr (iv_sI h1 (by unfold hl; omega)) h2⟩ | exact ⟨rfl, h2⟩ | exact ⟨rfl, iv_tr (iv_sI (iv_sI (iv_sI (iv_rf hI) (by unfold hl; omega)) (by unfold hl; omega)) (by unfold hl; omega)) h2⟩
        · skip
          refine jx_of (fun _ _ kz => jw_aload_n 0 d_M_await_94 rfl rfl kz) ?_
          refine jx_of (fun _ _ kz => jw_getPe (some (44, 0)) fl_M_53 d_M_await_95 rfl rfl (by simp [me_I_sI, me_I_sP, me_I_nx, me_P_sI, me_P_sP, me_P_nx, me_N_sI, me_N_sP, me_N_nx, me_L_sI, me_L_sP, me_L_nx, show me_P M 7 0 15 = some (44, 0) from hI.1.1 (7, 0, 15, 44, 0) (by decide)]) kz) ?_
          refine jx_of (fun _ _ kz => jw_iload_n 2 d_M_await_98 rfl rfl kz) ?_
          refine jx_of (fun _ _ kz => jw_iconst 1 d_M_await_99 (by decide) kz) ?_
          refine jx_of (fun _ _ kz => jw_zast d_M_await_100 rfl rfl (by rw [show me_L _ 44 0 = 144 from (by simp [me_I_sI, me_I_sP, me_I_nx, me_P_sI, me_P_sP, me_P_nx, me_N_sI, me_N_sP, me_N_nx, me_L_sI, me_L_sP, me_L_nx, show me_L M 44 0 = 144 from hI.1.2 (44, 0, 144) (by decide)])]; exact (vp_in_nI hx (by decide))) (by decide) kz) ?_
          rw [nI_clamp (by omega)]
          refine jx_of (fun _ _ kz => jw_aload_n 0 d_M_await_101 rfl rfl kz) ?_
          refine jx_of (fun _ _ kz => jw_getPe (some (43, 0)) fl_M_50 d_M_await_102 rfl rfl (by simp [me_I_sI, me_I_sP, me_I_nx, me_P_sI, me_P_sP, me_P_nx, me_N_sI, me_N_sP, me_N_nx, me_L_sI, me_L_sP, me_L_nx, show me_P M 7 0 14 = some (43, 0) from hI.1.1 (7, 0, 14, 43, 0) (by decide)]) kz) ?_
          refine jx_of (fun _ _ kz => jw_iload_n 2 d_M_await_105 rfl rfl kz) ?_
          refine jx_of (fun _ _ kz => jw_aload_n 0 d_M_await_106 rfl rfl kz) ?_
          refine jx_of (fun _ _ kz => jw_dup d_M_await_107 kz) ?_
          refine jx_of (fun _ _ kz => jw_getIe (me_I M 7 0 33) fl_M_192 d_M_await_108 rfl rfl (by simp [me_I_sI]) kz) ?_
          refine jx_of (fun _ _ kz => jw_dup_x1 d_M_await_111 kz) ?_
          refine jx_of (fun _ _ kz => jw_iconst 1 d_M_await_112 (by decide) kz) ?_
          refine jx_of (fun _ _ kz => jw_iadd d_M_await_113 kz) ?_
          refine jx_of (fun _ _ kz => jw_putI fl_M_192 (Or.inl rfl) rfl rfl d_M_await_114 rfl rfl kz) ?_
          refine jx_of (fun _ _ kz => jw_iast d_M_await_117 rfl rfl (by rw [show me_L _ 43 0 = 144 from (by simp [me_I_sI, me_I_sP, me_I_nx, me_P_sI, me_P_sP, me_P_nx, me_N_sI, me_N_sP, me_N_nx, me_L_sI, me_L_sP, me_L_nx, show me_L M 43 0 = 144 from hI.1.2 (43, 0, 144) (by decide)])]; exact (vp_in_nI hx (by decide))) kz) ?_
          rw [nI_clamp (by omega)]
          refine jx_of (fun _ _ kz => jw_aload_n 0 d_M_await_118 rfl rfl kz) ?_
          refine jx_of (fun _ _ kz => jw_iload_n 2 d_M_await_119 rfl rfl kz) ?_
          refine jx_callV (z_M_pending (d + 4) x np nt X (by first | exact hI | exact (iv_sI (iv_sI (iv_sI (iv_rf hI) (by unfold hl; omega)) (by unfold hl; omega)) (by unfold hl; omega)).2.1)  hx) mt_M_pending cf_M rfl rfl ml_M_174 im_M_pending se_M_pending d_M_await_120 rfl rfl (Nat.le_of_ble_eq_true rfl) ?_
          rintro _ M2 ⟨rfl, h2⟩
          refine jx_eq (st2 := []) rfl rfl rfl ?_
          refine jx_vret d_M_await_123 rfl ?_
          first | exact ⟨rfl, iv_tr (iv_sI (iv_sI h1 (by unfold hl; omega)) (by unfold hl; omega)) h2⟩ | exact ⟨rfl, iv_tr (iv_sI h1 (by unfold hl; omega)) h2⟩ | exact ⟨rfl, h2⟩ | exact ⟨rfl, iv_tr (iv_sI (iv_sI (iv_sI (iv_rf hI) (by unfold hl; omega)) (by unfold hl; omega)) (by unfold hl; omega)) h2⟩
      · skip
        refine jx_of (fun _ _ kz => jw_aload_n 0 d_M_await_39 rfl rfl kz) ?_
        refine jx_of (fun _ _ kz => jw_iload_n 1 d_M_await_40 rfl rfl kz) ?_
        refine jx_callV (z_M_spends d t np nt X hI  ht) mt_M_spends cf_M rfl rfl ml_M_180 im_M_spends se_M_spends d_M_await_41 rfl rfl (Nat.le_of_ble_eq_true rfl) ?_
        rintro r M1 ⟨hr, h1⟩
        obtain ⟨rv, rfl⟩ : ∃ v : Int32, r = some (.inl v) := by rcases hr with hr | hr; exact ⟨_, hr⟩; exact ⟨_, hr⟩
        refine jx_eq (st2 := [.inl rv]) rfl rfl rfl ?_
        refine jx_of (fun _ _ kz => jw_istore d_M_await_44 (Nat.le_of_ble_eq_true rfl) kz) ?_
        dsimp only [List.set]
        refine jx_of (fun _ _ kz => jw_iload d_M_await_46 rfl kz) ?_
        refine jx_if_ne 57 d_M_await_48 (by decide) (fun b_48 => ?_) (fun b_48 => ?_)
        · skip
          refine jx_of (fun _ _ kz => jw_iload d_M_await_57 rfl kz) ?_
          refine jx_if_eq 69 d_M_await_59 (by decide) (fun _ => ?_) (fun h => absurd h (by decide))
          refine jx_of (fun _ _ kz => jw_aload_n 0 d_M_await_69 rfl rfl kz) ?_
          refine jx_of (fun _ _ kz => jw_getPe (some (45, 0)) fl_M_56 d_M_await_70 rfl rfl (by simp [me_I_sI, me_I_sP, me_I_nx, me_P_sI, me_P_sP, me_P_nx, me_N_sI, me_N_sP, me_N_nx, me_L_sI, me_L_sP, me_L_nx, show me_P M1 7 0 16 = some (45, 0) from h1.2.1.1.1 (7, 0, 16, 45, 0) (by decide)]) kz) ?_
          refine jx_of (fun _ _ kz => jw_iload_n 2 d_M_await_73 rfl rfl kz) ?_
          refine jx_of (fun _ _ kz => jw_iconst 0 d_M_await_74 (by decide) kz) ?_
          refine jx_of (fun _ _ kz => jw_zast d_M_await_75 rfl rfl (by rw [show me_L _ 45 0 = 144 from (by simp [me_I_sI, me_I_sP, me_I_nx, me_P_sI, me_P_sP, me_P_nx, me_N_sI, me_N_sP, me_N_nx, me_L_sI, me_L_sP, me_L_nx, show me_L M1 45 0 = 144 from h1.2.1.1.2 (45, 0, 144) (by decide)])]; exact (vp_in_nI hx (by decide))) (by decide) kz) ?_
          rw [nI_clamp (by omega)]
          refine jx_of (fun _ _ kz => jw_aload_n 0 d_M_await_76 rfl rfl kz) ?_
          refine jx_of (fun _ _ kz => jw_iload_n 2 d_M_await_77 rfl rfl kz) ?_
          refine jx_of (fun _ _ kz => jw_iconst 1 d_M_await_78 (by decide) kz) ?_
          refine jx_callV (z_M_ready (d + 4) x 1 np nt X (by first | exact (iv_sI (iv_sI h1 (by unfold hl; omega)) (by unfold hl; omega)).2.1 | exact (iv_sI h1 (by unfold hl; omega)).2.1)  hx) mt_M_ready cf_M rfl rfl ml_M_171 im_M_ready se_M_ready d_M_await_79 rfl rfl (Nat.le_of_ble_eq_true rfl) ?_
          rintro _ M2 ⟨rfl, h2⟩
          refine jx_eq (st2 := []) rfl rfl rfl ?_
          refine jx_of (fun _ _ kz => jw_goto 123 d_M_await_82 (by decide) kz) ?_
          refine jx_vret d_M_await_123 rfl ?_
          first | exact ⟨rfl, iv_tr (iv_sI (iv_sI h1 (by unfold hl; omega)) (by unfold hl; omega)) h2⟩ | exact ⟨rfl, iv_tr (iv_sI h1 (by unfold hl; omega)) h2⟩ | exact ⟨rfl, h2⟩ | exact ⟨rfl, iv_tr (iv_sI (iv_sI (iv_sI (iv_rf hI) (by unfold hl; omega)) (by unfold hl; omega)) (by unfold hl; omega)) h2⟩
        · skip
          refine jx_of (fun _ _ kz => jw_aload_n 0 d_M_await_51 rfl rfl kz) ?_
          refine jx_of (fun _ _ kz => jw_iconst 1 d_M_await_52 (by decide) kz) ?_
          refine jx_of (fun _ _ kz => jw_putI fl_M_151 (Or.inl rfl) rfl rfl d_M_await_53 rfl rfl kz) ?_
          refine jx_vret d_M_await_56 rfl ?_
          exact ⟨rfl, (iv_sI h1 (by unfold hl; omega))⟩
    · skip
      refine jx_of (fun _ _ kz => jw_iconst 1 d_M_await_18 (by decide) kz) ?_
      refine jx_of (fun _ _ kz => jw_goto 23 d_M_await_19 (by decide) kz) ?_
      refine jx_of (fun _ _ kz => jw_istore d_M_await_23 (Nat.le_of_ble_eq_true rfl) kz) ?_
      dsimp only [List.set]
      refine jx_of (fun _ _ kz => jw_iload d_M_await_25 rfl kz) ?_
      refine jx_if_ne 39 d_M_await_27 (by decide) (fun _ => ?_) (fun h => absurd h (by decide))
      refine jx_of (fun _ _ kz => jw_aload_n 0 d_M_await_39 rfl rfl kz) ?_
      refine jx_of (fun _ _ kz => jw_iload_n 1 d_M_await_40 rfl rfl kz) ?_
      refine jx_callV (z_M_spends d t np nt X hI  ht) mt_M_spends cf_M rfl rfl ml_M_180 im_M_spends se_M_spends d_M_await_41 rfl rfl (Nat.le_of_ble_eq_true rfl) ?_
      rintro r M1 ⟨hr, h1⟩
      obtain ⟨rv, rfl⟩ : ∃ v : Int32, r = some (.inl v) := by rcases hr with hr | hr; exact ⟨_, hr⟩; exact ⟨_, hr⟩
      refine jx_eq (st2 := [.inl rv]) rfl rfl rfl ?_
      refine jx_of (fun _ _ kz => jw_istore d_M_await_44 (Nat.le_of_ble_eq_true rfl) kz) ?_
      dsimp only [List.set]
      refine jx_of (fun _ _ kz => jw_iload d_M_await_46 rfl kz) ?_
      refine jx_if_ne 57 d_M_await_48 (by decide) (fun b_48 => ?_) (fun b_48 => ?_)
      · skip
        refine jx_of (fun _ _ kz => jw_iload d_M_await_57 rfl kz) ?_
        refine jx_if_eq 69 d_M_await_59 (by decide) (fun h => absurd h (by decide)) (fun _ => ?_)
        refine jx_of (fun _ _ kz => jw_aload_n 0 d_M_await_62 rfl rfl kz) ?_
        refine jx_of (fun _ _ kz => jw_getPe (some (55, 0)) fl_M_86 d_M_await_63 rfl rfl (by simp [me_I_sI, me_I_sP, me_I_nx, me_P_sI, me_P_sP, me_P_nx, me_N_sI, me_N_sP, me_N_nx, me_L_sI, me_L_sP, me_L_nx, show me_P M1 7 0 26 = some (55, 0) from h1.2.1.1.1 (7, 0, 26, 55, 0) (by decide)]) kz) ?_
        refine jx_of (fun _ _ kz => jw_iload_n 3 d_M_await_66 rfl rfl kz) ?_
        refine jx_of (fun _ _ kz => jw_iconst 0 d_M_await_67 (by decide) kz) ?_
        refine jx_of (fun _ _ kz => jw_zast d_M_await_68 rfl rfl (by rw [show me_L _ 55 0 = 2 from (by simp [me_I_sI, me_I_sP, me_I_nx, me_P_sI, me_P_sP, me_P_nx, me_N_sI, me_N_sP, me_N_nx, me_L_sI, me_L_sP, me_L_nx, show me_L M1 55 0 = 2 from h1.2.1.1.2 (55, 0, 2) (by decide)])]; exact (vp_in_nI hg (by decide))) (by decide) kz) ?_
        rw [nI_clamp (by omega)]
        refine jx_of (fun _ _ kz => jw_aload_n 0 d_M_await_69 rfl rfl kz) ?_
        refine jx_of (fun _ _ kz => jw_getPe (some (45, 0)) fl_M_56 d_M_await_70 rfl rfl (by simp [me_I_sI, me_I_sP, me_I_nx, me_P_sI, me_P_sP, me_P_nx, me_N_sI, me_N_sP, me_N_nx, me_L_sI, me_L_sP, me_L_nx, show me_P M1 7 0 16 = some (45, 0) from h1.2.1.1.1 (7, 0, 16, 45, 0) (by decide)]) kz) ?_
        refine jx_of (fun _ _ kz => jw_iload_n 2 d_M_await_73 rfl rfl kz) ?_
        refine jx_of (fun _ _ kz => jw_iconst 0 d_M_await_74 (by decide) kz) ?_
        refine jx_of (fun _ _ kz => jw_zast d_M_await_75 rfl rfl (by rw [show me_L _ 45 0 = 144 from (by simp [me_I_sI, me_I_sP, me_I_nx, me_P_sI, me_P_sP, me_P_nx, me_N_sI, me_N_sP, me_N_nx, me_L_sI, me_L_sP, me_L_nx, show me_L M1 45 0 = 144 from h1.2.1.1.2 (45, 0, 144) (by decide)])]; exact (vp_in_nI hx (by decide))) (by decide) kz) ?_
        rw [nI_clamp (by omega)]
        refine jx_of (fun _ _ kz => jw_aload_n 0 d_M_await_76 rfl rfl kz) ?_
        refine jx_of (fun _ _ kz => jw_iload_n 2 d_M_await_77 rfl rfl kz) ?_
        refine jx_of (fun _ _ kz => jw_iconst 1 d_M_await_78 (by decide) kz) ?_
        refine jx_callV (z_M_ready (d + 4) x 1 np nt X (by first | exact (iv_sI (iv_sI h1 (by unfold hl; omega)) (by unfold hl; omega)).2.1 | exact (iv_sI h1 (by unfold hl; omega)).2.1)  hx) mt_M_ready cf_M rfl rfl ml_M_171 im_M_ready se_M_ready d_M_await_79 rfl rfl (Nat.le_of_ble_eq_true rfl) ?_
        rintro _ M2 ⟨rfl, h2⟩
        refine jx_eq (st2 := []) rfl rfl rfl ?_
        refine jx_of (fun _ _ kz => jw_goto 123 d_M_await_82 (by decide) kz) ?_
        refine jx_vret d_M_await_123 rfl ?_
        first | exact ⟨rfl, iv_tr (iv_sI (iv_sI h1 (by unfold hl; omega)) (by unfold hl; omega)) h2⟩ | exact ⟨rfl, iv_tr (iv_sI h1 (by unfold hl; omega)) h2⟩ | exact ⟨rfl, h2⟩ | exact ⟨rfl, iv_tr (iv_sI (iv_sI (iv_sI (iv_rf hI) (by unfold hl; omega)) (by unfold hl; omega)) (by unfold hl; omega)) h2⟩
      · skip
        refine jx_of (fun _ _ kz => jw_aload_n 0 d_M_await_51 rfl rfl kz) ?_
        refine jx_of (fun _ _ kz => jw_iconst 1 d_M_await_52 (by decide) kz) ?_
        refine jx_of (fun _ _ kz => jw_putI fl_M_151 (Or.inl rfl) rfl rfl d_M_await_53 rfl rfl kz) ?_
        refine jx_vret d_M_await_56 rfl ?_
        exact ⟨rfl, (iv_sI h1 (by unfold hl; omega))⟩
set_option maxRecDepth 20000 in
set_option maxHeartbeats 4000000 in
theorem z_M_reap_f {G : Gt} {M : Me} (d : Nat) (t : Nat) (x : Nat) (u : Int32) (np : Nat) (nt : Nat) (X : List Nat) (hI : mI M np nt X) (ht : t < nt) (hx : x < 144) (hu : u < 0 ∨ nI nt - 1 < u) : sx G yt_M_reap yn_M_reap (d + 6) [.inr (some (7, 0)), .inl (nI t), .inl (nI x), .inl u] M (fun r M' => r = none ∧ iv np nt nt X M M') := by
  refine sx_of (k := 0) (lc := [some (.inr (some (7, 0))), some (.inl (nI t)), some (.inl (nI x)), some (.inl u)]) mt_M_reap (Nat.le_of_ble_eq_true rfl) rfl ?_
  refine jx_of (fun _ _ kz => jw_iload_n 3 d_M_reap_0 rfl rfl kz) ?_
  refine jx_of (fun _ _ kz => jw_iconst 0 d_M_reap_1 (by decide) kz) ?_
  refine jx_of (fun _ _ kz => jw_aload_n 0 d_M_reap_2 rfl rfl kz) ?_
  refine jx_of (fun _ _ kz => jw_getIe (nI nt) fl_M_112 d_M_reap_3 rfl rfl hI.2.2.1.1 kz) ?_
  refine jx_of (fun _ _ kz => jw_iconst 1 d_M_reap_6 (by decide) kz) ?_
  refine jx_of (fun _ _ kz => jw_isub d_M_reap_7 kz) ?_
  refine jx_callS (x_M_is_f (d + 4) u 0 (((nI nt) - 1))  hu) mt_M_is ml_M_93 sm_M_is d_M_reap_8 rfl rfl (Nat.le_of_ble_eq_true rfl) ?_
  rintro _ _ ⟨rfl, rfl⟩
  refine jx_eq (st2 := [.inl 0]) rfl rfl rfl ?_
  refine jx_if_eq 19 d_M_reap_11 (by decide) (fun _ => ?_) (fun h => absurd h (by decide))
  refine jx_of (fun _ _ kz => jw_aload_n 0 d_M_reap_19 rfl rfl kz) ?_
  refine jx_of (fun _ _ kz => jw_iload_n 2 d_M_reap_20 rfl rfl kz) ?_
  refine jx_of (fun _ _ kz => jw_bipush 98 d_M_reap_21 (by decide) kz) ?_
  refine jx_callV (z_M_broken (d + 4) x 98 np nt X hI  hx) mt_M_broken cf_M rfl rfl ml_M_165 im_M_broken se_M_broken d_M_reap_23 rfl rfl (Nat.le_of_ble_eq_true rfl) ?_
  rintro _ M1 ⟨rfl, h1⟩
  refine jx_eq (st2 := []) rfl rfl rfl ?_
  refine jx_of (fun _ _ kz => jw_goto 110 d_M_reap_26 (by decide) kz) ?_
  refine jx_vret d_M_reap_110 rfl ?_
  exact ⟨rfl, h1⟩
set_option maxRecDepth 20000 in
set_option maxHeartbeats 4000000 in
theorem z_M_reap_t {G : Gt} {M : Me} (d : Nat) (t : Nat) (x : Nat) (u : Nat) (np : Nat) (nt : Nat) (X : List Nat) (hI : mI M np nt X) (ht : t < nt) (hx : x < 144) (hu : u < nt) (hu1 : ¬ nI u < 0) (hu2 : ¬ nI nt - 1 < nI u) : sx G yt_M_reap yn_M_reap (d + 6) [.inr (some (7, 0)), .inl (nI t), .inl (nI x), .inl (nI u)] M (fun r M' => r = none ∧ iv np nt nt X M M') := by
  refine sx_of (k := 0) (lc := [some (.inr (some (7, 0))), some (.inl (nI t)), some (.inl (nI x)), some (.inl (nI u))]) mt_M_reap (Nat.le_of_ble_eq_true rfl) rfl ?_
  refine jx_of (fun _ _ kz => jw_iload_n 3 d_M_reap_0 rfl rfl kz) ?_
  refine jx_of (fun _ _ kz => jw_iconst 0 d_M_reap_1 (by decide) kz) ?_
  refine jx_of (fun _ _ kz => jw_aload_n 0 d_M_reap_2 rfl rfl kz) ?_
  refine jx_of (fun _ _ kz => jw_getIe (nI nt) fl_M_112 d_M_reap_3 rfl rfl hI.2.2.1.1 kz) ?_
  refine jx_of (fun _ _ kz => jw_iconst 1 d_M_reap_6 (by decide) kz) ?_
  refine jx_of (fun _ _ kz => jw_isub d_M_reap_7 kz) ?_
  refine jx_callS (x_M_is_t (d + 4) ((nI u)) 0 (((nI nt) - 1))  hu1 hu2) mt_M_is ml_M_93 sm_M_is d_M_reap_8 rfl rfl (Nat.le_of_ble_eq_true rfl) ?_
  rintro _ _ ⟨rfl, rfl⟩
  refine jx_eq (st2 := [.inl 1]) rfl rfl rfl ?_
  refine jx_if_eq 19 d_M_reap_11 (by decide) (fun h => absurd h (by decide)) (fun _ => ?_)
  refine jx_of (fun _ _ kz => jw_iload_n 3 d_M_reap_14 rfl rfl kz) ?_
  refine jx_of (fun _ _ kz => jw_iload_n 1 d_M_reap_15 rfl rfl kz) ?_
  refine jx_icmp_ne 29 d_M_reap_16 (by decide) (fun b_16 => ?_) (fun b_16 => ?_)
  · skip
    refine jx_of (fun _ _ kz => jw_aload_n 0 d_M_reap_29 rfl rfl kz) ?_
    refine jx_of (fun _ _ kz => jw_getPe (some (33, 0)) fl_M_19 d_M_reap_30 rfl rfl (by simp [me_I_sI, me_I_sP, me_I_nx, me_P_sI, me_P_sP, me_P_nx, me_N_sI, me_N_sP, me_N_nx, me_L_sI, me_L_sP, me_L_nx, show me_P M 7 0 4 = some (33, 0) from hI.1.1 (7, 0, 4, 33, 0) (by decide)]) kz) ?_
    refine jx_of (fun _ _ kz => jw_iload_n 3 d_M_reap_33 rfl rfl kz) ?_
    refine jx_of (fun _ _ kz => jw_ialde (me_I M 33 0 u) d_M_reap_34 rfl rfl (by rw [show me_L _ 33 0 = 12 from (by simp [me_I_sI, me_I_sP, me_I_nx, me_P_sI, me_P_sP, me_P_nx, me_N_sI, me_N_sP, me_N_nx, me_L_sI, me_L_sP, me_L_nx, show me_L M 33 0 = 12 from hI.1.2 (33, 0, 12) (by decide)])]; exact (vp_in_nI (by have := hI.2.2.1.2.1; omega) (by decide))) (by rw [nI_clamp (by have := hI.2.2.1.2.1; omega)]) kz) ?_
    refine jx_of (fun _ _ kz => jw_iconst 3 d_M_reap_35 (by decide) kz) ?_
    refine jx_icmp_ne 53 d_M_reap_36 (by decide) (fun b_36 => ?_) (fun b_36 => ?_)
    · skip
      refine jx_of (fun _ _ kz => jw_aload_n 0 d_M_reap_53 rfl rfl kz) ?_
      refine jx_of (fun _ _ kz => jw_getPe (some (33, 0)) fl_M_19 d_M_reap_54 rfl rfl (by simp [me_I_sI, me_I_sP, me_I_nx, me_P_sI, me_P_sP, me_P_nx, me_N_sI, me_N_sP, me_N_nx, me_L_sI, me_L_sP, me_L_nx, show me_P M 7 0 4 = some (33, 0) from hI.1.1 (7, 0, 4, 33, 0) (by decide)]) kz) ?_
      refine jx_of (fun _ _ kz => jw_iload_n 3 d_M_reap_57 rfl rfl kz) ?_
      refine jx_of (fun _ _ kz => jw_ialde (me_I M 33 0 u) d_M_reap_58 rfl rfl (by rw [show me_L _ 33 0 = 12 from (by simp [me_I_sI, me_I_sP, me_I_nx, me_P_sI, me_P_sP, me_P_nx, me_N_sI, me_N_sP, me_N_nx, me_L_sI, me_L_sP, me_L_nx, show me_L M 33 0 = 12 from hI.1.2 (33, 0, 12) (by decide)])]; exact (vp_in_nI (by have := hI.2.2.1.2.1; omega) (by decide))) (by rw [nI_clamp (by have := hI.2.2.1.2.1; omega)]) kz) ?_
      refine jx_of (fun _ _ kz => jw_iconst 4 d_M_reap_59 (by decide) kz) ?_
      refine jx_icmp_ne 73 d_M_reap_60 (by decide) (fun b_60 => ?_) (fun b_60 => ?_)
      · skip
        refine jx_of (fun _ _ kz => jw_aload_n 0 d_M_reap_73 rfl rfl kz) ?_
        refine jx_of (fun _ _ kz => jw_getPe (some (33, 0)) fl_M_19 d_M_reap_74 rfl rfl (by simp [me_I_sI, me_I_sP, me_I_nx, me_P_sI, me_P_sP, me_P_nx, me_N_sI, me_N_sP, me_N_nx, me_L_sI, me_L_sP, me_L_nx, show me_P M 7 0 4 = some (33, 0) from hI.1.1 (7, 0, 4, 33, 0) (by decide)]) kz) ?_
        refine jx_of (fun _ _ kz => jw_iload_n 3 d_M_reap_77 rfl rfl kz) ?_
        refine jx_of (fun _ _ kz => jw_ialde (me_I M 33 0 u) d_M_reap_78 rfl rfl (by rw [show me_L _ 33 0 = 12 from (by simp [me_I_sI, me_I_sP, me_I_nx, me_P_sI, me_P_sP, me_P_nx, me_N_sI, me_N_sP, me_N_nx, me_L_sI, me_L_sP, me_L_nx, show me_L M 33 0 = 12 from hI.1.2 (33, 0, 12) (by decide)])]; exact (vp_in_nI (by have := hI.2.2.1.2.1; omega) (by decide))) (by rw [nI_clamp (by have := hI.2.2.1.2.1; omega)]) kz) ?_
        refine jx_of (fun _ _ kz => jw_iconst 2 d_M_reap_79 (by decide) kz) ?_
        refine jx_icmp_ne 105 d_M_reap_80 (by decide) (fun b_80 => ?_) (fun b_80 => ?_)
        · skip
          refine jx_of (fun _ _ kz => jw_aload_n 0 d_M_reap_105 rfl rfl kz) ?_
          refine jx_of (fun _ _ kz => jw_iload_n 2 d_M_reap_106 rfl rfl kz) ?_
          refine jx_callV (z_M_pending (d + 4) x np nt X (by first | exact h1.2.1 | exact hI)  hx) mt_M_pending cf_M rfl rfl ml_M_174 im_M_pending se_M_pending d_M_reap_107 rfl rfl (Nat.le_of_ble_eq_true rfl) ?_
          rintro _ M2 ⟨rfl, h2⟩
          refine jx_eq (st2 := []) rfl rfl rfl ?_
          refine jx_vret d_M_reap_110 rfl ?_
          first | exact ⟨rfl, iv_tr h1 h2⟩ | exact ⟨rfl, h2⟩
        · skip
          refine jx_of (fun _ _ kz => jw_aload_n 0 d_M_reap_83 rfl rfl kz) ?_
          refine jx_of (fun _ _ kz => jw_iload_n 1 d_M_reap_84 rfl rfl kz) ?_
          refine jx_callV (z_M_spends d t np nt X hI  ht) mt_M_spends cf_M rfl rfl ml_M_180 im_M_spends se_M_spends d_M_reap_85 rfl rfl (Nat.le_of_ble_eq_true rfl) ?_
          rintro r M1 ⟨hr, h1⟩
          obtain ⟨rv, rfl⟩ : ∃ v : Int32, r = some (.inl v) := by rcases hr with hr | hr; exact ⟨_, hr⟩; exact ⟨_, hr⟩
          refine jx_eq (st2 := [.inl rv]) rfl rfl rfl ?_
          refine jx_if_eq 105 d_M_reap_88 (by decide) (fun b_88 => ?_) (fun b_88 => ?_)
          · skip
            refine jx_of (fun _ _ kz => jw_aload_n 0 d_M_reap_105 rfl rfl kz) ?_
            refine jx_of (fun _ _ kz => jw_iload_n 2 d_M_reap_106 rfl rfl kz) ?_
            refine jx_callV (z_M_pending (d + 4) x np nt X (by first | exact h1.2.1 | exact hI)  hx) mt_M_pending cf_M rfl rfl ml_M_174 im_M_pending se_M_pending d_M_reap_107 rfl rfl (Nat.le_of_ble_eq_true rfl) ?_
            rintro _ M2 ⟨rfl, h2⟩
            refine jx_eq (st2 := []) rfl rfl rfl ?_
            refine jx_vret d_M_reap_110 rfl ?_
            first | exact ⟨rfl, iv_tr h1 h2⟩ | exact ⟨rfl, h2⟩
          · skip
            refine jx_of (fun _ _ kz => jw_aload_n 0 d_M_reap_91 rfl rfl kz) ?_
            refine jx_of (fun _ _ kz => jw_iload_n 2 d_M_reap_92 rfl rfl kz) ?_
            refine jx_of (fun _ _ kz => jw_aload_n 0 d_M_reap_93 rfl rfl kz) ?_
            refine jx_of (fun _ _ kz => jw_getPe (some (34, 0)) fl_M_22 d_M_reap_94 rfl rfl (by simp [me_I_sI, me_I_sP, me_I_nx, me_P_sI, me_P_sP, me_P_nx, me_N_sI, me_N_sP, me_N_nx, me_L_sI, me_L_sP, me_L_nx, show me_P M1 7 0 5 = some (34, 0) from h1.2.1.1.1 (7, 0, 5, 34, 0) (by decide)]) kz) ?_
            refine jx_of (fun _ _ kz => jw_iload_n 3 d_M_reap_97 rfl rfl kz) ?_
            refine jx_of (fun _ _ kz => jw_ialde (me_I M1 34 0 u) d_M_reap_98 rfl rfl (by rw [show me_L _ 34 0 = 12 from (by simp [me_I_sI, me_I_sP, me_I_nx, me_P_sI, me_P_sP, me_P_nx, me_N_sI, me_N_sP, me_N_nx, me_L_sI, me_L_sP, me_L_nx, show me_L M1 34 0 = 12 from h1.2.1.1.2 (34, 0, 12) (by decide)])]; exact (vp_in_nI (by have := hI.2.2.1.2.1; omega) (by decide))) (by rw [nI_clamp (by have := hI.2.2.1.2.1; omega)]) kz) ?_
            refine jx_callV (z_M_ready (d + 4) x ((me_I M1 34 0 u)) np nt X h1.2.1  hx) mt_M_ready cf_M rfl rfl ml_M_171 im_M_ready se_M_ready d_M_reap_99 rfl rfl (Nat.le_of_ble_eq_true rfl) ?_
            rintro _ M2 ⟨rfl, h2⟩
            refine jx_eq (st2 := []) rfl rfl rfl ?_
            refine jx_of (fun _ _ kz => jw_goto 110 d_M_reap_102 (by decide) kz) ?_
            refine jx_vret d_M_reap_110 rfl ?_
            first | exact ⟨rfl, iv_tr h1 h2⟩ | exact ⟨rfl, h2⟩
      · skip
        refine jx_of (fun _ _ kz => jw_aload_n 0 d_M_reap_63 rfl rfl kz) ?_
        refine jx_of (fun _ _ kz => jw_iload_n 2 d_M_reap_64 rfl rfl kz) ?_
        refine jx_of (fun _ _ kz => jw_bipush 99 d_M_reap_65 (by decide) kz) ?_
        refine jx_callV (z_M_broken (d + 4) x 99 np nt X hI  hx) mt_M_broken cf_M rfl rfl ml_M_165 im_M_broken se_M_broken d_M_reap_67 rfl rfl (Nat.le_of_ble_eq_true rfl) ?_
        rintro _ M2 ⟨rfl, h2⟩
        refine jx_eq (st2 := []) rfl rfl rfl ?_
        refine jx_of (fun _ _ kz => jw_goto 110 d_M_reap_70 (by decide) kz) ?_
        refine jx_vret d_M_reap_110 rfl ?_
        first | exact ⟨rfl, iv_tr h1 h2⟩ | exact ⟨rfl, h2⟩
    · skip
      refine jx_of (fun _ _ kz => jw_aload_n 0 d_M_reap_39 rfl rfl kz) ?_
      refine jx_of (fun _ _ kz => jw_iload_n 2 d_M_reap_40 rfl rfl kz) ?_
      refine jx_of (fun _ _ kz => jw_aload_n 0 d_M_reap_41 rfl rfl kz) ?_
      refine jx_of (fun _ _ kz => jw_getPe (some (34, 0)) fl_M_22 d_M_reap_42 rfl rfl (by simp [me_I_sI, me_I_sP, me_I_nx, me_P_sI, me_P_sP, me_P_nx, me_N_sI, me_N_sP, me_N_nx, me_L_sI, me_L_sP, me_L_nx, show me_P M 7 0 5 = some (34, 0) from hI.1.1 (7, 0, 5, 34, 0) (by decide)]) kz) ?_
      refine jx_of (fun _ _ kz => jw_iload_n 3 d_M_reap_45 rfl rfl kz) ?_
      refine jx_of (fun _ _ kz => jw_ialde (me_I M 34 0 u) d_M_reap_46 rfl rfl (by rw [show me_L _ 34 0 = 12 from (by simp [me_I_sI, me_I_sP, me_I_nx, me_P_sI, me_P_sP, me_P_nx, me_N_sI, me_N_sP, me_N_nx, me_L_sI, me_L_sP, me_L_nx, show me_L M 34 0 = 12 from hI.1.2 (34, 0, 12) (by decide)])]; exact (vp_in_nI (by have := hI.2.2.1.2.1; omega) (by decide))) (by rw [nI_clamp (by have := hI.2.2.1.2.1; omega)]) kz) ?_
      refine jx_callV (z_M_broken (d + 4) x ((me_I M 34 0 u)) np nt X hI  hx) mt_M_broken cf_M rfl rfl ml_M_165 im_M_broken se_M_broken d_M_reap_47 rfl rfl (Nat.le_of_ble_eq_true rfl) ?_
      rintro _ M2 ⟨rfl, h2⟩
      refine jx_eq (st2 := []) rfl rfl rfl ?_
      refine jx_of (fun _ _ kz => jw_goto 110 d_M_reap_50 (by decide) kz) ?_
      refine jx_vret d_M_reap_110 rfl ?_
      first | exact ⟨rfl, iv_tr h1 h2⟩ | exact ⟨rfl, h2⟩
  · skip
    refine jx_of (fun _ _ kz => jw_aload_n 0 d_M_reap_19 rfl rfl kz) ?_
    refine jx_of (fun _ _ kz => jw_iload_n 2 d_M_reap_20 rfl rfl kz) ?_
    refine jx_of (fun _ _ kz => jw_bipush 98 d_M_reap_21 (by decide) kz) ?_
    refine jx_callV (z_M_broken (d + 4) x 98 np nt X hI  hx) mt_M_broken cf_M rfl rfl ml_M_165 im_M_broken se_M_broken d_M_reap_23 rfl rfl (Nat.le_of_ble_eq_true rfl) ?_
    rintro _ M2 ⟨rfl, h2⟩
    refine jx_eq (st2 := []) rfl rfl rfl ?_
    refine jx_of (fun _ _ kz => jw_goto 110 d_M_reap_26 (by decide) kz) ?_
    refine jx_vret d_M_reap_110 rfl ?_
    first | exact ⟨rfl, iv_tr h1 h2⟩ | exact ⟨rfl, h2⟩
theorem z_M_reap {G : Gt} {M : Me} (d t x : Nat) (u : Int32) (np nt : Nat) (X : List Nat) (hI : mI M np nt X) (ht : t < nt) (hx : x < 144) : sx G yt_M_reap yn_M_reap (d + 6) [.inr (some (7, 0)), .inl (nI t), .inl (nI x), .inl u] M (fun r M' => r = none ∧ iv np nt nt X M M') := by
  rcases rng u nt (by have := hI.2.2.1.2.1; omega) with h | ⟨j, hj, rfl, h1, h2⟩
  · exact z_M_reap_f d t x u np nt X hI ht hx h
  · exact z_M_reap_t d t x j np nt X hI ht hx hj h1 h2
set_option maxRecDepth 20000 in
set_option maxHeartbeats 4000000 in
theorem z_M_make_loop {G : Gt} {M : Me} (d pp np nt : Nat) (X : List Nat) (h12 : nt < 12) (c0 s0 : Nat) : ∀ (m k : Nat) (M1 : Me), k + m = 12 * nt + 12 → iv np nt (nt + 1) X M M1 → jx G yt_M_make (d + 5) c0 s0 M1 38 [some (.inr (some (7, 0))), some (.inl (nI pp)), some (.inl (nI nt)), some (.inl (nI k))] [] (fun r M' => r = some (.inl (nI nt)) ∧ iv np nt (nt + 1) X M M') := by
  intro m
  induction m with
  | zero =>
    intro k M1 hk h1
    have hm1 := h1.2.1.1
    refine jx_of (fun _ _ kz => jw_iload_n 3 d_M_make_38 rfl rfl kz) ?_
    refine jx_of (fun _ _ kz => jw_bipush 12 d_M_make_39 (by decide) kz) ?_
    refine jx_of (fun _ _ kz => jw_iload_n 2 d_M_make_41 rfl rfl kz) ?_
    refine jx_of (fun _ _ kz => jw_imul d_M_make_42 kz) ?_
    rw [show (12 * (nI nt) : Int32) = nI (12 * nt) from n12 nt]
    refine jx_of (fun _ _ kz => jw_bipush 12 d_M_make_43 (by decide) kz) ?_
    refine jx_of (fun _ _ kz => jw_iadd d_M_make_45 kz) ?_
    rw [show ((nI (12 * nt)) + 12 : Int32) = nI (12 * nt + 12) from nI_add _ 12]
    refine jx_icmp_ge 83 d_M_make_46 (by decide) (fun _ => ?_) (fun h => absurd (nI_le (by omega) (by omega)) h)
    refine jx_of (fun _ _ kz => jw_aload_n 0 d_M_make_83 rfl rfl kz) ?_
    refine jx_of (fun _ _ kz => jw_iload_n 2 d_M_make_84 rfl rfl kz) ?_
    refine jx_callV (z_M_wakeUp d nt ((nt + 1)) X hm1  (by omega) h1.2.1.2.2.2.2 h1.2.1.2.2.2.1) mt_M_wakeUp cf_M rfl rfl ml_M_115 im_M_wakeUp se_M_wakeUp d_M_make_85 rfl rfl (Nat.le_of_ble_eq_true rfl) ?_
    rintro _ M3 ⟨rfl, q3, c3, t3⟩
    refine jx_eq (st2 := []) rfl rfl rfl ?_
    refine jx_of (fun _ _ kz => jw_iload_n 2 d_M_make_88 rfl rfl kz) ?_
    refine jx_iret d_M_make_89 rfl ?_
    exact ⟨rfl, iv_mc h1 q3 c3 t3⟩
  | succ m ih =>
    intro k M1 hk h1
    have hm1 := h1.2.1.1
    refine jx_of (fun _ _ kz => jw_iload_n 3 d_M_make_38 rfl rfl kz) ?_
    refine jx_of (fun _ _ kz => jw_bipush 12 d_M_make_39 (by decide) kz) ?_
    refine jx_of (fun _ _ kz => jw_iload_n 2 d_M_make_41 rfl rfl kz) ?_
    refine jx_of (fun _ _ kz => jw_imul d_M_make_42 kz) ?_
    rw [show (12 * (nI nt) : Int32) = nI (12 * nt) from n12 nt]
    refine jx_of (fun _ _ kz => jw_bipush 12 d_M_make_43 (by decide) kz) ?_
    refine jx_of (fun _ _ kz => jw_iadd d_M_make_45 kz) ?_
    rw [show ((nI (12 * nt)) + 12 : Int32) = nI (12 * nt + 12) from nI_add _ 12]
    refine jx_icmp_ge 83 d_M_make_46 (by decide) (fun h => absurd h (nI_ge (by omega) (by omega))) (fun _ => ?_)
    refine jx_of (fun _ _ kz => jw_aload_n 0 d_M_make_49 rfl rfl kz) ?_
    refine jx_of (fun _ _ kz => jw_getPe (some (40, 0)) fl_M_41 d_M_make_50 rfl rfl (by simp [me_I_sI, me_I_sP, me_I_nx, me_P_sI, me_P_sP, me_P_nx, me_N_sI, me_N_sP, me_N_nx, me_L_sI, me_L_sP, me_L_nx, show me_P M1 7 0 11 = some (40, 0) from hm1.1 (7, 0, 11, 40, 0) (by decide)]) kz) ?_
    refine jx_of (fun _ _ kz => jw_iload_n 3 d_M_make_53 rfl rfl kz) ?_
    refine jx_of (fun _ _ kz => jw_iconst 0 d_M_make_54 (by decide) kz) ?_
    refine jx_of (fun _ _ kz => jw_iast d_M_make_55 rfl rfl (by rw [show me_L _ 40 0 = 144 from (by simp [me_I_sI, me_I_sP, me_I_nx, me_P_sI, me_P_sP, me_P_nx, me_N_sI, me_N_sP, me_N_nx, me_L_sI, me_L_sP, me_L_nx, show me_L M1 40 0 = 144 from hm1.2 (40, 0, 144) (by decide)])]; exact (vp_in_nI (by omega) (by decide))) kz) ?_
    rw [nI_clamp (by omega)]
    refine jx_of (fun _ _ kz => jw_aload_n 0 d_M_make_56 rfl rfl kz) ?_
    refine jx_of (fun _ _ kz => jw_getPe (some (42, 0)) fl_M_47 d_M_make_57 rfl rfl (by simp [me_I_sI, me_I_sP, me_I_nx, me_P_sI, me_P_sP, me_P_nx, me_N_sI, me_N_sP, me_N_nx, me_L_sI, me_L_sP, me_L_nx, show me_P M1 7 0 13 = some (42, 0) from hm1.1 (7, 0, 13, 42, 0) (by decide)]) kz) ?_
    refine jx_of (fun _ _ kz => jw_iload_n 3 d_M_make_60 rfl rfl kz) ?_
    refine jx_of (fun _ _ kz => jw_iconst 0 d_M_make_61 (by decide) kz) ?_
    refine jx_of (fun _ _ kz => jw_iast d_M_make_62 rfl rfl (by rw [show me_L _ 42 0 = 144 from (by simp [me_I_sI, me_I_sP, me_I_nx, me_P_sI, me_P_sP, me_P_nx, me_N_sI, me_N_sP, me_N_nx, me_L_sI, me_L_sP, me_L_nx, show me_L M1 42 0 = 144 from hm1.2 (42, 0, 144) (by decide)])]; exact (vp_in_nI (by omega) (by decide))) kz) ?_
    rw [nI_clamp (by omega)]
    refine jx_of (fun _ _ kz => jw_aload_n 0 d_M_make_63 rfl rfl kz) ?_
    refine jx_of (fun _ _ kz => jw_getPe (some (44, 0)) fl_M_53 d_M_make_64 rfl rfl (by simp [me_I_sI, me_I_sP, me_I_nx, me_P_sI, me_P_sP, me_P_nx, me_N_sI, me_N_sP, me_N_nx, me_L_sI, me_L_sP, me_L_nx, show me_P M1 7 0 15 = some (44, 0) from hm1.1 (7, 0, 15, 44, 0) (by decide)]) kz) ?_
    refine jx_of (fun _ _ kz => jw_iload_n 3 d_M_make_67 rfl rfl kz) ?_
    refine jx_of (fun _ _ kz => jw_iconst 0 d_M_make_68 (by decide) kz) ?_
    refine jx_of (fun _ _ kz => jw_zast d_M_make_69 rfl rfl (by rw [show me_L _ 44 0 = 144 from (by simp [me_I_sI, me_I_sP, me_I_nx, me_P_sI, me_P_sP, me_P_nx, me_N_sI, me_N_sP, me_N_nx, me_L_sI, me_L_sP, me_L_nx, show me_L M1 44 0 = 144 from hm1.2 (44, 0, 144) (by decide)])]; exact (vp_in_nI (by omega) (by decide))) (by decide) kz) ?_
    rw [nI_clamp (by omega)]
    refine jx_of (fun _ _ kz => jw_aload_n 0 d_M_make_70 rfl rfl kz) ?_
    refine jx_of (fun _ _ kz => jw_getPe (some (45, 0)) fl_M_56 d_M_make_71 rfl rfl (by simp [me_I_sI, me_I_sP, me_I_nx, me_P_sI, me_P_sP, me_P_nx, me_N_sI, me_N_sP, me_N_nx, me_L_sI, me_L_sP, me_L_nx, show me_P M1 7 0 16 = some (45, 0) from hm1.1 (7, 0, 16, 45, 0) (by decide)]) kz) ?_
    refine jx_of (fun _ _ kz => jw_iload_n 3 d_M_make_74 rfl rfl kz) ?_
    refine jx_of (fun _ _ kz => jw_iconst 0 d_M_make_75 (by decide) kz) ?_
    refine jx_of (fun _ _ kz => jw_zast d_M_make_76 rfl rfl (by rw [show me_L _ 45 0 = 144 from (by simp [me_I_sI, me_I_sP, me_I_nx, me_P_sI, me_P_sP, me_P_nx, me_N_sI, me_N_sP, me_N_nx, me_L_sI, me_L_sP, me_L_nx, show me_L M1 45 0 = 144 from hm1.2 (45, 0, 144) (by decide)])]; exact (vp_in_nI (by omega) (by decide))) (by decide) kz) ?_
    rw [nI_clamp (by omega)]
    refine jx_of (fun _ _ kz => jw_iincc 1 d_M_make_77 (by decide) rfl (Nat.le_of_ble_eq_true rfl) kz) ?_
    dsimp only [List.set]
    refine jx_of (fun _ _ kz => jw_goto 38 d_M_make_80 (by decide) kz) ?_
    rw [nI_1]
    exact ih (k + 1) _ (by omega) (iv_sI (iv_sI (iv_sI (iv_sI h1 (by unfold hl; omega)) (by unfold hl; omega)) (by unfold hl; omega)) (by unfold hl; omega))
set_option maxRecDepth 20000 in
set_option maxHeartbeats 4000000 in
theorem z_M_make {G : Gt} {M : Me} (d : Nat) (pp : Nat) (np : Nat) (nt : Nat) (X : List Nat) (hI : mI M np nt X) (hp : pp < np) (h12 : nt < 12) : sx G yt_M_make yn_M_make (d + 5) [.inr (some (7, 0)), .inl (nI pp)] M (fun r M' => r = some (.inl (nI nt)) ∧ iv np nt (nt + 1) X M M') := by
  refine sx_of (k := 2) (lc := [some (.inr (some (7, 0))), some (.inl (nI pp)), none, none]) mt_M_make (Nat.le_of_ble_eq_true rfl) rfl ?_
  refine jx_of (fun _ _ kz => jw_aload_n 0 d_M_make_0 rfl rfl kz) ?_
  refine jx_of (fun _ _ kz => jw_dup d_M_make_1 kz) ?_
  refine jx_of (fun _ _ kz => jw_getIe (nI nt) fl_M_112 d_M_make_2 rfl rfl hI.2.2.1.1 kz) ?_
  refine jx_of (fun _ _ kz => jw_dup_x1 d_M_make_5 kz) ?_
  refine jx_of (fun _ _ kz => jw_iconst 1 d_M_make_6 (by decide) kz) ?_
  refine jx_of (fun _ _ kz => jw_iadd d_M_make_7 kz) ?_
  rw [show ((nI nt) + 1 : Int32) = nI (nt + 1) from nI_1 _]
  refine jx_of (fun _ _ kz => jw_putI fl_M_112 (Or.inl rfl) rfl rfl d_M_make_8 rfl rfl kz) ?_
  refine jx_of (fun _ _ kz => jw_istore_n 2 d_M_make_11 rfl (Nat.le_of_ble_eq_true rfl) kz) ?_
  dsimp only [List.set]
  refine jx_of (fun _ _ kz => jw_aload_n 0 d_M_make_12 rfl rfl kz) ?_
  refine jx_of (fun _ _ kz => jw_getPe (some (36, 0)) fl_M_28 d_M_make_13 rfl rfl (by simp [me_I_sI, me_I_sP, me_I_nx, me_P_sI, me_P_sP, me_P_nx, me_N_sI, me_N_sP, me_N_nx, me_L_sI, me_L_sP, me_L_nx, show me_P M 7 0 7 = some (36, 0) from hI.1.1 (7, 0, 7, 36, 0) (by decide)]) kz) ?_
  refine jx_of (fun _ _ kz => jw_iload_n 2 d_M_make_16 rfl rfl kz) ?_
  refine jx_of (fun _ _ kz => jw_iload_n 1 d_M_make_17 rfl rfl kz) ?_
  refine jx_of (fun _ _ kz => jw_iast d_M_make_18 rfl rfl (by rw [show me_L _ 36 0 = 12 from (by simp [me_I_sI, me_I_sP, me_I_nx, me_P_sI, me_P_sP, me_P_nx, me_N_sI, me_N_sP, me_N_nx, me_L_sI, me_L_sP, me_L_nx, show me_L M 36 0 = 12 from hI.1.2 (36, 0, 12) (by decide)])]; exact (vp_in_nI h12 (by decide))) kz) ?_
  rw [nI_clamp (by omega)]
  refine jx_of (fun _ _ kz => jw_aload_n 0 d_M_make_19 rfl rfl kz) ?_
  refine jx_of (fun _ _ kz => jw_getPe (some (33, 0)) fl_M_19 d_M_make_20 rfl rfl (by simp [me_I_sI, me_I_sP, me_I_nx, me_P_sI, me_P_sP, me_P_nx, me_N_sI, me_N_sP, me_N_nx, me_L_sI, me_L_sP, me_L_nx, show me_P M 7 0 4 = some (33, 0) from hI.1.1 (7, 0, 4, 33, 0) (by decide)]) kz) ?_
  refine jx_of (fun _ _ kz => jw_iload_n 2 d_M_make_23 rfl rfl kz) ?_
  refine jx_of (fun _ _ kz => jw_iconst 0 d_M_make_24 (by decide) kz) ?_
  refine jx_of (fun _ _ kz => jw_iast d_M_make_25 rfl rfl (by rw [show me_L _ 33 0 = 12 from (by simp [me_I_sI, me_I_sP, me_I_nx, me_P_sI, me_P_sP, me_P_nx, me_N_sI, me_N_sP, me_N_nx, me_L_sI, me_L_sP, me_L_nx, show me_L M 33 0 = 12 from hI.1.2 (33, 0, 12) (by decide)])]; exact (vp_in_nI h12 (by decide))) kz) ?_
  rw [nI_clamp (by omega)]
  refine jx_of (fun _ _ kz => jw_aload_n 0 d_M_make_26 rfl rfl kz) ?_
  refine jx_of (fun _ _ kz => jw_getPe (some (37, 0)) fl_M_31 d_M_make_27 rfl rfl (by simp [me_I_sI, me_I_sP, me_I_nx, me_P_sI, me_P_sP, me_P_nx, me_N_sI, me_N_sP, me_N_nx, me_L_sI, me_L_sP, me_L_nx, show me_P M 7 0 8 = some (37, 0) from hI.1.1 (7, 0, 8, 37, 0) (by decide)]) kz) ?_
  refine jx_of (fun _ _ kz => jw_iload_n 2 d_M_make_30 rfl rfl kz) ?_
  refine jx_of (fun _ _ kz => jw_iconst 4 d_M_make_31 (by decide) kz) ?_
  refine jx_of (fun _ _ kz => jw_iast d_M_make_32 rfl rfl (by rw [show me_L _ 37 0 = 12 from (by simp [me_I_sI, me_I_sP, me_I_nx, me_P_sI, me_P_sP, me_P_nx, me_N_sI, me_N_sP, me_N_nx, me_L_sI, me_L_sP, me_L_nx, show me_L M 37 0 = 12 from hI.1.2 (37, 0, 12) (by decide)])]; exact (vp_in_nI h12 (by decide))) kz) ?_
  rw [nI_clamp (by omega)]
  refine jx_of (fun _ _ kz => jw_bipush 12 d_M_make_33 (by decide) kz) ?_
  refine jx_of (fun _ _ kz => jw_iload_n 2 d_M_make_35 rfl rfl kz) ?_
  refine jx_of (fun _ _ kz => jw_imul d_M_make_36 kz) ?_
  rw [show (12 * (nI nt) : Int32) = nI (12 * nt) from n12 nt]
  refine jx_of (fun _ _ kz => jw_istore_n 3 d_M_make_37 rfl (Nat.le_of_ble_eq_true rfl) kz) ?_
  dsimp only [List.set]
  exact z_M_make_loop d pp np nt X h12 _ _ 12 (12 * nt) _ (by omega) (iv_sI (iv_make hI h12 hp) (by unfold hl; omega))
