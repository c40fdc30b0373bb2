set_option maxRecDepth 20000 in
set_option maxHeartbeats 4000000 in
theorem y_P_fe_in {G : Gt} {M1 : Me} (d i n c : Nat) (o : Nat → Nat) (hP1 : pO M1 i n o) (hc : c < n) (c0 s0 : Nat) (Q : Option AV → Me → Prop) (hK : ∀ (e : Nat) (o3 : Option AV), e ≤ 12 → jx G yt_P_findEnds (d + 3) c0 s0 M1 43 [some (.inr (some (1, i))), some (.inl (nI c)), some (.inl (nI e)), o3] [] Q) : ∀ (m q e : Nat), q + m = pN (o c) → e ≤ 12 → jx G yt_P_findEnds (d + 3) c0 s0 M1 17 [some (.inr (some (1, i))), some (.inl (nI c)), some (.inl (nI e)), some (.inl (nI q))] [] Q := by
  have h12 := hP1.2.1
  have hpn : pN (o c) ≤ 2 := by unfold pN; split; omega; split <;> omega
  intro m
  induction m with
  | zero =>
    intro q e hk he
    refine jx_of (fun _ _ kz => jw_iload_n 3 d_P_findEnds_17 rfl rfl kz) ?_
    refine jx_of (fun _ _ kz => jw_getsN (q := (22, "PARTS", sv_PARTS)) (by decide) (host := "PollYard") (by decide) d_P_findEnds_18 kz) ?_
    refine jx_of (fun _ _ kz => jw_aload_n 0 d_P_findEnds_21 rfl rfl kz) ?_
    refine jx_of (fun _ _ kz => jw_getPe (some (11, i)) fl_P_9 d_P_findEnds_22 rfl rfl (by simp [me_I_sI, me_I_sP, me_I_nx, me_P_sI, me_P_sP, me_P_nx, me_N_sI, me_N_sP, me_N_nx, me_L_sI, me_L_sP, me_L_nx, show me_P M1 1 i 0 = some (11, i) from hP1.1.1]) kz) ?_
    refine jx_of (fun _ _ kz => jw_iload_n 1 d_P_findEnds_25 rfl rfl kz) ?_
    refine jx_of (fun _ _ kz => jw_ialde (nI (o c)) d_P_findEnds_26 rfl rfl (by rw [show me_L _ 11 i = 12 from (by simp [me_I_sI, me_I_sP, me_I_nx, me_P_sI, me_P_sP, me_P_nx, me_N_sI, me_N_sP, me_N_nx, me_L_sI, me_L_sP, me_L_nx, show me_L M1 11 i = 12 from hP1.1.2.2.2.1])]; exact (vp_in_nI (by omega) (by omega))) (by rw [nI_clamp (by omega)]; exact (hP1.2.2.2.1 c hc).2) kz) ?_
    refine jx_of (fun _ _ kz => jw_ialdS (q := (22, "PARTS", sv_PARTS)) (by decide) d_P_findEnds_27 (vp_in_nI (hP1.2.2.2.1 c hc).1 (by decide)) kz) ?_
    rw [show (sv_PARTS.getD (nI (o c)).toNatClampNeg 0 : Int32) = nI (pN (o c)) from pN_sv (hP1.2.2.2.1 c hc).1]
    refine jx_icmp_ge 43 d_P_findEnds_28 (by decide) (fun _ => ?_) (fun h => absurd (nI_le (by omega) (by omega)) h)
    exact hK e _ he
  | succ m ih =>
    intro q e hk he
    refine jx_of (fun _ _ kz => jw_iload_n 3 d_P_findEnds_17 rfl rfl kz) ?_
    refine jx_of (fun _ _ kz => jw_getsN (q := (22, "PARTS", sv_PARTS)) (by decide) (host := "PollYard") (by decide) d_P_findEnds_18 kz) ?_
    refine jx_of (fun _ _ kz => jw_aload_n 0 d_P_findEnds_21 rfl rfl kz) ?_
    refine jx_of (fun _ _ kz => jw_getPe (some (11, i)) fl_P_9 d_P_findEnds_22 rfl rfl (by simp [me_I_sI, me_I_sP, me_I_nx, me_P_sI, me_P_sP, me_P_nx, me_N_sI, me_N_sP, me_N_nx, me_L_sI, me_L_sP, me_L_nx, show me_P M1 1 i 0 = some (11, i) from hP1.1.1]) kz) ?_
    refine jx_of (fun _ _ kz => jw_iload_n 1 d_P_findEnds_25 rfl rfl kz) ?_
    refine jx_of (fun _ _ kz => jw_ialde (nI (o c)) d_P_findEnds_26 rfl rfl (by rw [show me_L _ 11 i = 12 from (by simp [me_I_sI, me_I_sP, me_I_nx, me_P_sI, me_P_sP, me_P_nx, me_N_sI, me_N_sP, me_N_nx, me_L_sI, me_L_sP, me_L_nx, show me_L M1 11 i = 12 from hP1.1.2.2.2.1])]; exact (vp_in_nI (by omega) (by omega))) (by rw [nI_clamp (by omega)]; exact (hP1.2.2.2.1 c hc).2) kz) ?_
    refine jx_of (fun _ _ kz => jw_ialdS (q := (22, "PARTS", sv_PARTS)) (by decide) d_P_findEnds_27 (vp_in_nI (hP1.2.2.2.1 c hc).1 (by decide)) kz) ?_
    rw [show (sv_PARTS.getD (nI (o c)).toNatClampNeg 0 : Int32) = nI (pN (o c)) from pN_sv (hP1.2.2.2.1 c hc).1]
    refine jx_icmp_ge 43 d_P_findEnds_28 (by decide) (fun h => absurd h (nI_ge (by omega) (by omega))) (fun _ => ?_)
    refine jx_of (fun _ _ kz => jw_aload_n 0 d_P_findEnds_31 rfl rfl kz) ?_
    refine jx_of (fun _ _ kz => jw_iload_n 2 d_P_findEnds_32 rfl rfl kz) ?_
    refine jx_callV (y_P_endOf d i n o ((nI e)) hP1) mt_P_endOf cf_P rfl rfl ml_P_32 im_P_endOf se_P_endOf d_P_findEnds_33 rfl rfl (Nat.le_of_ble_eq_true rfl) ?_
    rintro _ _ ⟨⟨e2, he2, rfl⟩, rfl⟩
    refine jx_eq (st2 := [.inl (nI e2)]) rfl rfl rfl ?_
    refine jx_of (fun _ _ kz => jw_istore_n 2 d_P_findEnds_36 rfl (Nat.le_of_ble_eq_true rfl) kz) ?_
    dsimp only [List.set]
    refine jx_of (fun _ _ kz => jw_iincc 1 d_P_findEnds_37 (by decide) rfl (Nat.le_of_ble_eq_true rfl) kz) ?_
    dsimp only [List.set]
    refine jx_of (fun _ _ kz => jw_goto 17 d_P_findEnds_40 (by decide) kz) ?_
    rw [nI_1]
    exact ih (q + 1) e2 (by omega) he2
set_option maxRecDepth 20000 in
set_option maxHeartbeats 4000000 in
theorem y_P_fe_out {G : Gt} {M : Me} (d i n : Nat) (o : Nat → Nat) (c0 s0 : Nat) : ∀ (c : Nat) (M1 : Me) (o2 o3 : Option AV), c ≤ n → pO M1 i n o → ec i M M1 → jx G yt_P_findEnds (d + 3) c0 s0 M1 7 [some (.inr (some (1, i))), some (.inl (nI c + (-1))), o2, o3] [] (fun r M' => r = none ∧ pO M' i n o ∧ ec i M M') := by
  intro c
  induction c with
  | zero =>
    intro M1 o2 o3 hc hP1 h1
    refine jx_of (fun _ _ kz => jw_iload_n 1 d_P_findEnds_7 rfl rfl kz) ?_
    refine jx_if_lt 56 d_P_findEnds_8 (by decide) (fun _ => ?_) (fun h => absurd (by decide) h)
    refine jx_vret d_P_findEnds_56 rfl ?_
    exact ⟨rfl, hP1, h1⟩
  | succ c ih =>
    intro M1 o2 o3 hc hP1 h1
    have h12 := hP1.2.1
    have h43 : ∀ (e : Nat) (o3 : Option AV), e ≤ 12 → jx G yt_P_findEnds (d + 3) c0 s0 M1 43 [some (.inr (some (1, i))), some (.inl (nI c)), some (.inl (nI e)), o3] [] (fun r M' => r = none ∧ pO M' i n o ∧ ec i M M') := by
      intro e o3 he
      refine jx_of (fun _ _ kz => jw_aload_n 0 d_P_findEnds_43 rfl rfl kz) ?_
      refine jx_of (fun _ _ kz => jw_getPe (some (13, i)) fl_P_18 d_P_findEnds_44 rfl rfl (by simp [me_I_sI, me_I_sP, me_I_nx, me_P_sI, me_P_sP, me_P_nx, me_N_sI, me_N_sP, me_N_nx, me_L_sI, me_L_sP, me_L_nx, show me_P M1 1 i 2 = some (13, i) from hP1.1.2.2.1]) kz) ?_
      refine jx_of (fun _ _ kz => jw_iload_n 1 d_P_findEnds_47 rfl rfl kz) ?_
      refine jx_of (fun _ _ kz => jw_iload_n 2 d_P_findEnds_48 rfl rfl kz) ?_
      refine jx_of (fun _ _ kz => jw_iast d_P_findEnds_49 rfl rfl (by rw [show me_L _ 13 i = 12 from (by simp [me_I_sI, me_I_sP, me_I_nx, me_P_sI, me_P_sP, me_P_nx, me_N_sI, me_N_sP, me_N_nx, me_L_sI, me_L_sP, me_L_nx, show me_L M1 13 i = 12 from hP1.1.2.2.2.2.2])]; exact (vp_in_nI (by omega) (by omega))) kz) ?_
      rw [nI_clamp (by omega)]
      refine jx_of (fun _ _ kz => jw_iincc (-1) d_P_findEnds_50 (by decide) rfl (Nat.le_of_ble_eq_true rfl) kz) ?_
      dsimp only [List.set]
      refine jx_of (fun _ _ kz => jw_goto 7 d_P_findEnds_53 (by decide) kz) ?_
      exact ih _ _ _ (by omega) (pO_st hP1 he) (ec_st h1)
    rw [n_m1]
    refine jx_of (fun _ _ kz => jw_iload_n 1 d_P_findEnds_7 rfl rfl kz) ?_
    refine jx_if_lt 56 d_P_findEnds_8 (by decide) (fun h => absurd h (nI_pos (by omega))) (fun _ => ?_)
    refine jx_of (fun _ _ kz => jw_iload_n 1 d_P_findEnds_11 rfl rfl kz) ?_
    refine jx_of (fun _ _ kz => jw_iconst 1 d_P_findEnds_12 (by decide) kz) ?_
    refine jx_of (fun _ _ kz => jw_iadd d_P_findEnds_13 kz) ?_
    rw [show ((nI c) + 1 : Int32) = nI (c + 1) from nI_1 _]
    refine jx_of (fun _ _ kz => jw_istore_n 2 d_P_findEnds_14 rfl (Nat.le_of_ble_eq_true rfl) kz) ?_
    dsimp only [List.set]
    refine jx_of (fun _ _ kz => jw_iconst 0 d_P_findEnds_15 (by decide) kz) ?_
    refine jx_of (fun _ _ kz => jw_istore_n 3 d_P_findEnds_16 rfl (Nat.le_of_ble_eq_true rfl) kz) ?_
    dsimp only [List.set]
    exact y_P_fe_in d i n c o hP1 (by omega) _ _ _ h43 _ 0 (c + 1) (Nat.zero_add _) (by omega)
set_option maxRecDepth 20000 in
set_option maxHeartbeats 4000000 in
theorem y_P_findEnds {G : Gt} {M : Me} (d : Nat) (i : Nat) (n : Nat) (o : Nat → Nat) (hP : pO M i n o) : sx G yt_P_findEnds yn_P_findEnds (d + 3) [.inr (some (1, i))] M (fun r M' => r = none ∧ pO M' i n o ∧ ec i M M') := by
  refine sx_of (k := 3) (lc := [some (.inr (some (1, i))), none, none, none]) mt_P_findEnds (Nat.le_of_ble_eq_true rfl) rfl ?_
  refine jx_of (fun _ _ kz => jw_aload_n 0 d_P_findEnds_0 rfl rfl kz) ?_
  refine jx_of (fun _ _ kz => jw_getIe (nI n) fl_P_21 d_P_findEnds_1 rfl rfl hP.2.2.1 kz) ?_
  refine jx_of (fun _ _ kz => jw_iconst 1 d_P_findEnds_4 (by decide) kz) ?_
  refine jx_of (fun _ _ kz => jw_isub d_P_findEnds_5 kz) ?_
  rw [show ((nI n) - 1 : Int32) = nI n + (-1) from Int32.sub_eq_add_neg _ _]
  refine jx_of (fun _ _ kz => jw_istore_n 1 d_P_findEnds_6 rfl (Nat.le_of_ble_eq_true rfl) kz) ?_
  dsimp only [List.set]
  exact y_P_fe_out d i n o _ _ n M _ _ (Nat.le_refl _) hP ec_rf
