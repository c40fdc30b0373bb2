theorem yv_13 {np nt nt1 x : Nat} {M M1 : Me} (h : yv np nt nt1 M M1) (hx : x < 3) : yv np nt nt1 M (me_sI M1 0 0 13 (nI x)) := by
  obtain ⟨a1, ⟨⟨a, b, c⟩, ⟨c1, c2, c3, c4, c5, c6, c7⟩, e1, e2, e3⟩, a3, a4, a5, a6⟩ := h
  refine ⟨a1, ⟨⟨a, b, fun i hi => rO_k (c i hi) (by omega)⟩, ⟨c1, by rw [me_I_sI, if_neg (by omega)]; exact c2, c3, c4, fun i hi => ?_, fun w hw => by rw [me_I_sI, if_neg (by omega)]; exact c6 w hw, x, hx, by simp [me_I_sI]⟩, e1, by rw [me_I_sI, if_neg (by omega)]; exact e2, fun t ht => ⟨(e3 t ht).1, ?_⟩⟩, a3, ⟨fun s j k q => by rw [me_I_sI, if_neg (by omega)]; exact a4.1 s j k q, a4.2⟩, a5, a6⟩
  · obtain ⟨n, o, g⟩ := c5 i hi
    exact ⟨n, o, g.1, g.2.1, by rw [me_I_sI, if_neg (by omega)]; exact g.2.2.1, fun j hj => by rw [me_I_sI, if_neg (by omega)]; exact g.2.2.2.1 j hj, fun j hj => by rw [me_I_sI, if_neg (by omega)]; exact g.2.2.2.2 j hj⟩
  · obtain ⟨p, n, o, g1, g2, g⟩ := (e3 t ht).2
    exact ⟨p, n, o, g1, g2, g.1, g.2.1, by rw [me_I_sI, if_neg (by omega)]; exact g.2.2.1, fun j hj => by rw [me_I_sI, if_neg (by omega)]; exact g.2.2.2.1 j hj, fun j hj => by rw [me_I_sI, if_neg (by omega)]; exact g.2.2.2.2 j hj⟩
set_option maxRecDepth 20000 in
set_option maxHeartbeats 4000000 in
theorem y_Y_spawn {G : Gt} {M : Me} (d : Nat) (x : Int32) (np : Nat) (nt : Nat) (hY : yI M np nt) (hN : yN M np nt) : sx G yt_Y_spawn yn_Y_spawn (d + 3) [.inr (some (0, 0)), .inl x] M (fun r M' => (∃ v : Int32, r = some (.inl v)) ∧ ∃ nt', yv np nt nt' M M') := by
  refine sx_of (k := 1) (lc := [some (.inr (some (0, 0))), some (.inl x), none]) mt_Y_spawn (Nat.le_of_ble_eq_true rfl) rfl ?_
  refine jx_of (fun _ _ kz => jw_iload_n 1 d_Y_spawn_0 rfl rfl kz) ?_
  refine jx_if_lt 12 d_Y_spawn_1 (by decide) (fun b_1 => ?_) (fun b_1 => ?_)
  · skip
    refine jx_of (fun _ _ kz => jw_iconst (-1) d_Y_spawn_12 (by decide) kz) ?_
    refine jx_iret d_Y_spawn_13 rfl ?_
    exact ⟨⟨_, rfl⟩, nt, yv_rf hY hN⟩
  · skip
    refine jx_of (fun _ _ kz => jw_iload_n 1 d_Y_spawn_4 rfl rfl kz) ?_
    refine jx_of (fun _ _ kz => jw_aload_n 0 d_Y_spawn_5 rfl rfl kz) ?_
    refine jx_of (fun _ _ kz => jw_getIe (nI np) fl_Y_20 d_Y_spawn_6 rfl rfl hY.2.1.2.1 kz) ?_
    refine jx_icmp_lt 14 d_Y_spawn_9 (by decide) (fun b_9 => ?_) (fun b_9 => ?_)
    · skip
      refine jx_of (fun _ _ kz => jw_aload_n 0 d_Y_spawn_14 rfl rfl kz) ?_
      refine jx_of (fun _ _ kz => jw_getIe (nI nt) fl_Y_30 d_Y_spawn_15 rfl rfl hY.2.2.2.1 kz) ?_
      refine jx_of (fun _ _ kz => jw_bipush 12 d_Y_spawn_18 (by decide) kz) ?_
      refine jx_icmp_lt 26 d_Y_spawn_20 (by decide) (fun b_20 => ?_) (fun b_20 => ?_)
      · skip
        refine jx_of (fun _ _ kz => jw_aload_n 0 d_Y_spawn_26 rfl rfl kz) ?_
        refine jx_of (fun _ _ kz => jw_iload_n 1 d_Y_spawn_27 rfl rfl kz) ?_
        refine jx_callV (y_Y_makeTask d x np nt hY  hN) mt_Y_makeTask cf_Y rfl rfl ml_Y_99 im_Y_makeTask se_Y_makeTask d_Y_spawn_28 rfl rfl (Nat.le_of_ble_eq_true rfl) ?_
        rintro _ M1 ⟨⟨v1, rfl⟩, nt1, u1⟩
        have w1 := u1
        have h1 := w1.2.1
        refine jx_eq (st2 := [.inl v1]) rfl rfl rfl ?_
        refine jx_of (fun _ _ kz => jw_istore_n 2 d_Y_spawn_31 rfl (Nat.le_of_ble_eq_true rfl) kz) ?_
        dsimp only [List.set]
        refine jx_of (fun _ _ kz => jw_aload_n 0 d_Y_spawn_32 rfl rfl kz) ?_
        refine jx_callV (y_Y_injectWoken d np nt1 h1) mt_Y_injectWoken cf_Y rfl rfl ml_Y_103 im_Y_injectWoken se_Y_injectWoken d_Y_spawn_33 rfl rfl (Nat.le_of_ble_eq_true rfl) ?_
        rintro _ M2 ⟨rfl, h2, k2⟩
        have w2 := yv_yk w1 h2 k2
        refine jx_eq (st2 := []) rfl rfl rfl ?_
        refine jx_of (fun _ _ kz => jw_iload_n 2 d_Y_spawn_36 rfl rfl kz) ?_
        refine jx_iret d_Y_spawn_37 rfl ?_
        exact ⟨⟨_, rfl⟩, _, w2⟩
      · skip
        refine jx_of (fun _ _ kz => jw_bipush (-2) d_Y_spawn_23 (by decide) kz) ?_
        refine jx_iret d_Y_spawn_25 rfl ?_
        exact ⟨⟨_, rfl⟩, nt, yv_rf hY hN⟩
    · skip
      refine jx_of (fun _ _ kz => jw_iconst (-1) d_Y_spawn_12 (by decide) kz) ?_
      refine jx_iret d_Y_spawn_13 rfl ?_
      exact ⟨⟨_, rfl⟩, nt, yv_rf hY hN⟩
set_option maxRecDepth 20000 in
set_option maxHeartbeats 4000000 in
theorem y_Y_turn {G : Gt} {M : Me} (d : Nat) (x : Int32) (np : Nat) (nt : Nat) (hY : yI M np nt) (hN : yN M np nt) : sx G yt_Y_turn yn_Y_turn (d + 32) [.inr (some (0, 0)), .inl x] M (fun r M' => (∃ v : Int32, r = some (.inl v)) ∧ ∃ nt', yv np nt nt' M M') := by
  refine sx_of (k := 0) (lc := [some (.inr (some (0, 0))), some (.inl x)]) mt_Y_turn (Nat.le_of_ble_eq_true rfl) rfl ?_
  refine jx_of (fun _ _ kz => jw_iload_n 1 d_Y_turn_0 rfl rfl kz) ?_
  refine jx_if_lt 9 d_Y_turn_1 (by decide) (fun b_1 => ?_) (fun b_1 => ?_)
  · skip
    refine jx_of (fun _ _ kz => jw_iconst (-1) d_Y_turn_9 (by decide) kz) ?_
    refine jx_of (fun _ _ kz => jw_goto 23 d_Y_turn_10 (by decide) kz) ?_
    refine jx_iret d_Y_turn_23 rfl ?_
    first | exact ⟨⟨_, rfl⟩, _, w1⟩ | exact ⟨⟨_, rfl⟩, nt, yv_rf hY hN⟩
  · skip
    refine jx_of (fun _ _ kz => jw_iload_n 1 d_Y_turn_4 rfl rfl kz) ?_
    refine jx_of (fun _ _ kz => jw_iconst 3 d_Y_turn_5 (by decide) kz) ?_
    refine jx_icmp_lt 13 d_Y_turn_6 (by decide) (fun b_6 => ?_) (fun b_6 => ?_)
    · skip
      obtain ⟨w, hw0, rfl⟩ := nI_of b_1
      have hw : w < 3 := (nI_ltI (b := 3) hw0 (by decide)).mp b_6
      refine jx_of (fun _ _ kz => jw_aload_n 0 d_Y_turn_13 rfl rfl kz) ?_
      refine jx_of (fun _ _ kz => jw_aload_n 0 d_Y_turn_14 rfl rfl kz) ?_
      refine jx_of (fun _ _ kz => jw_getPe (some (19, 0)) fl_Y_38 d_Y_turn_15 rfl rfl (by simp [me_I_sI, me_I_sP, me_I_nx, me_P_sI, me_P_sP, me_P_nx, me_N_sI, me_N_sP, me_N_nx, me_L_sI, me_L_sP, me_L_nx, show me_P M 0 0 5 = some (19, 0) from hY.1.1 (0, 0, 5, 19, 0) (by decide)]) kz) ?_
      refine jx_of (fun _ _ kz => jw_iload_n 1 d_Y_turn_18 rfl rfl kz) ?_
      refine jx_of (fun _ _ kz => jw_aalde (some (3, w)) d_Y_turn_19 rfl rfl (by rw [show me_L _ 19 0 = 3 from (by simp [me_I_sI, me_I_sP, me_I_nx, me_P_sI, me_P_sP, me_P_nx, me_N_sI, me_N_sP, me_N_nx, me_L_sI, me_L_sP, me_L_nx, show me_L M 19 0 = 3 from hY.1.2.1 (19, 0, 3) (by decide)])]; exact (vp_in_nI (by omega) (by omega))) (by rw [nI_clamp (by omega)]; exact yw19 hY hw) kz) ?_
      refine jx_callV (y_Y_takeTurn d w np nt hY  hw hN) mt_Y_takeTurn cf_Y rfl rfl ml_Y_106 im_Y_takeTurn se_Y_takeTurn d_Y_turn_20 rfl rfl (Nat.le_of_ble_eq_true rfl) ?_
      rintro _ M1 ⟨⟨v1, rfl⟩, nt1, u1⟩
      have w1 := u1
      have h1 := w1.2.1
      refine jx_eq (st2 := [.inl v1]) rfl rfl rfl ?_
      refine jx_iret d_Y_turn_23 rfl ?_
      first | exact ⟨⟨_, rfl⟩, _, w1⟩ | exact ⟨⟨_, rfl⟩, nt, yv_rf hY hN⟩
    · skip
      refine jx_of (fun _ _ kz => jw_iconst (-1) d_Y_turn_9 (by decide) kz) ?_
      refine jx_of (fun _ _ kz => jw_goto 23 d_Y_turn_10 (by decide) kz) ?_
      refine jx_iret d_Y_turn_23 rfl ?_
      first | exact ⟨⟨_, rfl⟩, _, w1⟩ | exact ⟨⟨_, rfl⟩, nt, yv_rf hY hN⟩
set_option maxRecDepth 20000 in
set_option maxHeartbeats 4000000 in
theorem y_Y_rn_l {G : Gt} {M : Me} (d c np nt : Nat) (hc : c ≤ 30) (c0 s0 : Nat) : ∀ (m k : Nat) (M1 : Me) (nt1 : Nat) (pl : Int32), k + m = c → yv np nt nt1 M M1 → jx G yt_Y_run (d + 32) c0 s0 M1 17 [some (.inr (some (0, 0))), some (.inl (nI c)), some (.inl pl), some (.inl (nI k))] [] (fun r M' => (∃ v : Int32, r = some (.inl v)) ∧ ∃ nt', yv np nt nt' M M') := by
  intro m
  induction m with
  | zero =>
    intro k M1 nt1 pl hm w1
    have h1 := w1.2.1
    refine jx_of (fun _ _ kz => jw_iload_n 3 d_Y_run_17 rfl rfl kz) ?_
    refine jx_of (fun _ _ kz => jw_iload_n 1 d_Y_run_18 rfl rfl kz) ?_
    refine jx_icmp_ge 61 d_Y_run_19 (by decide) (fun _ => ?_) (fun h => absurd (nI_le (by omega) (by omega)) h)
    refine jx_of (fun _ _ kz => jw_iload_n 2 d_Y_run_61 rfl rfl kz) ?_
    refine jx_iret d_Y_run_62 rfl ?_
    exact ⟨⟨_, rfl⟩, _, w1⟩
  | succ m ih =>
    intro k M1 nt1 pl hm w1
    have h1 := w1.2.1
    refine jx_of (fun _ _ kz => jw_iload_n 3 d_Y_run_17 rfl rfl kz) ?_
    refine jx_of (fun _ _ kz => jw_iload_n 1 d_Y_run_18 rfl rfl kz) ?_
    refine jx_icmp_ge 61 d_Y_run_19 (by decide) (fun h => absurd h (nI_ge (by omega) (by omega))) (fun _ => ?_)
    obtain ⟨x2, hx2, e2⟩ := h1.2.1.2.2.2.2.2.2
    refine jx_of (fun _ _ kz => jw_aload_n 0 d_Y_run_22 rfl rfl kz) ?_
    refine jx_of (fun _ _ kz => jw_aload_n 0 d_Y_run_23 rfl rfl kz) ?_
    refine jx_of (fun _ _ kz => jw_getPe (some (19, 0)) fl_Y_38 d_Y_run_24 rfl rfl (by simp [me_I_sI, me_I_sP, me_I_nx, me_P_sI, me_P_sP, me_P_nx, me_N_sI, me_N_sP, me_N_nx, me_L_sI, me_L_sP, me_L_nx, show me_P M1 0 0 5 = some (19, 0) from h1.1.1 (0, 0, 5, 19, 0) (by decide)]) kz) ?_
    refine jx_of (fun _ _ kz => jw_aload_n 0 d_Y_run_27 rfl rfl kz) ?_
    refine jx_of (fun _ _ kz => jw_getIe (nI x2) fl_Y_75 d_Y_run_28 rfl rfl e2 kz) ?_
    refine jx_of (fun _ _ kz => jw_aalde (some (3, x2)) d_Y_run_31 rfl rfl (by rw [show me_L _ 19 0 = 3 from (by simp [me_I_sI, me_I_sP, me_I_nx, me_P_sI, me_P_sP, me_P_nx, me_N_sI, me_N_sP, me_N_nx, me_L_sI, me_L_sP, me_L_nx, show me_L M1 19 0 = 3 from h1.1.2.1 (19, 0, 3) (by decide)])]; exact (vp_in_nI (by omega) (by omega))) (by rw [nI_clamp (by omega)]; exact yw19 h1 hx2) kz) ?_
    refine jx_callV (y_Y_takeTurn d x2 np nt1 h1  hx2 w1.2.2.1) mt_Y_takeTurn cf_Y rfl rfl ml_Y_106 im_Y_takeTurn se_Y_takeTurn d_Y_run_32 rfl rfl (Nat.le_of_ble_eq_true rfl) ?_
    rintro _ M2 ⟨⟨v2, rfl⟩, nt2, u2⟩
    have w2 := yv_tr w1 u2
    have h2 := w2.2.1
    refine jx_eq (st2 := [.inl v2]) rfl rfl rfl ?_
    refine jx_of (fun _ _ kz => jw_bipush (-2) d_Y_run_35 (by decide) kz) ?_
    refine jx_icmp_eq 43 d_Y_run_37 (by decide) (fun b_37 => ?_) (fun b_37 => ?_)
    · skip
      obtain ⟨x3, hx3, e3⟩ := h2.2.1.2.2.2.2.2.2
      refine jx_of (fun _ _ kz => jw_aload_n 0 d_Y_run_43 rfl rfl kz) ?_
      refine jx_of (fun _ _ kz => jw_aload_n 0 d_Y_run_44 rfl rfl kz) ?_
      refine jx_of (fun _ _ kz => jw_getIe (nI x3) fl_Y_75 d_Y_run_45 rfl rfl e3 kz) ?_
      refine jx_of (fun _ _ kz => jw_iconst 1 d_Y_run_48 (by decide) kz) ?_
      refine jx_of (fun _ _ kz => jw_iadd d_Y_run_49 kz) ?_
      rw [show ((nI x3) + 1 : Int32) = nI (x3 + 1) from nI_1 _]
      refine jx_of (fun _ _ kz => jw_iconst 3 d_Y_run_50 (by decide) kz) ?_
      refine jx_of (fun _ _ kz => jw_irem d_Y_run_51 (by decide) kz) ?_
      rw [show ((nI (x3 + 1)) - (nI (x3 + 1)) / 3 * 3 : Int32) = nI ((x3 + 1) % 3) from pk_rem (by omega) (by decide) (by decide)]
      refine jx_of (fun _ _ kz => jw_putI fl_Y_75 (Or.inl rfl) rfl rfl d_Y_run_52 rfl rfl kz) ?_
      refine jx_of (fun _ _ kz => jw_iincc 1 d_Y_run_55 (by decide) rfl (Nat.le_of_ble_eq_true rfl) kz) ?_
      dsimp only [List.set]
      refine jx_of (fun _ _ kz => jw_goto 17 d_Y_run_58 (by decide) kz) ?_
      rw [nI_1]
      exact ih (k + 1) _ _ _ (by omega) (yv_13 w2 (Nat.mod_lt _ (by decide)))
    · skip
      refine jx_of (fun _ _ kz => jw_iincc 1 d_Y_run_40 (by decide) rfl (Nat.le_of_ble_eq_true rfl) kz) ?_
      dsimp only [List.set]
      obtain ⟨x3, hx3, e3⟩ := h2.2.1.2.2.2.2.2.2
      refine jx_of (fun _ _ kz => jw_aload_n 0 d_Y_run_43 rfl rfl kz) ?_
      refine jx_of (fun _ _ kz => jw_aload_n 0 d_Y_run_44 rfl rfl kz) ?_
      refine jx_of (fun _ _ kz => jw_getIe (nI x3) fl_Y_75 d_Y_run_45 rfl rfl e3 kz) ?_
      refine jx_of (fun _ _ kz => jw_iconst 1 d_Y_run_48 (by decide) kz) ?_
      refine jx_of (fun _ _ kz => jw_iadd d_Y_run_49 kz) ?_
      rw [show ((nI x3) + 1 : Int32) = nI (x3 + 1) from nI_1 _]
      refine jx_of (fun _ _ kz => jw_iconst 3 d_Y_run_50 (by decide) kz) ?_
      refine jx_of (fun _ _ kz => jw_irem d_Y_run_51 (by decide) kz) ?_
      rw [show ((nI (x3 + 1)) - (nI (x3 + 1)) / 3 * 3 : Int32) = nI ((x3 + 1) % 3) from pk_rem (by omega) (by decide) (by decide)]
      refine jx_of (fun _ _ kz => jw_putI fl_Y_75 (Or.inl rfl) rfl rfl d_Y_run_52 rfl rfl kz) ?_
      refine jx_of (fun _ _ kz => jw_iincc 1 d_Y_run_55 (by decide) rfl (Nat.le_of_ble_eq_true rfl) kz) ?_
      dsimp only [List.set]
      refine jx_of (fun _ _ kz => jw_goto 17 d_Y_run_58 (by decide) kz) ?_
      rw [nI_1]
      exact ih (k + 1) _ _ _ (by omega) (yv_13 w2 (Nat.mod_lt _ (by decide)))
set_option maxRecDepth 20000 in
set_option maxHeartbeats 4000000 in
theorem y_Y_run {G : Gt} {M : Me} (d : Nat) (x : Int32) (np : Nat) (nt : Nat) (hY : yI M np nt) (hN : yN M np nt) : sx G yt_Y_run yn_Y_run (d + 32) [.inr (some (0, 0)), .inl x] M (fun r M' => (∃ v : Int32, r = some (.inl v)) ∧ ∃ nt', yv np nt nt' M M') := by
  refine sx_of (k := 2) (lc := [some (.inr (some (0, 0))), some (.inl x), none, none]) mt_Y_run (Nat.le_of_ble_eq_true rfl) rfl ?_
  refine jx_of (fun _ _ kz => jw_iload_n 1 d_Y_run_0 rfl rfl kz) ?_
  refine jx_of (fun _ _ kz => jw_iconst 1 d_Y_run_1 (by decide) kz) ?_
  refine jx_icmp_lt 11 d_Y_run_2 (by decide) (fun b_2 => ?_) (fun b_2 => ?_)
  · skip
    refine jx_of (fun _ _ kz => jw_iconst (-1) d_Y_run_11 (by decide) kz) ?_
    refine jx_iret d_Y_run_12 rfl ?_
    exact ⟨⟨_, rfl⟩, nt, yv_rf hY hN⟩
  · skip
    refine jx_of (fun _ _ kz => jw_iload_n 1 d_Y_run_5 rfl rfl kz) ?_
    refine jx_of (fun _ _ kz => jw_bipush 30 d_Y_run_6 (by decide) kz) ?_
    refine jx_icmp_le 13 d_Y_run_8 (by decide) (fun b_8 => ?_) (fun b_8 => ?_)
    · skip
      obtain ⟨c, hc, rfl⟩ := nI_of2 (n := 30) (by decide) (fun q => b_2 (Int32.lt_trans q (by decide))) b_8
      refine jx_of (fun _ _ kz => jw_iconst 0 d_Y_run_13 (by decide) kz) ?_
      refine jx_of (fun _ _ kz => jw_istore_n 2 d_Y_run_14 rfl (Nat.le_of_ble_eq_true rfl) kz) ?_
      dsimp only [List.set]
      refine jx_of (fun _ _ kz => jw_iconst 0 d_Y_run_15 (by decide) kz) ?_
      refine jx_of (fun _ _ kz => jw_istore_n 3 d_Y_run_16 rfl (Nat.le_of_ble_eq_true rfl) kz) ?_
      dsimp only [List.set]
      exact y_Y_rn_l d c np nt hc _ _ c 0 M nt 0 (by omega) (yv_rf hY hN)
    · skip
      refine jx_of (fun _ _ kz => jw_iconst (-1) d_Y_run_11 (by decide) kz) ?_
      refine jx_iret d_Y_run_12 rfl ?_
      exact ⟨⟨_, rfl⟩, nt, yv_rf hY hN⟩
set_option maxRecDepth 20000 in
set_option maxHeartbeats 4000000 in
theorem y_Y_put {G : Gt} {M : Me} (d : Nat) (x : Int32) (y : Int32) (np : Nat) (nt : Nat) (hY : yI M np nt) (hN : yN M np nt) : sx G yt_Y_put yn_Y_put (d + 4) [.inr (some (0, 0)), .inl x, .inl y] M (fun r M' => (∃ v : Int32, r = some (.inl v)) ∧ ∃ nt', yv np nt nt' M M') := by
  refine sx_of (k := 0) (lc := [some (.inr (some (0, 0))), some (.inl x), some (.inl y)]) mt_Y_put (Nat.le_of_ble_eq_true rfl) rfl ?_
  refine jx_of (fun _ _ kz => jw_iload_n 1 d_Y_put_0 rfl rfl kz) ?_
  refine jx_if_lt 20 d_Y_put_1 (by decide) (fun b_1 => ?_) (fun b_1 => ?_)
  · skip
    refine jx_of (fun _ _ kz => jw_iconst (-1) d_Y_put_20 (by decide) kz) ?_
    refine jx_iret d_Y_put_21 rfl ?_
    exact ⟨⟨_, rfl⟩, nt, yv_rf hY hN⟩
  · skip
    refine jx_of (fun _ _ kz => jw_iload_n 1 d_Y_put_4 rfl rfl kz) ?_
    refine jx_of (fun _ _ kz => jw_iconst 1 d_Y_put_5 (by decide) kz) ?_
    refine jx_icmp_gt 20 d_Y_put_6 (by decide) (fun b_6 => ?_) (fun b_6 => ?_)
    · skip
      refine jx_of (fun _ _ kz => jw_iconst (-1) d_Y_put_20 (by decide) kz) ?_
      refine jx_iret d_Y_put_21 rfl ?_
      exact ⟨⟨_, rfl⟩, nt, yv_rf hY hN⟩
    · skip
      refine jx_of (fun _ _ kz => jw_iload_n 2 d_Y_put_9 rfl rfl kz) ?_
      refine jx_of (fun _ _ kz => jw_iconst 1 d_Y_put_10 (by decide) kz) ?_
      refine jx_icmp_lt 20 d_Y_put_11 (by decide) (fun b_11 => ?_) (fun b_11 => ?_)
      · skip
        refine jx_of (fun _ _ kz => jw_iconst (-1) d_Y_put_20 (by decide) kz) ?_
        refine jx_iret d_Y_put_21 rfl ?_
        exact ⟨⟨_, rfl⟩, nt, yv_rf hY hN⟩
      · skip
        refine jx_of (fun _ _ kz => jw_iload_n 2 d_Y_put_14 rfl rfl kz) ?_
        refine jx_of (fun _ _ kz => jw_bipush 9 d_Y_put_15 (by decide) kz) ?_
        refine jx_icmp_le 22 d_Y_put_17 (by decide) (fun b_17 => ?_) (fun b_17 => ?_)
        · skip
          obtain ⟨g, hg1, rfl⟩ := nI_of2 (n := 1) (by decide) b_1 (Int32.not_lt.mp b_6)
          have hg : g < 2 := by omega
          refine jx_of (fun _ _ kz => jw_aload_n 0 d_Y_put_22 rfl rfl kz) ?_
          refine jx_of (fun _ _ kz => jw_aload_n 0 d_Y_put_23 rfl rfl kz) ?_
          refine jx_of (fun _ _ kz => jw_getPe (some (20, 0)) fl_Y_55 d_Y_put_24 rfl rfl (by simp [me_I_sI, me_I_sP, me_I_nx, me_P_sI, me_P_sP, me_P_nx, me_N_sI, me_N_sP, me_N_nx, me_L_sI, me_L_sP, me_L_nx, show me_P M 0 0 8 = some (20, 0) from hY.1.1 (0, 0, 8, 20, 0) (by decide)]) kz) ?_
          refine jx_of (fun _ _ kz => jw_iload_n 1 d_Y_put_27 rfl rfl kz) ?_
          refine jx_of (fun _ _ kz => jw_aalde (some (5, g)) d_Y_put_28 rfl rfl (by rw [show me_L _ 20 0 = 2 from (by simp [me_I_sI, me_I_sP, me_I_nx, me_P_sI, me_P_sP, me_P_nx, me_N_sI, me_N_sP, me_N_nx, me_L_sI, me_L_sP, me_L_nx, show me_L M 20 0 = 2 from hY.1.2.1 (20, 0, 2) (by decide)])]; exact (vp_in_nI (by omega) (by omega))) (by rw [nI_clamp (by omega)]; exact yg20 hY hg) kz) ?_
          refine jx_of (fun _ _ kz => jw_iload_n 2 d_Y_put_29 rfl rfl kz) ?_
          refine jx_callV (y_Y_addPermits d g y np nt hY  hg) mt_Y_addPermits cf_Y rfl rfl ml_Y_133 im_Y_addPermits se_Y_addPermits d_Y_put_30 rfl rfl (Nat.le_of_ble_eq_true rfl) ?_
          rintro _ M1 ⟨rfl, h1, k1⟩
          have w1 := yv_yk (yv_rf hY hN) h1 k1
          refine jx_eq (st2 := []) rfl rfl rfl ?_
          refine jx_of (fun _ _ kz => jw_aload_n 0 d_Y_put_33 rfl rfl kz) ?_
          refine jx_callV (y_Y_injectWoken (d + 1) np nt h1) mt_Y_injectWoken cf_Y rfl rfl ml_Y_103 im_Y_injectWoken se_Y_injectWoken d_Y_put_34 rfl rfl (Nat.le_of_ble_eq_true rfl) ?_
          rintro _ M2 ⟨rfl, h2, k2⟩
          have w2 := yv_yk w1 h2 k2
          refine jx_eq (st2 := []) rfl rfl rfl ?_
          refine jx_of (fun _ _ kz => jw_aload_n 0 d_Y_put_37 rfl rfl kz) ?_
          refine jx_of (fun _ _ kz => jw_getPe (some (20, 0)) fl_Y_55 d_Y_put_38 rfl rfl (by simp [me_I_sI, me_I_sP, me_I_nx, me_P_sI, me_P_sP, me_P_nx, me_N_sI, me_N_sP, me_N_nx, me_L_sI, me_L_sP, me_L_nx, show me_P M2 0 0 8 = some (20, 0) from h2.1.1 (0, 0, 8, 20, 0) (by decide)]) kz) ?_
          refine jx_of (fun _ _ kz => jw_iload_n 1 d_Y_put_41 rfl rfl kz) ?_
          refine jx_of (fun _ _ kz => jw_aalde (some (5, g)) d_Y_put_42 rfl rfl (by rw [show me_L _ 20 0 = 2 from (by simp [me_I_sI, me_I_sP, me_I_nx, me_P_sI, me_P_sP, me_P_nx, me_N_sI, me_N_sP, me_N_nx, me_L_sI, me_L_sP, me_L_nx, show me_L M2 20 0 = 2 from h2.1.2.1 (20, 0, 2) (by decide)])]; exact (vp_in_nI (by omega) (by omega))) (by rw [nI_clamp (by omega)]; exact yg20 h2 hg) kz) ?_
          refine jx_of (fun _ _ kz => jw_getIe (_) fl_Y_137 d_Y_put_43 rfl rfl rfl kz) ?_
          refine jx_iret d_Y_put_46 rfl ?_
          exact ⟨⟨_, rfl⟩, _, w2⟩
        · skip
          refine jx_of (fun _ _ kz => jw_iconst (-1) d_Y_put_20 (by decide) kz) ?_
          refine jx_iret d_Y_put_21 rfl ?_
          exact ⟨⟨_, rfl⟩, nt, yv_rf hY hN⟩
set_option maxRecDepth 20000 in
set_option maxHeartbeats 4000000 in
theorem y_Y_wake {G : Gt} {M : Me} (d : Nat) (x : Int32) (np : Nat) (nt : Nat) (hY : yI M np nt) (hN : yN M np nt) : sx G yt_Y_wake yn_Y_wake (d + 4) [.inr (some (0, 0)), .inl x] M (fun r M' => (∃ v : Int32, r = some (.inl v)) ∧ ∃ nt', yv np nt nt' M M') := by
  refine sx_of (k := 1) (lc := [some (.inr (some (0, 0))), some (.inl x), none]) mt_Y_wake (Nat.le_of_ble_eq_true rfl) rfl ?_
  refine jx_of (fun _ _ kz => jw_iload_n 1 d_Y_wake_0 rfl rfl kz) ?_
  refine jx_if_lt 9 d_Y_wake_1 (by decide) (fun b_1 => ?_) (fun b_1 => ?_)
  · skip
    refine jx_of (fun _ _ kz => jw_iconst (-1) d_Y_wake_9 (by decide) kz) ?_
    refine jx_iret d_Y_wake_10 rfl ?_
    exact ⟨⟨_, rfl⟩, nt, yv_rf hY hN⟩
  · skip
    refine jx_of (fun _ _ kz => jw_iload_n 1 d_Y_wake_4 rfl rfl kz) ?_
    refine jx_of (fun _ _ kz => jw_iconst 1 d_Y_wake_5 (by decide) kz) ?_
    refine jx_icmp_le 11 d_Y_wake_6 (by decide) (fun b_6 => ?_) (fun b_6 => ?_)
    · skip
      obtain ⟨g, hg1, rfl⟩ := nI_of2 (n := 1) (by decide) b_1 b_6
      have hg : g < 2 := by omega
      refine jx_of (fun _ _ kz => jw_aload_n 0 d_Y_wake_11 rfl rfl kz) ?_
      refine jx_of (fun _ _ kz => jw_aload_n 0 d_Y_wake_12 rfl rfl kz) ?_
      refine jx_of (fun _ _ kz => jw_getPe (some (21, 0)) fl_Y_62 d_Y_wake_13 rfl rfl (by simp [me_I_sI, me_I_sP, me_I_nx, me_P_sI, me_P_sP, me_P_nx, me_N_sI, me_N_sP, me_N_nx, me_L_sI, me_L_sP, me_L_nx, show me_P M 0 0 9 = some (21, 0) from hY.1.1 (0, 0, 9, 21, 0) (by decide)]) kz) ?_
      refine jx_of (fun _ _ kz => jw_iload_n 1 d_Y_wake_16 rfl rfl kz) ?_
      refine jx_of (fun _ _ kz => jw_aalde (some (6, g)) d_Y_wake_17 rfl rfl (by rw [show me_L _ 21 0 = 2 from (by simp [me_I_sI, me_I_sP, me_I_nx, me_P_sI, me_P_sP, me_P_nx, me_N_sI, me_N_sP, me_N_nx, me_L_sI, me_L_sP, me_L_nx, show me_L M 21 0 = 2 from hY.1.2.1 (21, 0, 2) (by decide)])]; exact (vp_in_nI (by omega) (by omega))) (by rw [nI_clamp (by omega)]; exact yg21 hY hg) kz) ?_
      refine jx_callV (y_Y_giveNotice d g np nt hY  hg) mt_Y_giveNotice cf_Y rfl rfl ml_Y_140 im_Y_giveNotice se_Y_giveNotice d_Y_wake_18 rfl rfl (Nat.le_of_ble_eq_true rfl) ?_
      rintro r M1 ⟨hr, h1, k1⟩
      obtain ⟨v1, rfl⟩ : ∃ v : Int32, r = some (.inl v) := by rcases hr with hr | hr; exact ⟨_, hr⟩; exact ⟨_, hr⟩
      have w1 := yv_yk (yv_rf hY hN) h1 k1
      refine jx_eq (st2 := [.inl v1]) rfl rfl rfl ?_
      refine jx_of (fun _ _ kz => jw_istore_n 2 d_Y_wake_21 rfl (Nat.le_of_ble_eq_true rfl) kz) ?_
      dsimp only [List.set]
      refine jx_of (fun _ _ kz => jw_aload_n 0 d_Y_wake_22 rfl rfl kz) ?_
      refine jx_callV (y_Y_injectWoken (d + 1) np nt h1) mt_Y_injectWoken cf_Y rfl rfl ml_Y_103 im_Y_injectWoken se_Y_injectWoken d_Y_wake_23 rfl rfl (Nat.le_of_ble_eq_true rfl) ?_
      rintro _ M2 ⟨rfl, h2, k2⟩
      have w2 := yv_yk w1 h2 k2
      refine jx_eq (st2 := []) rfl rfl rfl ?_
      refine jx_of (fun _ _ kz => jw_iload_n 2 d_Y_wake_26 rfl rfl kz) ?_
      refine jx_if_eq 34 d_Y_wake_27 (by decide) (fun b_27 => ?_) (fun b_27 => ?_)
      · skip
        refine jx_of (fun _ _ kz => jw_iconst 0 d_Y_wake_34 (by decide) kz) ?_
        refine jx_iret d_Y_wake_35 rfl ?_
        exact ⟨⟨_, rfl⟩, _, w2⟩
      · skip
        refine jx_of (fun _ _ kz => jw_iconst 1 d_Y_wake_30 (by decide) kz) ?_
        refine jx_of (fun _ _ kz => jw_goto 35 d_Y_wake_31 (by decide) kz) ?_
        refine jx_iret d_Y_wake_35 rfl ?_
        exact ⟨⟨_, rfl⟩, _, w2⟩
    · skip
      refine jx_of (fun _ _ kz => jw_iconst (-1) d_Y_wake_9 (by decide) kz) ?_
      refine jx_iret d_Y_wake_10 rfl ?_
      exact ⟨⟨_, rfl⟩, nt, yv_rf hY hN⟩
set_option maxRecDepth 20000 in
set_option maxHeartbeats 4000000 in
theorem y_Y_unqueue {G : Gt} {M : Me} (d : Nat) (x : Int32) (np : Nat) (nt : Nat) (hY : yI M np nt) : sx G yt_Y_unqueue yn_Y_unqueue (d + 3) [.inr (some (0, 0)), .inl x] M (fun r M' => r = none ∧ yI M' np nt ∧ yk M M') := by
  refine sx_of (k := 4) (lc := [some (.inr (some (0, 0))), some (.inl x), none, none, none, none]) mt_Y_unqueue (Nat.le_of_ble_eq_true rfl) rfl ?_
  refine jx_of (fun _ _ kz => jw_aload_n 0 d_Y_unqueue_0 rfl rfl kz) ?_
  refine jx_of (fun _ _ kz => jw_getPe (some (4, 3)) fl_Y_45 d_Y_unqueue_1 rfl rfl (by simp [me_I_sI, me_I_sP, me_I_nx, me_P_sI, me_P_sP, me_P_nx, me_N_sI, me_N_sP, me_N_nx, me_L_sI, me_L_sP, me_L_nx, show me_P M 0 0 6 = some (4, 3) from hY.1.1 (0, 0, 6, 4, 3) (by decide)]) kz) ?_
  refine jx_of (fun _ _ kz => jw_iload_n 1 d_Y_unqueue_4 rfl rfl kz) ?_
  refine jx_callV (y_R_remove d 3 x (hY.1.2.2 _ (by omega))) mt_R_remove cf_R rfl rfl ml_Y_234 im_R_remove se_R_remove d_Y_unqueue_5 rfl rfl (Nat.le_of_ble_eq_true rfl) ?_
  rintro _ M1 ⟨rfl, r1, c1⟩
  have h1 := yI_rc hY c1 r1
  have k1 := yk_tr yk_rf (yk_rc c1)
  refine jx_eq (st2 := []) rfl rfl rfl ?_
  refine jx_of (fun _ _ kz => jw_aload_n 0 d_Y_unqueue_8 rfl rfl kz) ?_
  refine jx_of (fun _ _ kz => jw_getPe (some (19, 0)) fl_Y_38 d_Y_unqueue_9 rfl rfl (by simp [me_I_sI, me_I_sP, me_I_nx, me_P_sI, me_P_sP, me_P_nx, me_N_sI, me_N_sP, me_N_nx, me_L_sI, me_L_sP, me_L_nx, show me_P M1 0 0 5 = some (19, 0) from h1.1.1 (0, 0, 5, 19, 0) (by decide)]) kz) ?_
  refine jx_of (fun _ _ kz => jw_astore_n 2 d_Y_unqueue_12 rfl (Nat.le_of_ble_eq_true rfl) kz) ?_
  dsimp only [List.set]
  refine jx_of (fun _ _ kz => jw_aload_n 2 d_Y_unqueue_13 rfl rfl kz) ?_
  refine jx_of (fun _ _ kz => jw_alen (3) d_Y_unqueue_14 rfl rfl (by rw [show me_L _ 19 0 = 3 from (by simp [me_I_sI, me_I_sP, me_I_nx, me_P_sI, me_P_sP, me_P_nx, me_N_sI, me_N_sP, me_N_nx, me_L_sI, me_L_sP, me_L_nx, show me_L M1 19 0 = 3 from h1.1.2.1 (19, 0, 3) (by decide)])]; rfl) kz) ?_
  refine jx_of (fun _ _ kz => jw_istore_n 3 d_Y_unqueue_15 rfl (Nat.le_of_ble_eq_true rfl) kz) ?_
  dsimp only [List.set]
  refine jx_of (fun _ _ kz => jw_iconst 0 d_Y_unqueue_16 (by decide) kz) ?_
  refine jx_of (fun _ _ kz => jw_istore d_Y_unqueue_17 (Nat.le_of_ble_eq_true rfl) kz) ?_
  dsimp only [List.set]
  refine jx_of (fun _ _ kz => jw_iload d_Y_unqueue_19 rfl kz) ?_
  refine jx_of (fun _ _ kz => jw_iload_n 3 d_Y_unqueue_21 rfl rfl kz) ?_
  refine jx_icmp_ge 61 d_Y_unqueue_22 (by decide) (fun h => absurd h (by decide)) (fun _ => ?_)
  refine jx_of (fun _ _ kz => jw_aload_n 2 d_Y_unqueue_25 rfl rfl kz) ?_
  refine jx_of (fun _ _ kz => jw_iload d_Y_unqueue_26 rfl kz) ?_
  refine jx_of (fun _ _ kz => jw_aalde (some (3, 0)) d_Y_unqueue_28 rfl rfl (by rw [show me_L _ 19 0 = 3 from (by simp [me_I_sI, me_I_sP, me_I_nx, me_P_sI, me_P_sP, me_P_nx, me_N_sI, me_N_sP, me_N_nx, me_L_sI, me_L_sP, me_L_nx, show me_L M1 19 0 = 3 from h1.1.2.1 (19, 0, 3) (by decide)])]; unfold vp_in; decide) (by simp [me_I_sI, me_I_sP, me_I_nx, me_P_sI, me_P_sP, me_P_nx, me_N_sI, me_N_sP, me_N_nx, me_L_sI, me_L_sP, me_L_nx, show me_P M1 19 0 0 = some (3, 0) from h1.1.1 (19, 0, 0, 3, 0) (by decide)]) kz) ?_
  refine jx_of (fun _ _ kz => jw_astore d_Y_unqueue_29 (Nat.le_of_ble_eq_true rfl) kz) ?_
  dsimp only [List.set]
  refine jx_of (fun _ _ kz => jw_aload d_Y_unqueue_31 rfl kz) ?_
  refine jx_of (fun _ _ kz => jw_getPe (some (4, 0)) fl_Y_165 d_Y_unqueue_33 rfl rfl (by simp [me_I_sI, me_I_sP, me_I_nx, me_P_sI, me_P_sP, me_P_nx, me_N_sI, me_N_sP, me_N_nx, me_L_sI, me_L_sP, me_L_nx, show me_P M1 3 0 1 = some (4, 0) from h1.1.1 (3, 0, 1, 4, 0) (by decide)]) kz) ?_
  refine jx_of (fun _ _ kz => jw_iload_n 1 d_Y_unqueue_36 rfl rfl kz) ?_
  refine jx_callV (y_R_remove d 0 x (h1.1.2.2 _ (by omega))) mt_R_remove cf_R rfl rfl ml_Y_234 im_R_remove se_R_remove d_Y_unqueue_37 rfl rfl (Nat.le_of_ble_eq_true rfl) ?_
  rintro _ M2 ⟨rfl, r2, c2⟩
  have h2 := yI_rc h1 c2 r2
  have k2 := yk_tr k1 (yk_rc c2)
  refine jx_eq (st2 := []) rfl rfl rfl ?_
  refine jx_of (fun _ _ kz => jw_aload d_Y_unqueue_40 rfl kz) ?_
  refine jx_of (fun _ _ kz => jw_getIe (_) fl_Y_159 d_Y_unqueue_42 rfl rfl rfl kz) ?_
  refine jx_of (fun _ _ kz => jw_iload_n 1 d_Y_unqueue_45 rfl rfl kz) ?_
  refine jx_icmp_ne 55 d_Y_unqueue_46 (by decide) (fun b_46 => ?_) (fun b_46 => ?_)
  · skip
    refine jx_of (fun _ _ kz => jw_iincc 1 d_Y_unqueue_55 (by decide) rfl (Nat.le_of_ble_eq_true rfl) kz) ?_
    dsimp only [List.set]
    rw [show (0 + 1 : Int32) = 1 from by decide]
    refine jx_of (fun _ _ kz => jw_goto 19 d_Y_unqueue_58 (by decide) kz) ?_
    refine jx_of (fun _ _ kz => jw_iload d_Y_unqueue_19 rfl kz) ?_
    refine jx_of (fun _ _ kz => jw_iload_n 3 d_Y_unqueue_21 rfl rfl kz) ?_
    refine jx_icmp_ge 61 d_Y_unqueue_22 (by decide) (fun h => absurd h (by decide)) (fun _ => ?_)
    refine jx_of (fun _ _ kz => jw_aload_n 2 d_Y_unqueue_25 rfl rfl kz) ?_
    refine jx_of (fun _ _ kz => jw_iload d_Y_unqueue_26 rfl kz) ?_
    refine jx_of (fun _ _ kz => jw_aalde (some (3, 1)) d_Y_unqueue_28 rfl rfl (by rw [show me_L _ 19 0 = 3 from (by simp [me_I_sI, me_I_sP, me_I_nx, me_P_sI, me_P_sP, me_P_nx, me_N_sI, me_N_sP, me_N_nx, me_L_sI, me_L_sP, me_L_nx, show me_L M2 19 0 = 3 from h2.1.2.1 (19, 0, 3) (by decide)])]; unfold vp_in; decide) (by simp [me_I_sI, me_I_sP, me_I_nx, me_P_sI, me_P_sP, me_P_nx, me_N_sI, me_N_sP, me_N_nx, me_L_sI, me_L_sP, me_L_nx, show me_P M2 19 0 1 = some (3, 1) from h2.1.1 (19, 0, 1, 3, 1) (by decide)]) kz) ?_
    refine jx_of (fun _ _ kz => jw_astore d_Y_unqueue_29 (Nat.le_of_ble_eq_true rfl) kz) ?_
    dsimp only [List.set]
    refine jx_of (fun _ _ kz => jw_aload d_Y_unqueue_31 rfl kz) ?_
    refine jx_of (fun _ _ kz => jw_getPe (some (4, 1)) fl_Y_165 d_Y_unqueue_33 rfl rfl (by simp [me_I_sI, me_I_sP, me_I_nx, me_P_sI, me_P_sP, me_P_nx, me_N_sI, me_N_sP, me_N_nx, me_L_sI, me_L_sP, me_L_nx, show me_P M2 3 1 1 = some (4, 1) from h2.1.1 (3, 1, 1, 4, 1) (by decide)]) kz) ?_
    refine jx_of (fun _ _ kz => jw_iload_n 1 d_Y_unqueue_36 rfl rfl kz) ?_
    refine jx_callV (y_R_remove d 1 x (h2.1.2.2 _ (by omega))) mt_R_remove cf_R rfl rfl ml_Y_234 im_R_remove se_R_remove d_Y_unqueue_37 rfl rfl (Nat.le_of_ble_eq_true rfl) ?_
    rintro _ M3 ⟨rfl, r3, c3⟩
    have h3 := yI_rc h2 c3 r3
    have k3 := yk_tr k2 (yk_rc c3)
    refine jx_eq (st2 := []) rfl rfl rfl ?_
    refine jx_of (fun _ _ kz => jw_aload d_Y_unqueue_40 rfl kz) ?_
    refine jx_of (fun _ _ kz => jw_getIe (_) fl_Y_159 d_Y_unqueue_42 rfl rfl rfl kz) ?_
    refine jx_of (fun _ _ kz => jw_iload_n 1 d_Y_unqueue_45 rfl rfl kz) ?_
    refine jx_icmp_ne 55 d_Y_unqueue_46 (by decide) (fun b_46 => ?_) (fun b_46 => ?_)
    · skip
      refine jx_of (fun _ _ kz => jw_iincc 1 d_Y_unqueue_55 (by decide) rfl (Nat.le_of_ble_eq_true rfl) kz) ?_
      dsimp only [List.set]
      rw [show (1 + 1 : Int32) = 2 from by decide]
      refine jx_of (fun _ _ kz => jw_goto 19 d_Y_unqueue_58 (by decide) kz) ?_
      refine jx_of (fun _ _ kz => jw_iload d_Y_unqueue_19 rfl kz) ?_
      refine jx_of (fun _ _ kz => jw_iload_n 3 d_Y_unqueue_21 rfl rfl kz) ?_
      refine jx_icmp_ge 61 d_Y_unqueue_22 (by decide) (fun h => absurd h (by decide)) (fun _ => ?_)
      refine jx_of (fun _ _ kz => jw_aload_n 2 d_Y_unqueue_25 rfl rfl kz) ?_
      refine jx_of (fun _ _ kz => jw_iload d_Y_unqueue_26 rfl kz) ?_
      refine jx_of (fun _ _ kz => jw_aalde (some (3, 2)) d_Y_unqueue_28 rfl rfl (by rw [show me_L _ 19 0 = 3 from (by simp [me_I_sI, me_I_sP, me_I_nx, me_P_sI, me_P_sP, me_P_nx, me_N_sI, me_N_sP, me_N_nx, me_L_sI, me_L_sP, me_L_nx, show me_L M3 19 0 = 3 from h3.1.2.1 (19, 0, 3) (by decide)])]; unfold vp_in; decide) (by simp [me_I_sI, me_I_sP, me_I_nx, me_P_sI, me_P_sP, me_P_nx, me_N_sI, me_N_sP, me_N_nx, me_L_sI, me_L_sP, me_L_nx, show me_P M3 19 0 2 = some (3, 2) from h3.1.1 (19, 0, 2, 3, 2) (by decide)]) kz) ?_
      refine jx_of (fun _ _ kz => jw_astore d_Y_unqueue_29 (Nat.le_of_ble_eq_true rfl) kz) ?_
      dsimp only [List.set]
      refine jx_of (fun _ _ kz => jw_aload d_Y_unqueue_31 rfl kz) ?_
      refine jx_of (fun _ _ kz => jw_getPe (some (4, 2)) fl_Y_165 d_Y_unqueue_33 rfl rfl (by simp [me_I_sI, me_I_sP, me_I_nx, me_P_sI, me_P_sP, me_P_nx, me_N_sI, me_N_sP, me_N_nx, me_L_sI, me_L_sP, me_L_nx, show me_P M3 3 2 1 = some (4, 2) from h3.1.1 (3, 2, 1, 4, 2) (by decide)]) kz) ?_
      refine jx_of (fun _ _ kz => jw_iload_n 1 d_Y_unqueue_36 rfl rfl kz) ?_
      refine jx_callV (y_R_remove d 2 x (h3.1.2.2 _ (by omega))) mt_R_remove cf_R rfl rfl ml_Y_234 im_R_remove se_R_remove d_Y_unqueue_37 rfl rfl (Nat.le_of_ble_eq_true rfl) ?_
      rintro _ M4 ⟨rfl, r4, c4⟩
      have h4 := yI_rc h3 c4 r4
      have k4 := yk_tr k3 (yk_rc c4)
      refine jx_eq (st2 := []) rfl rfl rfl ?_
      refine jx_of (fun _ _ kz => jw_aload d_Y_unqueue_40 rfl kz) ?_
      refine jx_of (fun _ _ kz => jw_getIe (_) fl_Y_159 d_Y_unqueue_42 rfl rfl rfl kz) ?_
      refine jx_of (fun _ _ kz => jw_iload_n 1 d_Y_unqueue_45 rfl rfl kz) ?_
      refine jx_icmp_ne 55 d_Y_unqueue_46 (by decide) (fun b_46 => ?_) (fun b_46 => ?_)
      · skip
        refine jx_of (fun _ _ kz => jw_iincc 1 d_Y_unqueue_55 (by decide) rfl (Nat.le_of_ble_eq_true rfl) kz) ?_
        dsimp only [List.set]
        rw [show (2 + 1 : Int32) = 3 from by decide]
        refine jx_of (fun _ _ kz => jw_goto 19 d_Y_unqueue_58 (by decide) kz) ?_
        refine jx_of (fun _ _ kz => jw_iload d_Y_unqueue_19 rfl kz) ?_
        refine jx_of (fun _ _ kz => jw_iload_n 3 d_Y_unqueue_21 rfl rfl kz) ?_
        refine jx_icmp_ge 61 d_Y_unqueue_22 (by decide) (fun _ => ?_) (fun h => absurd h (by decide))
        refine jx_vret d_Y_unqueue_61 rfl ?_
        first | exact ⟨rfl, h4, k4⟩ | exact ⟨rfl, yI_k h4 (by omega), yk_sI k4 (by omega)⟩
      · skip
        refine jx_of (fun _ _ kz => jw_aload d_Y_unqueue_49 rfl kz) ?_
        refine jx_of (fun _ _ kz => jw_iconst (-1) d_Y_unqueue_51 (by decide) kz) ?_
        refine jx_of (fun _ _ kz => jw_putI fl_Y_159 (Or.inl rfl) rfl rfl d_Y_unqueue_52 rfl rfl kz) ?_
        refine jx_of (fun _ _ kz => jw_iincc 1 d_Y_unqueue_55 (by decide) rfl (Nat.le_of_ble_eq_true rfl) kz) ?_
        dsimp only [List.set]
        rw [show (2 + 1 : Int32) = 3 from by decide]
        refine jx_of (fun _ _ kz => jw_goto 19 d_Y_unqueue_58 (by decide) kz) ?_
        refine jx_of (fun _ _ kz => jw_iload d_Y_unqueue_19 rfl kz) ?_
        refine jx_of (fun _ _ kz => jw_iload_n 3 d_Y_unqueue_21 rfl rfl kz) ?_
        refine jx_icmp_ge 61 d_Y_unqueue_22 (by decide) (fun _ => ?_) (fun h => absurd h (by decide))
        refine jx_vret d_Y_unqueue_61 rfl ?_
        first | exact ⟨rfl, h4, k4⟩ | exact ⟨rfl, yI_k h4 (by omega), yk_sI k4 (by omega)⟩
    · skip
      refine jx_of (fun _ _ kz => jw_aload d_Y_unqueue_49 rfl kz) ?_
      refine jx_of (fun _ _ kz => jw_iconst (-1) d_Y_unqueue_51 (by decide) kz) ?_
      refine jx_of (fun _ _ kz => jw_putI fl_Y_159 (Or.inl rfl) rfl rfl d_Y_unqueue_52 rfl rfl kz) ?_
      refine jx_of (fun _ _ kz => jw_iincc 1 d_Y_unqueue_55 (by decide) rfl (Nat.le_of_ble_eq_true rfl) kz) ?_
      dsimp only [List.set]
      rw [show (1 + 1 : Int32) = 2 from by decide]
      refine jx_of (fun _ _ kz => jw_goto 19 d_Y_unqueue_58 (by decide) kz) ?_
      refine jx_of (fun _ _ kz => jw_iload d_Y_unqueue_19 rfl kz) ?_
      refine jx_of (fun _ _ kz => jw_iload_n 3 d_Y_unqueue_21 rfl rfl kz) ?_
      refine jx_icmp_ge 61 d_Y_unqueue_22 (by decide) (fun h => absurd h (by decide)) (fun _ => ?_)
      refine jx_of (fun _ _ kz => jw_aload_n 2 d_Y_unqueue_25 rfl rfl kz) ?_
      refine jx_of (fun _ _ kz => jw_iload d_Y_unqueue_26 rfl kz) ?_
      refine jx_of (fun _ _ kz => jw_aalde (some (3, 2)) d_Y_unqueue_28 rfl rfl (by rw [show me_L _ 19 0 = 3 from (by simp [me_I_sI, me_I_sP, me_I_nx, me_P_sI, me_P_sP, me_P_nx, me_N_sI, me_N_sP, me_N_nx, me_L_sI, me_L_sP, me_L_nx, show me_L M3 19 0 = 3 from h3.1.2.1 (19, 0, 3) (by decide)])]; unfold vp_in; decide) (by simp [me_I_sI, me_I_sP, me_I_nx, me_P_sI, me_P_sP, me_P_nx, me_N_sI, me_N_sP, me_N_nx, me_L_sI, me_L_sP, me_L_nx, show me_P M3 19 0 2 = some (3, 2) from h3.1.1 (19, 0, 2, 3, 2) (by decide)]) kz) ?_
      refine jx_of (fun _ _ kz => jw_astore d_Y_unqueue_29 (Nat.le_of_ble_eq_true rfl) kz) ?_
      dsimp only [List.set]
      refine jx_of (fun _ _ kz => jw_aload d_Y_unqueue_31 rfl kz) ?_
      refine jx_of (fun _ _ kz => jw_getPe (some (4, 2)) fl_Y_165 d_Y_unqueue_33 rfl rfl (by simp [me_I_sI, me_I_sP, me_I_nx, me_P_sI, me_P_sP, me_P_nx, me_N_sI, me_N_sP, me_N_nx, me_L_sI, me_L_sP, me_L_nx, show me_P M3 3 2 1 = some (4, 2) from h3.1.1 (3, 2, 1, 4, 2) (by decide)]) kz) ?_
      refine jx_of (fun _ _ kz => jw_iload_n 1 d_Y_unqueue_36 rfl rfl kz) ?_
      refine jx_callV (y_R_remove d 2 x ((yI_k h3 (by omega)).1.2.2 _ (by omega))) mt_R_remove cf_R rfl rfl ml_Y_234 im_R_remove se_R_remove d_Y_unqueue_37 rfl rfl (Nat.le_of_ble_eq_true rfl) ?_
      rintro _ M4 ⟨rfl, r4, c4⟩
      have h4 := yI_rc (yI_k h3 (by omega)) c4 r4
      have k4 := yk_tr (yk_sI k3 (by omega)) (yk_rc c4)
      refine jx_eq (st2 := []) rfl rfl rfl ?_
      refine jx_of (fun _ _ kz => jw_aload d_Y_unqueue_40 rfl kz) ?_
      refine jx_of (fun _ _ kz => jw_getIe (_) fl_Y_159 d_Y_unqueue_42 rfl rfl rfl kz) ?_
      refine jx_of (fun _ _ kz => jw_iload_n 1 d_Y_unqueue_45 rfl rfl kz) ?_
      refine jx_icmp_ne 55 d_Y_unqueue_46 (by decide) (fun b_46 => ?_) (fun b_46 => ?_)
      · skip
        refine jx_of (fun _ _ kz => jw_iincc 1 d_Y_unqueue_55 (by decide) rfl (Nat.le_of_ble_eq_true rfl) kz) ?_
        dsimp only [List.set]
        rw [show (2 + 1 : Int32) = 3 from by decide]
        refine jx_of (fun _ _ kz => jw_goto 19 d_Y_unqueue_58 (by decide) kz) ?_
        refine jx_of (fun _ _ kz => jw_iload d_Y_unqueue_19 rfl kz) ?_
        refine jx_of (fun _ _ kz => jw_iload_n 3 d_Y_unqueue_21 rfl rfl kz) ?_
        refine jx_icmp_ge 61 d_Y_unqueue_22 (by decide) (fun _ => ?_) (fun h => absurd h (by decide))
        refine jx_vret d_Y_unqueue_61 rfl ?_
        first | exact ⟨rfl, h4, k4⟩ | exact ⟨rfl, yI_k h4 (by omega), yk_sI k4 (by omega)⟩
      · skip
        refine jx_of (fun _ _ kz => jw_aload d_Y_unqueue_49 rfl kz) ?_
        refine jx_of (fun _ _ kz => jw_iconst (-1) d_Y_unqueue_51 (by decide) kz) ?_
        refine jx_of (fun _ _ kz => jw_putI fl_Y_159 (Or.inl rfl) rfl rfl d_Y_unqueue_52 rfl rfl kz) ?_
        refine jx_of (fun _ _ kz => jw_iincc 1 d_Y_unqueue_55 (by decide) rfl (Nat.le_of_ble_eq_true rfl) kz) ?_
        dsimp only [List.set]
        rw [show (2 + 1 : Int32) = 3 from by decide]
        refine jx_of (fun _ _ kz => jw_goto 19 d_Y_unqueue_58 (by decide) kz) ?_
        refine jx_of (fun _ _ kz => jw_iload d_Y_unqueue_19 rfl kz) ?_
        refine jx_of (fun _ _ kz => jw_iload_n 3 d_Y_unqueue_21 rfl rfl kz) ?_
        refine jx_icmp_ge 61 d_Y_unqueue_22 (by decide) (fun _ => ?_) (fun h => absurd h (by decide))
        refine jx_vret d_Y_unqueue_61 rfl ?_
        first | exact ⟨rfl, h4, k4⟩ | exact ⟨rfl, yI_k h4 (by omega), yk_sI k4 (by omega)⟩
  · skip
    refine jx_of (fun _ _ kz => jw_aload d_Y_unqueue_49 rfl kz) ?_
    refine jx_of (fun _ _ kz => jw_iconst (-1) d_Y_unqueue_51 (by decide) kz) ?_
    refine jx_of (fun _ _ kz => jw_putI fl_Y_159 (Or.inl rfl) rfl rfl d_Y_unqueue_52 rfl rfl kz) ?_
    refine jx_of (fun _ _ kz => jw_iincc 1 d_Y_unqueue_55 (by decide) rfl (Nat.le_of_ble_eq_true rfl) kz) ?_
    dsimp only [List.set]
    rw [show (0 + 1 : Int32) = 1 from by decide]
    refine jx_of (fun _ _ kz => jw_goto 19 d_Y_unqueue_58 (by decide) kz) ?_
    refine jx_of (fun _ _ kz => jw_iload d_Y_unqueue_19 rfl kz) ?_
    refine jx_of (fun _ _ kz => jw_iload_n 3 d_Y_unqueue_21 rfl rfl kz) ?_
    refine jx_icmp_ge 61 d_Y_unqueue_22 (by decide) (fun h => absurd h (by decide)) (fun _ => ?_)
    refine jx_of (fun _ _ kz => jw_aload_n 2 d_Y_unqueue_25 rfl rfl kz) ?_
    refine jx_of (fun _ _ kz => jw_iload d_Y_unqueue_26 rfl kz) ?_
    refine jx_of (fun _ _ kz => jw_aalde (some (3, 1)) d_Y_unqueue_28 rfl rfl (by rw [show me_L _ 19 0 = 3 from (by simp [me_I_sI, me_I_sP, me_I_nx, me_P_sI, me_P_sP, me_P_nx, me_N_sI, me_N_sP, me_N_nx, me_L_sI, me_L_sP, me_L_nx, show me_L M2 19 0 = 3 from h2.1.2.1 (19, 0, 3) (by decide)])]; unfold vp_in; decide) (by simp [me_I_sI, me_I_sP, me_I_nx, me_P_sI, me_P_sP, me_P_nx, me_N_sI, me_N_sP, me_N_nx, me_L_sI, me_L_sP, me_L_nx, show me_P M2 19 0 1 = some (3, 1) from h2.1.1 (19, 0, 1, 3, 1) (by decide)]) kz) ?_
    refine jx_of (fun _ _ kz => jw_astore d_Y_unqueue_29 (Nat.le_of_ble_eq_true rfl) kz) ?_
    dsimp only [List.set]
    refine jx_of (fun _ _ kz => jw_aload d_Y_unqueue_31 rfl kz) ?_
    refine jx_of (fun _ _ kz => jw_getPe (some (4, 1)) fl_Y_165 d_Y_unqueue_33 rfl rfl (by simp [me_I_sI, me_I_sP, me_I_nx, me_P_sI, me_P_sP, me_P_nx, me_N_sI, me_N_sP, me_N_nx, me_L_sI, me_L_sP, me_L_nx, show me_P M2 3 1 1 = some (4, 1) from h2.1.1 (3, 1, 1, 4, 1) (by decide)]) kz) ?_
    refine jx_of (fun _ _ kz => jw_iload_n 1 d_Y_unqueue_36 rfl rfl kz) ?_
    refine jx_callV (y_R_remove d 1 x ((yI_k h2 (by omega)).1.2.2 _ (by omega))) mt_R_remove cf_R rfl rfl ml_Y_234 im_R_remove se_R_remove d_Y_unqueue_37 rfl rfl (Nat.le_of_ble_eq_true rfl) ?_
    rintro _ M3 ⟨rfl, r3, c3⟩
    have h3 := yI_rc (yI_k h2 (by omega)) c3 r3
    have k3 := yk_tr (yk_sI k2 (by omega)) (yk_rc c3)
    refine jx_eq (st2 := []) rfl rfl rfl ?_
    refine jx_of (fun _ _ kz => jw_aload d_Y_unqueue_40 rfl kz) ?_
    refine jx_of (fun _ _ kz => jw_getIe (_) fl_Y_159 d_Y_unqueue_42 rfl rfl rfl kz) ?_
    refine jx_of (fun _ _ kz => jw_iload_n 1 d_Y_unqueue_45 rfl rfl kz) ?_
    refine jx_icmp_ne 55 d_Y_unqueue_46 (by decide) (fun b_46 => ?_) (fun b_46 => ?_)
    · skip
      refine jx_of (fun _ _ kz => jw_iincc 1 d_Y_unqueue_55 (by decide) rfl (Nat.le_of_ble_eq_true rfl) kz) ?_
      dsimp only [List.set]
      rw [show (1 + 1 : Int32) = 2 from by decide]
      refine jx_of (fun _ _ kz => jw_goto 19 d_Y_unqueue_58 (by decide) kz) ?_
      refine jx_of (fun _ _ kz => jw_iload d_Y_unqueue_19 rfl kz) ?_
      refine jx_of (fun _ _ kz => jw_iload_n 3 d_Y_unqueue_21 rfl rfl kz) ?_
      refine jx_icmp_ge 61 d_Y_unqueue_22 (by decide) (fun h => absurd h (by decide)) (fun _ => ?_)
      refine jx_of (fun _ _ kz => jw_aload_n 2 d_Y_unqueue_25 rfl rfl kz) ?_
      refine jx_of (fun _ _ kz => jw_iload d_Y_unqueue_26 rfl kz) ?_
      refine jx_of (fun _ _ kz => jw_aalde (some (3, 2)) d_Y_unqueue_28 rfl rfl (by rw [show me_L _ 19 0 = 3 from (by simp [me_I_sI, me_I_sP, me_I_nx, me_P_sI, me_P_sP, me_P_nx, me_N_sI, me_N_sP, me_N_nx, me_L_sI, me_L_sP, me_L_nx, show me_L M3 19 0 = 3 from h3.1.2.1 (19, 0, 3) (by decide)])]; unfold vp_in; decide) (by simp [me_I_sI, me_I_sP, me_I_nx, me_P_sI, me_P_sP, me_P_nx, me_N_sI, me_N_sP, me_N_nx, me_L_sI, me_L_sP, me_L_nx, show me_P M3 19 0 2 = some (3, 2) from h3.1.1 (19, 0, 2, 3, 2) (by decide)]) kz) ?_
      refine jx_of (fun _ _ kz => jw_astore d_Y_unqueue_29 (Nat.le_of_ble_eq_true rfl) kz) ?_
      dsimp only [List.set]
      refine jx_of (fun _ _ kz => jw_aload d_Y_unqueue_31 rfl kz) ?_
      refine jx_of (fun _ _ kz => jw_getPe (some (4, 2)) fl_Y_165 d_Y_unqueue_33 rfl rfl (by simp [me_I_sI, me_I_sP, me_I_nx, me_P_sI, me_P_sP, me_P_nx, me_N_sI, me_N_sP, me_N_nx, me_L_sI, me_L_sP, me_L_nx, show me_P M3 3 2 1 = some (4, 2) from h3.1.1 (3, 2, 1, 4, 2) (by decide)]) kz) ?_
      refine jx_of (fun _ _ kz => jw_iload_n 1 d_Y_unqueue_36 rfl rfl kz) ?_
      refine jx_callV (y_R_remove d 2 x (h3.1.2.2 _ (by omega))) mt_R_remove cf_R rfl rfl ml_Y_234 im_R_remove se_R_remove d_Y_unqueue_37 rfl rfl (Nat.le_of_ble_eq_true rfl) ?_
      rintro _ M4 ⟨rfl, r4, c4⟩
      have h4 := yI_rc h3 c4 r4
      have k4 := yk_tr k3 (yk_rc c4)
      refine jx_eq (st2 := []) rfl rfl rfl ?_
      refine jx_of (fun _ _ kz => jw_aload d_Y_unqueue_40 rfl kz) ?_
      refine jx_of (fun _ _ kz => jw_getIe (_) fl_Y_159 d_Y_unqueue_42 rfl rfl rfl kz) ?_
      refine jx_of (fun _ _ kz => jw_iload_n 1 d_Y_unqueue_45 rfl rfl kz) ?_
      refine jx_icmp_ne 55 d_Y_unqueue_46 (by decide) (fun b_46 => ?_) (fun b_46 => ?_)
      · skip
        refine jx_of (fun _ _ kz => jw_iincc 1 d_Y_unqueue_55 (by decide) rfl (Nat.le_of_ble_eq_true rfl) kz) ?_
        dsimp only [List.set]
        rw [show (2 + 1 : Int32) = 3 from by decide]
        refine jx_of (fun _ _ kz => jw_goto 19 d_Y_unqueue_58 (by decide) kz) ?_
        refine jx_of (fun _ _ kz => jw_iload d_Y_unqueue_19 rfl kz) ?_
        refine jx_of (fun _ _ kz => jw_iload_n 3 d_Y_unqueue_21 rfl rfl kz) ?_
        refine jx_icmp_ge 61 d_Y_unqueue_22 (by decide) (fun _ => ?_) (fun h => absurd h (by decide))
        refine jx_vret d_Y_unqueue_61 rfl ?_
        first | exact ⟨rfl, h4, k4⟩ | exact ⟨rfl, yI_k h4 (by omega), yk_sI k4 (by omega)⟩
      · skip
        refine jx_of (fun _ _ kz => jw_aload d_Y_unqueue_49 rfl kz) ?_
        refine jx_of (fun _ _ kz => jw_iconst (-1) d_Y_unqueue_51 (by decide) kz) ?_
        refine jx_of (fun _ _ kz => jw_putI fl_Y_159 (Or.inl rfl) rfl rfl d_Y_unqueue_52 rfl rfl kz) ?_
        refine jx_of (fun _ _ kz => jw_iincc 1 d_Y_unqueue_55 (by decide) rfl (Nat.le_of_ble_eq_true rfl) kz) ?_
        dsimp only [List.set]
        rw [show (2 + 1 : Int32) = 3 from by decide]
        refine jx_of (fun _ _ kz => jw_goto 19 d_Y_unqueue_58 (by decide) kz) ?_
        refine jx_of (fun _ _ kz => jw_iload d_Y_unqueue_19 rfl kz) ?_
        refine jx_of (fun _ _ kz => jw_iload_n 3 d_Y_unqueue_21 rfl rfl kz) ?_
        refine jx_icmp_ge 61 d_Y_unqueue_22 (by decide) (fun _ => ?_) (fun h => absurd h (by decide))
        refine jx_vret d_Y_unqueue_61 rfl ?_
        first | exact ⟨rfl, h4, k4⟩ | exact ⟨rfl, yI_k h4 (by omega), yk_sI k4 (by omega)⟩
    · skip
      refine jx_of (fun _ _ kz => jw_aload d_Y_unqueue_49 rfl kz) ?_
      refine jx_of (fun _ _ kz => jw_iconst (-1) d_Y_unqueue_51 (by decide) kz) ?_
      refine jx_of (fun _ _ kz => jw_putI fl_Y_159 (Or.inl rfl) rfl rfl d_Y_unqueue_52 rfl rfl kz) ?_
      refine jx_of (fun _ _ kz => jw_iincc 1 d_Y_unqueue_55 (by decide) rfl (Nat.le_of_ble_eq_true rfl) kz) ?_
      dsimp only [List.set]
      rw [show (1 + 1 : Int32) = 2 from by decide]
      refine jx_of (fun _ _ kz => jw_goto 19 d_Y_unqueue_58 (by decide) kz) ?_
      refine jx_of (fun _ _ kz => jw_iload d_Y_unqueue_19 rfl kz) ?_
      refine jx_of (fun _ _ kz => jw_iload_n 3 d_Y_unqueue_21 rfl rfl kz) ?_
      refine jx_icmp_ge 61 d_Y_unqueue_22 (by decide) (fun h => absurd h (by decide)) (fun _ => ?_)
      refine jx_of (fun _ _ kz => jw_aload_n 2 d_Y_unqueue_25 rfl rfl kz) ?_
      refine jx_of (fun _ _ kz => jw_iload d_Y_unqueue_26 rfl kz) ?_
      refine jx_of (fun _ _ kz => jw_aalde (some (3, 2)) d_Y_unqueue_28 rfl rfl (by rw [show me_L _ 19 0 = 3 from (by simp [me_I_sI, me_I_sP, me_I_nx, me_P_sI, me_P_sP, me_P_nx, me_N_sI, me_N_sP, me_N_nx, me_L_sI, me_L_sP, me_L_nx, show me_L M3 19 0 = 3 from h3.1.2.1 (19, 0, 3) (by decide)])]; unfold vp_in; decide) (by simp [me_I_sI, me_I_sP, me_I_nx, me_P_sI, me_P_sP, me_P_nx, me_N_sI, me_N_sP, me_N_nx, me_L_sI, me_L_sP, me_L_nx, show me_P M3 19 0 2 = some (3, 2) from h3.1.1 (19, 0, 2, 3, 2) (by decide)]) kz) ?_
      refine jx_of (fun _ _ kz => jw_astore d_Y_unqueue_29 (Nat.le_of_ble_eq_true rfl) kz) ?_
      dsimp only [List.set]
      refine jx_of (fun _ _ kz => jw_aload d_Y_unqueue_31 rfl kz) ?_
      refine jx_of (fun _ _ kz => jw_getPe (some (4, 2)) fl_Y_165 d_Y_unqueue_33 rfl rfl (by simp [me_I_sI, me_I_sP, me_I_nx, me_P_sI, me_P_sP, me_P_nx, me_N_sI, me_N_sP, me_N_nx, me_L_sI, me_L_sP, me_L_nx, show me_P M3 3 2 1 = some (4, 2) from h3.1.1 (3, 2, 1, 4, 2) (by decide)]) kz) ?_
      refine jx_of (fun _ _ kz => jw_iload_n 1 d_Y_unqueue_36 rfl rfl kz) ?_
      refine jx_callV (y_R_remove d 2 x ((yI_k h3 (by omega)).1.2.2 _ (by omega))) mt_R_remove cf_R rfl rfl ml_Y_234 im_R_remove se_R_remove d_Y_unqueue_37 rfl rfl (Nat.le_of_ble_eq_true rfl) ?_
      rintro _ M4 ⟨rfl, r4, c4⟩
      have h4 := yI_rc (yI_k h3 (by omega)) c4 r4
      have k4 := yk_tr (yk_sI k3 (by omega)) (yk_rc c4)
      refine jx_eq (st2 := []) rfl rfl rfl ?_
      refine jx_of (fun _ _ kz => jw_aload d_Y_unqueue_40 rfl kz) ?_
      refine jx_of (fun _ _ kz => jw_getIe (_) fl_Y_159 d_Y_unqueue_42 rfl rfl rfl kz) ?_
      refine jx_of (fun _ _ kz => jw_iload_n 1 d_Y_unqueue_45 rfl rfl kz) ?_
      refine jx_icmp_ne 55 d_Y_unqueue_46 (by decide) (fun b_46 => ?_) (fun b_46 => ?_)
      · skip
        refine jx_of (fun _ _ kz => jw_iincc 1 d_Y_unqueue_55 (by decide) rfl (Nat.le_of_ble_eq_true rfl) kz) ?_
        dsimp only [List.set]
        rw [show (2 + 1 : Int32) = 3 from by decide]
        refine jx_of (fun _ _ kz => jw_goto 19 d_Y_unqueue_58 (by decide) kz) ?_
        refine jx_of (fun _ _ kz => jw_iload d_Y_unqueue_19 rfl kz) ?_
        refine jx_of (fun _ _ kz => jw_iload_n 3 d_Y_unqueue_21 rfl rfl kz) ?_
        refine jx_icmp_ge 61 d_Y_unqueue_22 (by decide) (fun _ => ?_) (fun h => absurd h (by decide))
        refine jx_vret d_Y_unqueue_61 rfl ?_
        first | exact ⟨rfl, h4, k4⟩ | exact ⟨rfl, yI_k h4 (by omega), yk_sI k4 (by omega)⟩
      · skip
        refine jx_of (fun _ _ kz => jw_aload d_Y_unqueue_49 rfl kz) ?_
        refine jx_of (fun _ _ kz => jw_iconst (-1) d_Y_unqueue_51 (by decide) kz) ?_
        refine jx_of (fun _ _ kz => jw_putI fl_Y_159 (Or.inl rfl) rfl rfl d_Y_unqueue_52 rfl rfl kz) ?_
        refine jx_of (fun _ _ kz => jw_iincc 1 d_Y_unqueue_55 (by decide) rfl (Nat.le_of_ble_eq_true rfl) kz) ?_
        dsimp only [List.set]
        rw [show (2 + 1 : Int32) = 3 from by decide]
        refine jx_of (fun _ _ kz => jw_goto 19 d_Y_unqueue_58 (by decide) kz) ?_
        refine jx_of (fun _ _ kz => jw_iload d_Y_unqueue_19 rfl kz) ?_
        refine jx_of (fun _ _ kz => jw_iload_n 3 d_Y_unqueue_21 rfl rfl kz) ?_
        refine jx_icmp_ge 61 d_Y_unqueue_22 (by decide) (fun _ => ?_) (fun h => absurd h (by decide))
        refine jx_vret d_Y_unqueue_61 rfl ?_
        first | exact ⟨rfl, h4, k4⟩ | exact ⟨rfl, yI_k h4 (by omega), yk_sI k4 (by omega)⟩
set_option maxRecDepth 20000 in
set_option maxHeartbeats 4000000 in
theorem y_Y_abort {G : Gt} {M : Me} (d : Nat) (x : Int32) (np : Nat) (nt : Nat) (hY : yI M np nt) (hN : yN M np nt) : sx G yt_Y_abort yn_Y_abort (d + 5) [.inr (some (0, 0)), .inl x] M (fun r M' => (∃ v : Int32, r = some (.inl v)) ∧ ∃ nt', yv np nt nt' M M') := by
  refine sx_of (k := 1) (lc := [some (.inr (some (0, 0))), some (.inl x), none]) mt_Y_abort (Nat.le_of_ble_eq_true rfl) rfl ?_
  refine jx_of (fun _ _ kz => jw_aload_n 0 d_Y_abort_0 rfl rfl kz) ?_
  refine jx_of (fun _ _ kz => jw_iload_n 1 d_Y_abort_1 rfl rfl kz) ?_
  refine jx_callV (y_Y_taskAt (d + 3) x np nt hY) mt_Y_taskAt cf_Y rfl rfl ml_Y_113 im_Y_taskAt se_Y_taskAt d_Y_abort_2 rfl rfl (Nat.le_of_ble_eq_true rfl) ?_
  rintro r _ ⟨hr, rfl⟩
  rcases hr with rfl | ⟨t9, ht9, ex9, rfl⟩
  · skip
    refine jx_eq (st2 := [.inr none]) rfl rfl rfl ?_
    refine jx_of (fun _ _ kz => jw_astore_n 2 d_Y_abort_5 rfl (Nat.le_of_ble_eq_true rfl) kz) ?_
    dsimp only [List.set]
    refine jx_of (fun _ _ kz => jw_aload_n 2 d_Y_abort_6 rfl rfl kz) ?_
    refine jx_ifnull 17 d_Y_abort_7 (by decide) (fun _ => ?_) (fun _ h => by cases h)
    refine jx_of (fun _ _ kz => jw_iconst 0 d_Y_abort_17 (by decide) kz) ?_
    refine jx_zret d_Y_abort_18 rfl (by decide) ?_
    exact ⟨⟨_, rfl⟩, nt, yv_rf hY hN⟩
  · skip
    obtain ⟨p9, n9, o9, hp9, hT9⟩ := (hY.2.2.2.2 t9 ht9).2
    refine jx_eq (st2 := [.inr (some (2, t9))]) rfl rfl rfl ?_
    refine jx_of (fun _ _ kz => jw_astore_n 2 d_Y_abort_5 rfl (Nat.le_of_ble_eq_true rfl) kz) ?_
    dsimp only [List.set]
    refine jx_of (fun _ _ kz => jw_aload_n 2 d_Y_abort_6 rfl rfl kz) ?_
    refine jx_ifnull 17 d_Y_abort_7 (by decide) (fun h => by cases h) (fun _ _ => ?_)
    refine jx_of (fun _ _ kz => jw_aload_n 2 d_Y_abort_10 rfl rfl kz) ?_
    refine jx_callV (y_T_hasEnded (d + 3) t9 p9 n9 o9 hT9) mt_T_hasEnded cf_T rfl rfl ml_Y_117 im_T_hasEnded se_T_hasEnded d_Y_abort_11 rfl rfl (Nat.le_of_ble_eq_true rfl) ?_
    rintro r _ ⟨hr, rfl⟩
    obtain ⟨rv, rfl⟩ : ∃ v : Int32, r = some (.inl v) := by rcases hr with hr | hr; exact ⟨_, hr⟩; exact ⟨_, hr⟩
    refine jx_eq (st2 := [.inl rv]) rfl rfl rfl ?_
    refine jx_if_eq 19 d_Y_abort_14 (by decide) (fun b_14 => ?_) (fun b_14 => ?_)
    · skip
      refine jx_of (fun _ _ kz => jw_aload_n 0 d_Y_abort_19 rfl rfl kz) ?_
      refine jx_of (fun _ _ kz => jw_iload_n 1 d_Y_abort_20 rfl rfl kz) ?_
      refine jx_callV (y_Y_unqueue (d + 1) x np nt hY) mt_Y_unqueue cf_Y rfl rfl ml_Y_120 im_Y_unqueue se_Y_unqueue d_Y_abort_21 rfl rfl (Nat.le_of_ble_eq_true rfl) ?_
      rintro _ M1 ⟨rfl, h1, k1⟩
      have w1 := yv_yk (yv_rf hY hN) h1 k1
      refine jx_eq (st2 := []) rfl rfl rfl ?_
      refine jx_of (fun _ _ kz => jw_aload_n 2 d_Y_abort_24 rfl rfl kz) ?_
      refine jx_of (fun _ _ kz => jw_iconst 4 d_Y_abort_25 (by decide) kz) ?_
      refine jx_of (fun _ _ kz => jw_putI fl_Y_123 (Or.inl rfl) rfl rfl d_Y_abort_26 rfl rfl kz) ?_
      refine jx_of (fun _ _ kz => jw_aload_n 0 d_Y_abort_29 rfl rfl kz) ?_
      refine jx_of (fun _ _ kz => jw_aload_n 2 d_Y_abort_30 rfl rfl kz) ?_
      refine jx_of (fun _ _ kz => jw_iconst 0 d_Y_abort_31 (by decide) kz) ?_
      refine jx_callV (y_Y_drop d t9 p9 n9 o9 0 np nt (yI_tc h1 (tc_sI tc_rf (by omega)))  ht9 (tO_tc (tO_yk hT9 k1) (tc_sI tc_rf (by omega)))) mt_Y_drop cf_Y rfl rfl ml_Y_126 im_Y_drop se_Y_drop d_Y_abort_32 rfl rfl (Nat.le_of_ble_eq_true rfl) ?_
      rintro _ M2 ⟨rfl, h2, k2⟩
      have w2 := yv_yk (yv_tc w1 (tc_sI tc_rf (by omega))) h2 k2
      refine jx_eq (st2 := []) rfl rfl rfl ?_
      refine jx_of (fun _ _ kz => jw_aload_n 0 d_Y_abort_35 rfl rfl kz) ?_
      refine jx_of (fun _ _ kz => jw_iload_n 1 d_Y_abort_36 rfl rfl kz) ?_
      refine jx_callV (y_Y_wakeReapers d x np nt h2) mt_Y_wakeReapers cf_Y rfl rfl ml_Y_130 im_Y_wakeReapers se_Y_wakeReapers d_Y_abort_37 rfl rfl (Nat.le_of_ble_eq_true rfl) ?_
      rintro _ M3 ⟨rfl, h3, k3⟩
      have w3 := yv_yk w2 h3 k3
      refine jx_eq (st2 := []) rfl rfl rfl ?_
      refine jx_of (fun _ _ kz => jw_aload_n 0 d_Y_abort_40 rfl rfl kz) ?_
      refine jx_callV (y_Y_injectWoken (d + 2) np nt h3) mt_Y_injectWoken cf_Y rfl rfl ml_Y_103 im_Y_injectWoken se_Y_injectWoken d_Y_abort_41 rfl rfl (Nat.le_of_ble_eq_true rfl) ?_
      rintro _ M4 ⟨rfl, h4, k4⟩
      have w4 := yv_yk w3 h4 k4
      refine jx_eq (st2 := []) rfl rfl rfl ?_
      refine jx_of (fun _ _ kz => jw_iconst 1 d_Y_abort_44 (by decide) kz) ?_
      refine jx_zret d_Y_abort_45 rfl (by decide) ?_
      exact ⟨⟨_, rfl⟩, _, w4⟩
    · skip
      refine jx_of (fun _ _ kz => jw_iconst 0 d_Y_abort_17 (by decide) kz) ?_
      refine jx_zret d_Y_abort_18 rfl (by decide) ?_
      exact ⟨⟨_, rfl⟩, nt, yv_rf hY hN⟩
