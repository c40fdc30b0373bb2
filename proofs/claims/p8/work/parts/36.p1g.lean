theorem lt1 {x : Int32} (h : ¬ x < 1) : ¬ x < 0 := fun q => h (Int32.lt_iff_toInt_lt.mpr (by
  have a := Int32.lt_iff_toInt_lt.mp q
  have e0 : (0 : Int32).toInt = 0 := by decide
  have e1 : (1 : Int32).toInt = 1 := by decide
  rw [e0] at a; rw [e1]; omega))
set_option maxRecDepth 20000 in
set_option maxHeartbeats 4000000 in
theorem x_Y_run {G : Gt} {M : Me} (d : Nat) (x : Int32) (hm : cfr M) : sx G yt_Y_run yn_Y_run (d + 5) [.inr (some (0, 0)), .inl x] M (fun r M' => r = some (.inl (if x < 1 then -1 else if 30 < x then -1 else 0)) ∧ kpM M M') := by
  refine sx_of (k := 2) (lc := [some (.inr (some (0, 0))), some (.inl x), none, none]) mt_Y_run (Nat.le_of_ble_eq_true rfl) rfl ?_
  refine jx_of (fun _ _ kz => jw_iload_n 1 d_Y_run_0 rfl rfl kz) ?_
  refine jx_of (fun _ _ kz => jw_iconst 1 d_Y_run_1 (by decide) kz) ?_
  refine jx_icmp_lt 11 d_Y_run_2 (by decide) (fun b_2 => ?_) (fun b_2 => ?_)
  · skip
    refine jx_of (fun _ _ kz => jw_iconst (-1) d_Y_run_11 (by decide) kz) ?_
    refine jx_iret d_Y_run_12 rfl ?_
    exact ⟨by rw [if_pos b_2], kp_rf⟩
  · skip
    refine jx_of (fun _ _ kz => jw_iload_n 1 d_Y_run_5 rfl rfl kz) ?_
    refine jx_of (fun _ _ kz => jw_bipush 30 d_Y_run_6 (by decide) kz) ?_
    refine jx_icmp_le 13 d_Y_run_8 (by decide) (fun b_8 => ?_) (fun b_8 => ?_)
    · skip
      refine jx_of (fun _ _ kz => jw_iconst 0 d_Y_run_13 (by decide) kz) ?_
      refine jx_of (fun _ _ kz => jw_istore_n 2 d_Y_run_14 rfl (Nat.le_of_ble_eq_true rfl) kz) ?_
      dsimp only [List.set]
      refine jx_of (fun _ _ kz => jw_iconst 0 d_Y_run_15 (by decide) kz) ?_
      refine jx_of (fun _ _ kz => jw_istore_n 3 d_Y_run_16 rfl (Nat.le_of_ble_eq_true rfl) kz) ?_
      dsimp only [List.set]
      obtain ⟨j, hj, rfl⟩ := nI_of2 (M := 30) (n := 30) (by decide) (lt1 b_2) b_8
      exact jx_mono (x_Y_run_loop d j hj j 0 M (by omega) (cid_of hm) (Or.inl (hm.2.2 (0, 0, 13, 0) (by decide))) _ _) (fun r M2 h => ⟨by rw [h.1, if_neg b_2, if_neg (Int32.not_lt.mpr b_8)], h.2⟩)
    · skip
      refine jx_of (fun _ _ kz => jw_iconst (-1) d_Y_run_11 (by decide) kz) ?_
      refine jx_iret d_Y_run_12 rfl ?_
      exact ⟨by rw [if_neg b_2, if_pos (Int32.not_le.mp b_8)], kp_rf⟩
set_option maxRecDepth 20000 in
set_option maxHeartbeats 4000000 in
theorem x_Y_tick {G : Gt} {M : Me} (d : Nat) (x : Int32) (hm : cfr M) : sx G yt_Y_tick yn_Y_tick (d + 2) [.inr (some (0, 0)), .inl x] M (fun r M' => r = some (.inl (if x < 1 then -1 else if 20 < x then -1 else x)) ∧ kpM M M') := by
  refine sx_of (k := 1) (lc := [some (.inr (some (0, 0))), some (.inl x), none]) mt_Y_tick (Nat.le_of_ble_eq_true rfl) rfl ?_
  refine jx_of (fun _ _ kz => jw_iload_n 1 d_Y_tick_0 rfl rfl kz) ?_
  refine jx_of (fun _ _ kz => jw_iconst 1 d_Y_tick_1 (by decide) kz) ?_
  refine jx_icmp_lt 11 d_Y_tick_2 (by decide) (fun b_2 => ?_) (fun b_2 => ?_)
  · skip
    refine jx_of (fun _ _ kz => jw_iconst (-1) d_Y_tick_11 (by decide) kz) ?_
    refine jx_iret d_Y_tick_12 rfl ?_
    exact ⟨by rw [if_pos b_2], kp_rf⟩
  · skip
    refine jx_of (fun _ _ kz => jw_iload_n 1 d_Y_tick_5 rfl rfl kz) ?_
    refine jx_of (fun _ _ kz => jw_bipush 20 d_Y_tick_6 (by decide) kz) ?_
    refine jx_icmp_le 13 d_Y_tick_8 (by decide) (fun b_8 => ?_) (fun b_8 => ?_)
    · skip
      refine jx_of (fun _ _ kz => jw_iconst 0 d_Y_tick_13 (by decide) kz) ?_
      refine jx_of (fun _ _ kz => jw_istore_n 2 d_Y_tick_14 rfl (Nat.le_of_ble_eq_true rfl) kz) ?_
      dsimp only [List.set]
      obtain ⟨j, hj, rfl⟩ := nI_of2 (M := 20) (n := 20) (by decide) (lt1 b_2) b_8
      exact jx_mono (x_Y_tick_loop d j hj j 0 M (by omega) (cid_of hm) (hm.2.2 (0, 0, 10, 0) (by decide)) _ _) (fun r M2 h => ⟨by rw [h.1, if_neg b_2, if_neg (Int32.not_lt.mpr b_8)], h.2⟩)
    · skip
      refine jx_of (fun _ _ kz => jw_iconst (-1) d_Y_tick_11 (by decide) kz) ?_
      refine jx_iret d_Y_tick_12 rfl ?_
      exact ⟨by rw [if_neg b_2, if_pos (Int32.not_le.mp b_8)], kp_rf⟩
set_option maxRecDepth 20000 in
set_option maxHeartbeats 4000000 in
theorem x_M_run_t {G : Gt} {M : Me} (d : Nat) (x : Int32) (hm : mfr M) (h1 : ¬ x < 1) (h2 : ¬ 30 < x) : sx G yt_M_run yn_M_run (d + 3) [.inr (some (7, 0)), .inl x] M (fun r M' => r = some (.inl 0) ∧ nC M M') := by
  refine sx_of (k := 3) (lc := [some (.inr (some (7, 0))), some (.inl x), none, none, none]) mt_M_run (Nat.le_of_ble_eq_true rfl) rfl ?_
  refine jx_of (fun _ _ kz => jw_iload_n 1 d_M_run_0 rfl rfl kz) ?_
  refine jx_of (fun _ _ kz => jw_iconst 1 d_M_run_1 (by decide) kz) ?_
  refine jx_of (fun _ _ kz => jw_bipush 30 d_M_run_2 (by decide) kz) ?_
  refine jx_callS (x_M_is_t _ x 1 30  h1 h2) mt_M_is ml_M_93 sm_M_is d_M_run_4 rfl rfl (Nat.le_of_ble_eq_true rfl) ?_
  rintro _ _ ⟨rfl, rfl⟩
  refine jx_eq (st2 := [.inl 1]) rfl rfl rfl ?_
  refine jx_if_ne 12 d_M_run_7 (by decide) (fun _ => ?_) (fun h => absurd h (by decide))
  refine jx_of (fun _ _ kz => jw_iconst 0 d_M_run_12 (by decide) kz) ?_
  refine jx_of (fun _ _ kz => jw_istore_n 2 d_M_run_13 rfl (Nat.le_of_ble_eq_true rfl) kz) ?_
  dsimp only [List.set]
  refine jx_of (fun _ _ kz => jw_iconst 0 d_M_run_14 (by decide) kz) ?_
  refine jx_of (fun _ _ kz => jw_istore_n 3 d_M_run_15 rfl (Nat.le_of_ble_eq_true rfl) kz) ?_
  dsimp only [List.set]
  obtain ⟨j, hj, rfl⟩ := nI_of2 (M := 30) (n := 30) (by decide) (lt1 h1) (Int32.not_lt.mp h2)
  exact x_M_run_loop d j hj j 0 M none (by omega) (mid_of hm) (Or.inl (hm.2.2 (7, 0, 32, 0) (by decide))) _ _
set_option maxRecDepth 20000 in
set_option maxHeartbeats 4000000 in
theorem x_M_run_f {G : Gt} {M : Me} (d : Nat) (x : Int32) (hm : mfr M) (h1 : x < 1 ∨ 30 < x) : sx G yt_M_run yn_M_run (d + 3) [.inr (some (7, 0)), .inl x] M (fun r M' => r = some (.inl (-1)) ∧ nC M M') := by
  refine sx_of (k := 3) (lc := [some (.inr (some (7, 0))), some (.inl x), none, none, none]) mt_M_run (Nat.le_of_ble_eq_true rfl) rfl ?_
  refine jx_of (fun _ _ kz => jw_iload_n 1 d_M_run_0 rfl rfl kz) ?_
  refine jx_of (fun _ _ kz => jw_iconst 1 d_M_run_1 (by decide) kz) ?_
  refine jx_of (fun _ _ kz => jw_bipush 30 d_M_run_2 (by decide) kz) ?_
  refine jx_callS (x_M_is_f _ x 1 30  h1) mt_M_is ml_M_93 sm_M_is d_M_run_4 rfl rfl (Nat.le_of_ble_eq_true rfl) ?_
  rintro _ _ ⟨rfl, rfl⟩
  refine jx_eq (st2 := [.inl 0]) rfl rfl rfl ?_
  refine jx_if_ne 12 d_M_run_7 (by decide) (fun h => absurd h (by decide)) (fun _ => ?_)
  refine jx_of (fun _ _ kz => jw_iconst (-1) d_M_run_10 (by decide) kz) ?_
  refine jx_iret d_M_run_11 rfl ?_
  exact ⟨rfl, rfl, rfl⟩
set_option maxRecDepth 20000 in
set_option maxHeartbeats 4000000 in
theorem x_M_tick_t {G : Gt} {M : Me} (d : Nat) (x : Int32) (hm : mfr M) (h1 : ¬ x < 1) (h2 : ¬ 20 < x) : sx G yt_M_tick yn_M_tick (d + 2) [.inr (some (7, 0)), .inl x] M (fun r M' => r = some (.inl x) ∧ nC M M') := by
  refine sx_of (k := 4) (lc := [some (.inr (some (7, 0))), some (.inl x), none, none, none, none]) mt_M_tick (Nat.le_of_ble_eq_true rfl) rfl ?_
  refine jx_of (fun _ _ kz => jw_iload_n 1 d_M_tick_0 rfl rfl kz) ?_
  refine jx_of (fun _ _ kz => jw_iconst 1 d_M_tick_1 (by decide) kz) ?_
  refine jx_of (fun _ _ kz => jw_bipush 20 d_M_tick_2 (by decide) kz) ?_
  refine jx_callS (x_M_is_t _ x 1 20  h1 h2) mt_M_is ml_M_93 sm_M_is d_M_tick_4 rfl rfl (Nat.le_of_ble_eq_true rfl) ?_
  rintro _ _ ⟨rfl, rfl⟩
  refine jx_eq (st2 := [.inl 1]) rfl rfl rfl ?_
  refine jx_if_ne 12 d_M_tick_7 (by decide) (fun _ => ?_) (fun h => absurd h (by decide))
  refine jx_of (fun _ _ kz => jw_iconst 0 d_M_tick_12 (by decide) kz) ?_
  refine jx_of (fun _ _ kz => jw_istore_n 2 d_M_tick_13 rfl (Nat.le_of_ble_eq_true rfl) kz) ?_
  dsimp only [List.set]
  obtain ⟨j, hj, rfl⟩ := nI_of2 (M := 20) (n := 20) (by decide) (lt1 h1) (Int32.not_lt.mp h2)
  exact x_M_tick_loop d j hj j 0 M none (by omega) (mid_of hm) (hm.2.2 (7, 0, 29, 0) (by decide)) _ _
set_option maxRecDepth 20000 in
set_option maxHeartbeats 4000000 in
theorem x_M_tick_f {G : Gt} {M : Me} (d : Nat) (x : Int32) (hm : mfr M) (h1 : x < 1 ∨ 20 < x) : sx G yt_M_tick yn_M_tick (d + 2) [.inr (some (7, 0)), .inl x] M (fun r M' => r = some (.inl (-1)) ∧ nC M M') := by
  refine sx_of (k := 4) (lc := [some (.inr (some (7, 0))), some (.inl x), none, none, none, none]) mt_M_tick (Nat.le_of_ble_eq_true rfl) rfl ?_
  refine jx_of (fun _ _ kz => jw_iload_n 1 d_M_tick_0 rfl rfl kz) ?_
  refine jx_of (fun _ _ kz => jw_iconst 1 d_M_tick_1 (by decide) kz) ?_
  refine jx_of (fun _ _ kz => jw_bipush 20 d_M_tick_2 (by decide) kz) ?_
  refine jx_callS (x_M_is_f _ x 1 20  h1) mt_M_is ml_M_93 sm_M_is d_M_tick_4 rfl rfl (Nat.le_of_ble_eq_true rfl) ?_
  rintro _ _ ⟨rfl, rfl⟩
  refine jx_eq (st2 := [.inl 0]) rfl rfl rfl ?_
  refine jx_if_ne 12 d_M_tick_7 (by decide) (fun h => absurd h (by decide)) (fun _ => ?_)
  refine jx_of (fun _ _ kz => jw_iconst (-1) d_M_tick_10 (by decide) kz) ?_
  refine jx_iret d_M_tick_11 rfl ?_
  exact ⟨rfl, rfl, rfl⟩
