theorem nI_pm {e q : Nat} (h : 1 ≤ e) : nI e + (nI q - 1) = nI (e + q - 1) := by
  obtain ⟨m, hm⟩ : ∃ m, e + q = m + 1 := ⟨e + q - 1, by omega⟩
  rw [Int32.sub_eq_add_neg, ← Int32.add_assoc, nI_add, ← Int32.sub_eq_add_neg, hm, nI_pred, Nat.add_sub_cancel]
theorem due_s (o : Nat → Nat) (k : Nat) : due o (k + 1) = due o k + (pN (o k) : Int) - 1 := rfl
theorem due_le (o : Nat → Nat) : ∀ k, k ≤ 12 → due o k ≤ 30 := by
  have h : ∀ k, due o k ≤ 1 + k := by
    intro k
    induction k with
    | zero => exact Int.le_refl _
    | succ k ih =>
      have hp : pN (o k) ≤ 2 := by unfold pN; split; omega; split <;> omega
      rw [due_s]; omega
  intro k hk
  have := h k
  omega
set_option maxRecDepth 20000 in
set_option maxHeartbeats 4000000 in
theorem x_M_parts_0 {G : Gt} {M : Me} (d : Nat) : sx G yt_M_parts yn_M_parts (d + 2) [.inl 0] M (fun r M' => r = some (.inl 0) ∧ M = M') := by
  refine sx_of (k := 0) (lc := [some (.inl 0)]) mt_M_parts (Nat.le_of_ble_eq_true rfl) rfl ?_
  refine jx_of (fun _ _ kz => jw_iload_n 0 d_M_parts_0 rfl rfl kz) ?_
  refine jx_of (fun _ _ kz => jw_bipush 8 d_M_parts_1 (by decide) kz) ?_
  refine jx_icmp_lt 12 d_M_parts_3 (by decide) (fun _ => ?_) (fun h => absurd h (by decide))
  refine jx_of (fun _ _ kz => jw_iconst 0 d_M_parts_12 (by decide) kz) ?_
  refine jx_of (fun _ _ kz => jw_goto 32 d_M_parts_13 (by decide) kz) ?_
  refine jx_iret d_M_parts_32 rfl ?_
  exact ⟨rfl, rfl⟩
set_option maxRecDepth 20000 in
set_option maxHeartbeats 4000000 in
theorem x_M_parts_1 {G : Gt} {M : Me} (d : Nat) : sx G yt_M_parts yn_M_parts (d + 2) [.inl 1] M (fun r M' => r = some (.inl 0) ∧ M = M') := by
  refine sx_of (k := 0) (lc := [some (.inl 1)]) mt_M_parts (Nat.le_of_ble_eq_true rfl) rfl ?_
  refine jx_of (fun _ _ kz => jw_iload_n 0 d_M_parts_0 rfl rfl kz) ?_
  refine jx_of (fun _ _ kz => jw_bipush 8 d_M_parts_1 (by decide) kz) ?_
  refine jx_icmp_lt 12 d_M_parts_3 (by decide) (fun _ => ?_) (fun h => absurd h (by decide))
  refine jx_of (fun _ _ kz => jw_iconst 0 d_M_parts_12 (by decide) kz) ?_
  refine jx_of (fun _ _ kz => jw_goto 32 d_M_parts_13 (by decide) kz) ?_
  refine jx_iret d_M_parts_32 rfl ?_
  exact ⟨rfl, rfl⟩
set_option maxRecDepth 20000 in
set_option maxHeartbeats 4000000 in
theorem x_M_parts_2 {G : Gt} {M : Me} (d : Nat) : sx G yt_M_parts yn_M_parts (d + 2) [.inl 2] M (fun r M' => r = some (.inl 0) ∧ M = M') := by
  refine sx_of (k := 0) (lc := [some (.inl 2)]) mt_M_parts (Nat.le_of_ble_eq_true rfl) rfl ?_
  refine jx_of (fun _ _ kz => jw_iload_n 0 d_M_parts_0 rfl rfl kz) ?_
  refine jx_of (fun _ _ kz => jw_bipush 8 d_M_parts_1 (by decide) kz) ?_
  refine jx_icmp_lt 12 d_M_parts_3 (by decide) (fun _ => ?_) (fun h => absurd h (by decide))
  refine jx_of (fun _ _ kz => jw_iconst 0 d_M_parts_12 (by decide) kz) ?_
  refine jx_of (fun _ _ kz => jw_goto 32 d_M_parts_13 (by decide) kz) ?_
  refine jx_iret d_M_parts_32 rfl ?_
  exact ⟨rfl, rfl⟩
set_option maxRecDepth 20000 in
set_option maxHeartbeats 4000000 in
theorem x_M_parts_3 {G : Gt} {M : Me} (d : Nat) : sx G yt_M_parts yn_M_parts (d + 2) [.inl 3] M (fun r M' => r = some (.inl 0) ∧ M = M') := by
  refine sx_of (k := 0) (lc := [some (.inl 3)]) mt_M_parts (Nat.le_of_ble_eq_true rfl) rfl ?_
  refine jx_of (fun _ _ kz => jw_iload_n 0 d_M_parts_0 rfl rfl kz) ?_
  refine jx_of (fun _ _ kz => jw_bipush 8 d_M_parts_1 (by decide) kz) ?_
  refine jx_icmp_lt 12 d_M_parts_3 (by decide) (fun _ => ?_) (fun h => absurd h (by decide))
  refine jx_of (fun _ _ kz => jw_iconst 0 d_M_parts_12 (by decide) kz) ?_
  refine jx_of (fun _ _ kz => jw_goto 32 d_M_parts_13 (by decide) kz) ?_
  refine jx_iret d_M_parts_32 rfl ?_
  exact ⟨rfl, rfl⟩
set_option maxRecDepth 20000 in
set_option maxHeartbeats 4000000 in
theorem x_M_parts_4 {G : Gt} {M : Me} (d : Nat) : sx G yt_M_parts yn_M_parts (d + 2) [.inl 4] M (fun r M' => r = some (.inl 0) ∧ M = M') := by
  refine sx_of (k := 0) (lc := [some (.inl 4)]) mt_M_parts (Nat.le_of_ble_eq_true rfl) rfl ?_
  refine jx_of (fun _ _ kz => jw_iload_n 0 d_M_parts_0 rfl rfl kz) ?_
  refine jx_of (fun _ _ kz => jw_bipush 8 d_M_parts_1 (by decide) kz) ?_
  refine jx_icmp_lt 12 d_M_parts_3 (by decide) (fun _ => ?_) (fun h => absurd h (by decide))
  refine jx_of (fun _ _ kz => jw_iconst 0 d_M_parts_12 (by decide) kz) ?_
  refine jx_of (fun _ _ kz => jw_goto 32 d_M_parts_13 (by decide) kz) ?_
  refine jx_iret d_M_parts_32 rfl ?_
  exact ⟨rfl, rfl⟩
set_option maxRecDepth 20000 in
set_option maxHeartbeats 4000000 in
theorem x_M_parts_5 {G : Gt} {M : Me} (d : Nat) : sx G yt_M_parts yn_M_parts (d + 2) [.inl 5] M (fun r M' => r = some (.inl 0) ∧ M = M') := by
  refine sx_of (k := 0) (lc := [some (.inl 5)]) mt_M_parts (Nat.le_of_ble_eq_true rfl) rfl ?_
  refine jx_of (fun _ _ kz => jw_iload_n 0 d_M_parts_0 rfl rfl kz) ?_
  refine jx_of (fun _ _ kz => jw_bipush 8 d_M_parts_1 (by decide) kz) ?_
  refine jx_icmp_lt 12 d_M_parts_3 (by decide) (fun _ => ?_) (fun h => absurd h (by decide))
  refine jx_of (fun _ _ kz => jw_iconst 0 d_M_parts_12 (by decide) kz) ?_
  refine jx_of (fun _ _ kz => jw_goto 32 d_M_parts_13 (by decide) kz) ?_
  refine jx_iret d_M_parts_32 rfl ?_
  exact ⟨rfl, rfl⟩
set_option maxRecDepth 20000 in
set_option maxHeartbeats 4000000 in
theorem x_M_parts_6 {G : Gt} {M : Me} (d : Nat) : sx G yt_M_parts yn_M_parts (d + 2) [.inl 6] M (fun r M' => r = some (.inl 0) ∧ M = M') := by
  refine sx_of (k := 0) (lc := [some (.inl 6)]) mt_M_parts (Nat.le_of_ble_eq_true rfl) rfl ?_
  refine jx_of (fun _ _ kz => jw_iload_n 0 d_M_parts_0 rfl rfl kz) ?_
  refine jx_of (fun _ _ kz => jw_bipush 8 d_M_parts_1 (by decide) kz) ?_
  refine jx_icmp_lt 12 d_M_parts_3 (by decide) (fun _ => ?_) (fun h => absurd h (by decide))
  refine jx_of (fun _ _ kz => jw_iconst 0 d_M_parts_12 (by decide) kz) ?_
  refine jx_of (fun _ _ kz => jw_goto 32 d_M_parts_13 (by decide) kz) ?_
  refine jx_iret d_M_parts_32 rfl ?_
  exact ⟨rfl, rfl⟩
set_option maxRecDepth 20000 in
set_option maxHeartbeats 4000000 in
theorem x_M_parts_7 {G : Gt} {M : Me} (d : Nat) : sx G yt_M_parts yn_M_parts (d + 2) [.inl 7] M (fun r M' => r = some (.inl 0) ∧ M = M') := by
  refine sx_of (k := 0) (lc := [some (.inl 7)]) mt_M_parts (Nat.le_of_ble_eq_true rfl) rfl ?_
  refine jx_of (fun _ _ kz => jw_iload_n 0 d_M_parts_0 rfl rfl kz) ?_
  refine jx_of (fun _ _ kz => jw_bipush 8 d_M_parts_1 (by decide) kz) ?_
  refine jx_icmp_lt 12 d_M_parts_3 (by decide) (fun _ => ?_) (fun h => absurd h (by decide))
  refine jx_of (fun _ _ kz => jw_iconst 0 d_M_parts_12 (by decide) kz) ?_
  refine jx_of (fun _ _ kz => jw_goto 32 d_M_parts_13 (by decide) kz) ?_
  refine jx_iret d_M_parts_32 rfl ?_
  exact ⟨rfl, rfl⟩
set_option maxRecDepth 20000 in
set_option maxHeartbeats 4000000 in
theorem x_M_parts_8 {G : Gt} {M : Me} (d : Nat) : sx G yt_M_parts yn_M_parts (d + 2) [.inl 8] M (fun r M' => r = some (.inl 1) ∧ M = M') := by
  refine sx_of (k := 0) (lc := [some (.inl 8)]) mt_M_parts (Nat.le_of_ble_eq_true rfl) rfl ?_
  refine jx_of (fun _ _ kz => jw_iload_n 0 d_M_parts_0 rfl rfl kz) ?_
  refine jx_of (fun _ _ kz => jw_bipush 8 d_M_parts_1 (by decide) kz) ?_
  refine jx_icmp_lt 12 d_M_parts_3 (by decide) (fun h => absurd h (by decide)) (fun _ => ?_)
  refine jx_of (fun _ _ kz => jw_iload_n 0 d_M_parts_6 rfl rfl kz) ?_
  refine jx_of (fun _ _ kz => jw_bipush 9 d_M_parts_7 (by decide) kz) ?_
  refine jx_icmp_ne 16 d_M_parts_9 (by decide) (fun _ => ?_) (fun h => absurd h (by decide))
  refine jx_of (fun _ _ kz => jw_iload_n 0 d_M_parts_16 rfl rfl kz) ?_
  refine jx_of (fun _ _ kz => jw_bipush 10 d_M_parts_17 (by decide) kz) ?_
  refine jx_of (fun _ _ kz => jw_bipush 12 d_M_parts_19 (by decide) kz) ?_
  refine jx_callS (x_M_is_f _ 8 10 12  (by decide)) mt_M_is ml_M_93 sm_M_is d_M_parts_21 rfl rfl (Nat.le_of_ble_eq_true rfl) ?_
  rintro _ _ ⟨rfl, rfl⟩
  refine jx_eq (st2 := [.inl 0]) rfl rfl rfl ?_
  refine jx_if_eq 31 d_M_parts_24 (by decide) (fun _ => ?_) (fun h => absurd h (by decide))
  refine jx_of (fun _ _ kz => jw_iconst 1 d_M_parts_31 (by decide) kz) ?_
  refine jx_iret d_M_parts_32 rfl ?_
  exact ⟨rfl, rfl⟩
set_option maxRecDepth 20000 in
set_option maxHeartbeats 4000000 in
theorem x_M_parts_9 {G : Gt} {M : Me} (d : Nat) : sx G yt_M_parts yn_M_parts (d + 2) [.inl 9] M (fun r M' => r = some (.inl 0) ∧ M = M') := by
  refine sx_of (k := 0) (lc := [some (.inl 9)]) mt_M_parts (Nat.le_of_ble_eq_true rfl) rfl ?_
  refine jx_of (fun _ _ kz => jw_iload_n 0 d_M_parts_0 rfl rfl kz) ?_
  refine jx_of (fun _ _ kz => jw_bipush 8 d_M_parts_1 (by decide) kz) ?_
  refine jx_icmp_lt 12 d_M_parts_3 (by decide) (fun h => absurd h (by decide)) (fun _ => ?_)
  refine jx_of (fun _ _ kz => jw_iload_n 0 d_M_parts_6 rfl rfl kz) ?_
  refine jx_of (fun _ _ kz => jw_bipush 9 d_M_parts_7 (by decide) kz) ?_
  refine jx_icmp_ne 16 d_M_parts_9 (by decide) (fun h => absurd h (by decide)) (fun _ => ?_)
  refine jx_of (fun _ _ kz => jw_iconst 0 d_M_parts_12 (by decide) kz) ?_
  refine jx_of (fun _ _ kz => jw_goto 32 d_M_parts_13 (by decide) kz) ?_
  refine jx_iret d_M_parts_32 rfl ?_
  exact ⟨rfl, rfl⟩
set_option maxRecDepth 20000 in
set_option maxHeartbeats 4000000 in
theorem x_M_parts_10 {G : Gt} {M : Me} (d : Nat) : sx G yt_M_parts yn_M_parts (d + 2) [.inl 10] M (fun r M' => r = some (.inl 2) ∧ M = M') := by
  refine sx_of (k := 0) (lc := [some (.inl 10)]) mt_M_parts (Nat.le_of_ble_eq_true rfl) rfl ?_
  refine jx_of (fun _ _ kz => jw_iload_n 0 d_M_parts_0 rfl rfl kz) ?_
  refine jx_of (fun _ _ kz => jw_bipush 8 d_M_parts_1 (by decide) kz) ?_
  refine jx_icmp_lt 12 d_M_parts_3 (by decide) (fun h => absurd h (by decide)) (fun _ => ?_)
  refine jx_of (fun _ _ kz => jw_iload_n 0 d_M_parts_6 rfl rfl kz) ?_
  refine jx_of (fun _ _ kz => jw_bipush 9 d_M_parts_7 (by decide) kz) ?_
  refine jx_icmp_ne 16 d_M_parts_9 (by decide) (fun _ => ?_) (fun h => absurd h (by decide))
  refine jx_of (fun _ _ kz => jw_iload_n 0 d_M_parts_16 rfl rfl kz) ?_
  refine jx_of (fun _ _ kz => jw_bipush 10 d_M_parts_17 (by decide) kz) ?_
  refine jx_of (fun _ _ kz => jw_bipush 12 d_M_parts_19 (by decide) kz) ?_
  refine jx_callS (x_M_is_t _ 10 10 12  (by decide) (by decide)) mt_M_is ml_M_93 sm_M_is d_M_parts_21 rfl rfl (Nat.le_of_ble_eq_true rfl) ?_
  rintro _ _ ⟨rfl, rfl⟩
  refine jx_eq (st2 := [.inl 1]) rfl rfl rfl ?_
  refine jx_if_eq 31 d_M_parts_24 (by decide) (fun h => absurd h (by decide)) (fun _ => ?_)
  refine jx_of (fun _ _ kz => jw_iconst 2 d_M_parts_27 (by decide) kz) ?_
  refine jx_of (fun _ _ kz => jw_goto 32 d_M_parts_28 (by decide) kz) ?_
  refine jx_iret d_M_parts_32 rfl ?_
  exact ⟨rfl, rfl⟩
set_option maxRecDepth 20000 in
set_option maxHeartbeats 4000000 in
theorem x_M_parts_11 {G : Gt} {M : Me} (d : Nat) : sx G yt_M_parts yn_M_parts (d + 2) [.inl 11] M (fun r M' => r = some (.inl 2) ∧ M = M') := by
  refine sx_of (k := 0) (lc := [some (.inl 11)]) mt_M_parts (Nat.le_of_ble_eq_true rfl) rfl ?_
  refine jx_of (fun _ _ kz => jw_iload_n 0 d_M_parts_0 rfl rfl kz) ?_
  refine jx_of (fun _ _ kz => jw_bipush 8 d_M_parts_1 (by decide) kz) ?_
  refine jx_icmp_lt 12 d_M_parts_3 (by decide) (fun h => absurd h (by decide)) (fun _ => ?_)
  refine jx_of (fun _ _ kz => jw_iload_n 0 d_M_parts_6 rfl rfl kz) ?_
  refine jx_of (fun _ _ kz => jw_bipush 9 d_M_parts_7 (by decide) kz) ?_
  refine jx_icmp_ne 16 d_M_parts_9 (by decide) (fun _ => ?_) (fun h => absurd h (by decide))
  refine jx_of (fun _ _ kz => jw_iload_n 0 d_M_parts_16 rfl rfl kz) ?_
  refine jx_of (fun _ _ kz => jw_bipush 10 d_M_parts_17 (by decide) kz) ?_
  refine jx_of (fun _ _ kz => jw_bipush 12 d_M_parts_19 (by decide) kz) ?_
  refine jx_callS (x_M_is_t _ 11 10 12  (by decide) (by decide)) mt_M_is ml_M_93 sm_M_is d_M_parts_21 rfl rfl (Nat.le_of_ble_eq_true rfl) ?_
  rintro _ _ ⟨rfl, rfl⟩
  refine jx_eq (st2 := [.inl 1]) rfl rfl rfl ?_
  refine jx_if_eq 31 d_M_parts_24 (by decide) (fun h => absurd h (by decide)) (fun _ => ?_)
  refine jx_of (fun _ _ kz => jw_iconst 2 d_M_parts_27 (by decide) kz) ?_
  refine jx_of (fun _ _ kz => jw_goto 32 d_M_parts_28 (by decide) kz) ?_
  refine jx_iret d_M_parts_32 rfl ?_
  exact ⟨rfl, rfl⟩
set_option maxRecDepth 20000 in
set_option maxHeartbeats 4000000 in
theorem x_M_parts_12 {G : Gt} {M : Me} (d : Nat) : sx G yt_M_parts yn_M_parts (d + 2) [.inl 12] M (fun r M' => r = some (.inl 2) ∧ M = M') := by
  refine sx_of (k := 0) (lc := [some (.inl 12)]) mt_M_parts (Nat.le_of_ble_eq_true rfl) rfl ?_
  refine jx_of (fun _ _ kz => jw_iload_n 0 d_M_parts_0 rfl rfl kz) ?_
  refine jx_of (fun _ _ kz => jw_bipush 8 d_M_parts_1 (by decide) kz) ?_
  refine jx_icmp_lt 12 d_M_parts_3 (by decide) (fun h => absurd h (by decide)) (fun _ => ?_)
  refine jx_of (fun _ _ kz => jw_iload_n 0 d_M_parts_6 rfl rfl kz) ?_
  refine jx_of (fun _ _ kz => jw_bipush 9 d_M_parts_7 (by decide) kz) ?_
  refine jx_icmp_ne 16 d_M_parts_9 (by decide) (fun _ => ?_) (fun h => absurd h (by decide))
  refine jx_of (fun _ _ kz => jw_iload_n 0 d_M_parts_16 rfl rfl kz) ?_
  refine jx_of (fun _ _ kz => jw_bipush 10 d_M_parts_17 (by decide) kz) ?_
  refine jx_of (fun _ _ kz => jw_bipush 12 d_M_parts_19 (by decide) kz) ?_
  refine jx_callS (x_M_is_t _ 12 10 12  (by decide) (by decide)) mt_M_is ml_M_93 sm_M_is d_M_parts_21 rfl rfl (Nat.le_of_ble_eq_true rfl) ?_
  rintro _ _ ⟨rfl, rfl⟩
  refine jx_eq (st2 := [.inl 1]) rfl rfl rfl ?_
  refine jx_if_eq 31 d_M_parts_24 (by decide) (fun h => absurd h (by decide)) (fun _ => ?_)
  refine jx_of (fun _ _ kz => jw_iconst 2 d_M_parts_27 (by decide) kz) ?_
  refine jx_of (fun _ _ kz => jw_goto 32 d_M_parts_28 (by decide) kz) ?_
  refine jx_iret d_M_parts_32 rfl ?_
  exact ⟨rfl, rfl⟩
set_option maxRecDepth 20000 in
set_option maxHeartbeats 4000000 in
theorem x_M_parts_13 {G : Gt} {M : Me} (d : Nat) : sx G yt_M_parts yn_M_parts (d + 2) [.inl 13] M (fun r M' => r = some (.inl 1) ∧ M = M') := by
  refine sx_of (k := 0) (lc := [some (.inl 13)]) mt_M_parts (Nat.le_of_ble_eq_true rfl) rfl ?_
  refine jx_of (fun _ _ kz => jw_iload_n 0 d_M_parts_0 rfl rfl kz) ?_
  refine jx_of (fun _ _ kz => jw_bipush 8 d_M_parts_1 (by decide) kz) ?_
  refine jx_icmp_lt 12 d_M_parts_3 (by decide) (fun h => absurd h (by decide)) (fun _ => ?_)
  refine jx_of (fun _ _ kz => jw_iload_n 0 d_M_parts_6 rfl rfl kz) ?_
  refine jx_of (fun _ _ kz => jw_bipush 9 d_M_parts_7 (by decide) kz) ?_
  refine jx_icmp_ne 16 d_M_parts_9 (by decide) (fun _ => ?_) (fun h => absurd h (by decide))
  refine jx_of (fun _ _ kz => jw_iload_n 0 d_M_parts_16 rfl rfl kz) ?_
  refine jx_of (fun _ _ kz => jw_bipush 10 d_M_parts_17 (by decide) kz) ?_
  refine jx_of (fun _ _ kz => jw_bipush 12 d_M_parts_19 (by decide) kz) ?_
  refine jx_callS (x_M_is_f _ 13 10 12  (by decide)) mt_M_is ml_M_93 sm_M_is d_M_parts_21 rfl rfl (Nat.le_of_ble_eq_true rfl) ?_
  rintro _ _ ⟨rfl, rfl⟩
  refine jx_eq (st2 := [.inl 0]) rfl rfl rfl ?_
  refine jx_if_eq 31 d_M_parts_24 (by decide) (fun _ => ?_) (fun h => absurd h (by decide))
  refine jx_of (fun _ _ kz => jw_iconst 1 d_M_parts_31 (by decide) kz) ?_
  refine jx_iret d_M_parts_32 rfl ?_
  exact ⟨rfl, rfl⟩
set_option maxRecDepth 20000 in
set_option maxHeartbeats 4000000 in
theorem x_M_parts_14 {G : Gt} {M : Me} (d : Nat) : sx G yt_M_parts yn_M_parts (d + 2) [.inl 14] M (fun r M' => r = some (.inl 1) ∧ M = M') := by
  refine sx_of (k := 0) (lc := [some (.inl 14)]) mt_M_parts (Nat.le_of_ble_eq_true rfl) rfl ?_
  refine jx_of (fun _ _ kz => jw_iload_n 0 d_M_parts_0 rfl rfl kz) ?_
  refine jx_of (fun _ _ kz => jw_bipush 8 d_M_parts_1 (by decide) kz) ?_
  refine jx_icmp_lt 12 d_M_parts_3 (by decide) (fun h => absurd h (by decide)) (fun _ => ?_)
  refine jx_of (fun _ _ kz => jw_iload_n 0 d_M_parts_6 rfl rfl kz) ?_
  refine jx_of (fun _ _ kz => jw_bipush 9 d_M_parts_7 (by decide) kz) ?_
  refine jx_icmp_ne 16 d_M_parts_9 (by decide) (fun _ => ?_) (fun h => absurd h (by decide))
  refine jx_of (fun _ _ kz => jw_iload_n 0 d_M_parts_16 rfl rfl kz) ?_
  refine jx_of (fun _ _ kz => jw_bipush 10 d_M_parts_17 (by decide) kz) ?_
  refine jx_of (fun _ _ kz => jw_bipush 12 d_M_parts_19 (by decide) kz) ?_
  refine jx_callS (x_M_is_f _ 14 10 12  (by decide)) mt_M_is ml_M_93 sm_M_is d_M_parts_21 rfl rfl (Nat.le_of_ble_eq_true rfl) ?_
  rintro _ _ ⟨rfl, rfl⟩
  refine jx_eq (st2 := [.inl 0]) rfl rfl rfl ?_
  refine jx_if_eq 31 d_M_parts_24 (by decide) (fun _ => ?_) (fun h => absurd h (by decide))
  refine jx_of (fun _ _ kz => jw_iconst 1 d_M_parts_31 (by decide) kz) ?_
  refine jx_iret d_M_parts_32 rfl ?_
  exact ⟨rfl, rfl⟩
set_option maxRecDepth 20000 in
set_option maxHeartbeats 4000000 in
theorem x_M_parts_15 {G : Gt} {M : Me} (d : Nat) : sx G yt_M_parts yn_M_parts (d + 2) [.inl 15] M (fun r M' => r = some (.inl 1) ∧ M = M') := by
  refine sx_of (k := 0) (lc := [some (.inl 15)]) mt_M_parts (Nat.le_of_ble_eq_true rfl) rfl ?_
  refine jx_of (fun _ _ kz => jw_iload_n 0 d_M_parts_0 rfl rfl kz) ?_
  refine jx_of (fun _ _ kz => jw_bipush 8 d_M_parts_1 (by decide) kz) ?_
  refine jx_icmp_lt 12 d_M_parts_3 (by decide) (fun h => absurd h (by decide)) (fun _ => ?_)
  refine jx_of (fun _ _ kz => jw_iload_n 0 d_M_parts_6 rfl rfl kz) ?_
  refine jx_of (fun _ _ kz => jw_bipush 9 d_M_parts_7 (by decide) kz) ?_
  refine jx_icmp_ne 16 d_M_parts_9 (by decide) (fun _ => ?_) (fun h => absurd h (by decide))
  refine jx_of (fun _ _ kz => jw_iload_n 0 d_M_parts_16 rfl rfl kz) ?_
  refine jx_of (fun _ _ kz => jw_bipush 10 d_M_parts_17 (by decide) kz) ?_
  refine jx_of (fun _ _ kz => jw_bipush 12 d_M_parts_19 (by decide) kz) ?_
  refine jx_callS (x_M_is_f _ 15 10 12  (by decide)) mt_M_is ml_M_93 sm_M_is d_M_parts_21 rfl rfl (Nat.le_of_ble_eq_true rfl) ?_
  rintro _ _ ⟨rfl, rfl⟩
  refine jx_eq (st2 := [.inl 0]) rfl rfl rfl ?_
  refine jx_if_eq 31 d_M_parts_24 (by decide) (fun _ => ?_) (fun h => absurd h (by decide))
  refine jx_of (fun _ _ kz => jw_iconst 1 d_M_parts_31 (by decide) kz) ?_
  refine jx_iret d_M_parts_32 rfl ?_
  exact ⟨rfl, rfl⟩
theorem z_M_parts {G : Gt} {M : Me} (d o : Nat) (ho : o < 16) : sx G yt_M_parts yn_M_parts (d + 2) [.inl (nI o)] M (fun r M' => r = some (.inl (nI (pN o))) ∧ M = M') := by
  rcases (show o = 0 ∨ o = 1 ∨ o = 2 ∨ o = 3 ∨ o = 4 ∨ o = 5 ∨ o = 6 ∨ o = 7 ∨ o = 8 ∨ o = 9 ∨ o = 10 ∨ o = 11 ∨ o = 12 ∨ o = 13 ∨ o = 14 ∨ o = 15 by omega) with rfl | rfl | rfl | rfl | rfl | rfl | rfl | rfl | rfl | rfl | rfl | rfl | rfl | rfl | rfl | rfl
  · exact x_M_parts_0 d
  · exact x_M_parts_1 d
  · exact x_M_parts_2 d
  · exact x_M_parts_3 d
  · exact x_M_parts_4 d
  · exact x_M_parts_5 d
  · exact x_M_parts_6 d
  · exact x_M_parts_7 d
  · exact x_M_parts_8 d
  · exact x_M_parts_9 d
  · exact x_M_parts_10 d
  · exact x_M_parts_11 d
  · exact x_M_parts_12 d
  · exact x_M_parts_13 d
  · exact x_M_parts_14 d
  · exact x_M_parts_15 d
set_option maxRecDepth 20000 in
set_option maxHeartbeats 4000000 in
theorem z_M_end_loop {G : Gt} {M : Me} (d t n p len : Nat) (o : Nat → Nat) (hm : mSh M) (ht : t < 12) (hp : me_I M 36 0 t = nI p) (hpp : p < 6) (h1 : mP1 M p len o) (hn : n < len) (c0 s0 : Nat) : ∀ (m k e : Nat), k + m = len → n ≤ k → (e : Int) = due o k - due o n + 1 → jx G yt_M_end (d + 3) c0 s0 M 5 [some (.inr (some (7, 0))), some (.inl (nI t)), some (.inl (nI n)), some (.inl (nI e)), some (.inl (nI k))] [] (fun r M' => (∃ e', n < e' ∧ e' ≤ len ∧ due o e' = due o n - 1 ∧ r = some (.inl (nI e'))) ∧ M = M') := by
  have hd0 := h1.2.2.2
  have hl := h1.1
  intro m
  induction m with
  | zero =>
    intro k e hk hnk he
    have he0 : e = 0 := by
      have a := hd0.1 n hn
      have b := hd0.2
      rw [show k = len by omega, b] at he
      omega
    subst he0
    refine jx_of (fun _ _ kz => jw_iload_n 3 d_M_end_5 rfl rfl kz) ?_
    refine jx_if_le 30 d_M_end_6 (by decide) (fun _ => ?_) (fun h => absurd (by first | exact Int32.le_refl _ | decide) h)
    refine jx_of (fun _ _ kz => jw_iload d_M_end_30 rfl kz) ?_
    refine jx_iret d_M_end_32 rfl ?_
    exact ⟨⟨k, by rcases Nat.lt_or_ge n k with q | q; exact q; exact absurd he (by rw [show k = n by omega]; omega), by omega, by omega, rfl⟩, rfl⟩
  | succ m ih =>
    intro k e hk hnk he
    have hok := h1.2.2.1 k (by omega)
    rcases Nat.eq_zero_or_pos e with e0 | e0
    · subst e0
      refine jx_of (fun _ _ kz => jw_iload_n 3 d_M_end_5 rfl rfl kz) ?_
      refine jx_if_le 30 d_M_end_6 (by decide) (fun _ => ?_) (fun h => absurd (by first | exact Int32.le_refl _ | decide) h)
      refine jx_of (fun _ _ kz => jw_iload d_M_end_30 rfl kz) ?_
      refine jx_iret d_M_end_32 rfl ?_
      exact ⟨⟨k, by rcases Nat.lt_or_ge n k with q | q; exact q; exact absurd he (by rw [show k = n by omega]; omega), by omega, by omega, rfl⟩, rfl⟩
    · have hpn : pN (o k) ≤ 2 := by unfold pN; split; omega; split <;> omega
      have hdk : due o k ≤ 30 := due_le o k (by omega)
      have hdn := hd0.1 n hn
      refine jx_of (fun _ _ kz => jw_iload_n 3 d_M_end_5 rfl rfl kz) ?_
      refine jx_if_le 30 d_M_end_6 (by decide) (fun h => absurd h (nI_nle (by omega) (by omega))) (fun _ => ?_)
      refine jx_of (fun _ _ kz => jw_iload_n 3 d_M_end_9 rfl rfl kz) ?_
      refine jx_of (fun _ _ kz => jw_aload_n 0 d_M_end_10 rfl rfl kz) ?_
      refine jx_of (fun _ _ kz => jw_iload_n 1 d_M_end_11 rfl rfl kz) ?_
      refine jx_of (fun _ _ kz => jw_iload d_M_end_12 rfl kz) ?_
      refine jx_callV (z_M_opOf (d + 1) t k p hm  ht (by omega) hp hpp) mt_M_opOf cf_M rfl rfl ml_M_108 im_M_opOf se_M_opOf d_M_end_14 rfl rfl (Nat.le_of_ble_eq_true rfl) ?_
      rintro _ _ ⟨rfl, rfl⟩
      refine jx_eq (st2 := [.inl (me_I M 30 0 (12 * p + k)), .inl (nI e)]) rfl rfl rfl ?_
      rw [show (me_I M 30 0 (12 * p + k) : Int32) = nI (o k) from hok.2.1]
      refine jx_callS (z_M_parts _ ((o k))  hok.1) mt_M_parts ml_M_101 sm_M_parts d_M_end_17 rfl rfl (Nat.le_of_ble_eq_true rfl) ?_
      rintro _ _ ⟨rfl, rfl⟩
      refine jx_eq (st2 := [.inl (nI (pN (o k))), .inl (nI e)]) rfl rfl rfl ?_
      refine jx_of (fun _ _ kz => jw_iconst 1 d_M_end_20 (by decide) kz) ?_
      refine jx_of (fun _ _ kz => jw_isub d_M_end_21 kz) ?_
      refine jx_of (fun _ _ kz => jw_iadd d_M_end_22 kz) ?_
      rw [show ((nI e) + ((nI (pN (o k))) - 1) : Int32) = nI (e + pN (o k) - 1) from nI_pm (by omega)]
      refine jx_of (fun _ _ kz => jw_istore_n 3 d_M_end_23 rfl (Nat.le_of_ble_eq_true rfl) kz) ?_
      dsimp only [List.set]
      refine jx_of (fun _ _ kz => jw_iincc 1 d_M_end_24 (by decide) rfl (Nat.le_of_ble_eq_true rfl) kz) ?_
      dsimp only [List.set]
      refine jx_of (fun _ _ kz => jw_goto 5 d_M_end_27 (by decide) kz) ?_
      rw [nI_1]
      exact ih (k + 1) (e + pN (o k) - 1) (by omega) (by omega) (by rw [due_s]; omega)
set_option maxRecDepth 20000 in
set_option maxHeartbeats 4000000 in
theorem z_M_end {G : Gt} {M : Me} (d : Nat) (t : Nat) (n : Nat) (p : Nat) (len : Nat) (o : Nat → Nat) (hm : mSh M) (ht : t < 12) (hp : me_I M 36 0 t = nI p) (hpp : p < 6) (h1 : mP1 M p len o) (hn : n < len) : sx G yt_M_end yn_M_end (d + 3) [.inr (some (7, 0)), .inl (nI t), .inl (nI n)] M (fun r M' => (∃ e', n < e' ∧ e' ≤ len ∧ due o e' = due o n - 1 ∧ r = some (.inl (nI e'))) ∧ M = M') := by
  refine sx_of (k := 2) (lc := [some (.inr (some (7, 0))), some (.inl (nI t)), some (.inl (nI n)), none, none]) mt_M_end (Nat.le_of_ble_eq_true rfl) rfl ?_
  refine jx_of (fun _ _ kz => jw_iconst 1 d_M_end_0 (by decide) kz) ?_
  refine jx_of (fun _ _ kz => jw_istore_n 3 d_M_end_1 rfl (Nat.le_of_ble_eq_true rfl) kz) ?_
  dsimp only [List.set]
  refine jx_of (fun _ _ kz => jw_iload_n 2 d_M_end_2 rfl rfl kz) ?_
  refine jx_of (fun _ _ kz => jw_istore d_M_end_3 (Nat.le_of_ble_eq_true rfl) kz) ?_
  dsimp only [List.set]
  exact z_M_end_loop d t n p len o hm ht hp hpp h1 hn _ _ (len - n) n 1 (by omega) (Nat.le_refl _) (by omega)
