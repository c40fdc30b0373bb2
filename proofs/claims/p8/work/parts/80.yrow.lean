/-- a Row is whole: its array is its own, its size within it -/
def rO (M : Me) (i : Nat) : Prop := me_P M 4 i 0 = some (10, i) ∧ me_L M 10 i ≤ 144 ∧ ∃ n, n ≤ me_L M 10 i ∧ me_I M 4 i 1 = nI n
/-- only Row i is changed -/
def rc (i : Nat) (M M' : Me) : Prop := sq M M' ∧ ∀ s j k, ¬ (s = 10 ∧ j = i) → ¬ (s = 4 ∧ j = i ∧ k = 1) → me_I M' s j k = me_I M s j k
theorem rc_rf {i : Nat} {M : Me} : rc i M M := ⟨sq_rf, fun _ _ _ _ _ => rfl⟩
theorem rc_tr {i : Nat} {M M1 M2 : Me} (h : rc i M M1) (h2 : rc i M1 M2) : rc i M M2 := ⟨sq_tr h.1 h2.1, fun s j k a b => (h2.2 s j k a b).trans (h.2 s j k a b)⟩
theorem rc_a {i k : Nat} {v : Int32} {M M1 : Me} (h : rc i M M1) : rc i M (me_sI M1 10 i k v) := ⟨sq_sI h.1, fun s j k' a b => by rw [me_I_sI, if_neg (fun e => a ⟨e.1, e.2.1⟩)]; exact h.2 s j k' a b⟩
theorem rc_n {i : Nat} {v : Int32} {M M1 : Me} (h : rc i M M1) : rc i M (me_sI M1 4 i 1 v) := ⟨sq_sI h.1, fun s j k' a b => by rw [me_I_sI, if_neg b]; exact h.2 s j k' a b⟩
theorem rO_a {i k : Nat} {v : Int32} {M : Me} (h : rO M i) : rO (me_sI M 10 i k v) i := h
theorem rO_n {i n : Nat} {M : Me} (h : rO M i) (hn : n ≤ me_L M 10 i) : rO (me_sI M 4 i 1 (nI n)) i := ⟨h.1, h.2.1, n, hn, by simp [me_I_sI]⟩
theorem rO_rc {i j : Nat} {M M' : Me} (h : rO M j) (k : rc i M M') (hi : rO M' i) : rO M' j := by
  by_cases e : j = i
  · rw [e]; exact hi
  · refine ⟨by rw [k.1.1]; exact h.1, by rw [k.1.2.1]; exact h.2.1, ?_⟩
    obtain ⟨n, a, b⟩ := h.2.2
    exact ⟨n, by rw [k.1.2.1]; exact a, by rw [k.2 4 j 1 (by omega) (by omega)]; exact b⟩
theorem len_nI {n : Nat} (h : n ≤ 144) : n < 2 ^ 31 := by omega
set_option maxRecDepth 20000 in
set_option maxHeartbeats 4000000 in
theorem y_R_isEmpty {G : Gt} {M : Me} (d : Nat) (i : Nat) (hR : rO M i) : sx G yt_R_isEmpty yn_R_isEmpty (d + 1) [.inr (some (4, i))] M (fun r M' => (r = some (.inl 0) ∨ r = some (.inl 1)) ∧ M = M') := by
  refine sx_of (k := 0) (lc := [some (.inr (some (4, i)))]) mt_R_isEmpty (Nat.le_of_ble_eq_true rfl) rfl ?_
  obtain ⟨n, hn, hs⟩ := hR.2.2
  have h144 := hR.2.1
  refine jx_of (fun _ _ kz => jw_aload_n 0 d_R_isEmpty_0 rfl rfl kz) ?_
  refine jx_of (fun _ _ kz => jw_getIe (nI n) fl_R_9 d_R_isEmpty_1 rfl rfl hs kz) ?_
  refine jx_if_ne 11 d_R_isEmpty_4 (by decide) (fun b_4 => ?_) (fun b_4 => ?_)
  · skip
    refine jx_of (fun _ _ kz => jw_iconst 0 d_R_isEmpty_11 (by decide) kz) ?_
    refine jx_zret d_R_isEmpty_12 rfl (by decide) ?_
    exact ⟨by first | exact Or.inl rfl | exact Or.inr rfl, rfl⟩
  · skip
    refine jx_of (fun _ _ kz => jw_iconst 1 d_R_isEmpty_7 (by decide) kz) ?_
    refine jx_of (fun _ _ kz => jw_goto 12 d_R_isEmpty_8 (by decide) kz) ?_
    refine jx_zret d_R_isEmpty_12 rfl (by decide) ?_
    exact ⟨by first | exact Or.inl rfl | exact Or.inr rfl, rfl⟩
set_option maxRecDepth 20000 in
set_option maxHeartbeats 4000000 in
theorem y_R_at {G : Gt} {M : Me} (d : Nat) (i : Nat) (x : Int32) (hR : rO M i) : sx G yt_R_at yn_R_at (d + 1) [.inr (some (4, i)), .inl x] M (fun r M' => (∃ v : Int32, r = some (.inl v)) ∧ M = M') := by
  refine sx_of (k := 0) (lc := [some (.inr (some (4, i))), some (.inl x)]) mt_R_at (Nat.le_of_ble_eq_true rfl) rfl ?_
  obtain ⟨n, hn, hs⟩ := hR.2.2
  have h144 := hR.2.1
  refine jx_of (fun _ _ kz => jw_iload_n 1 d_R_at_0 rfl rfl kz) ?_
  refine jx_if_lt 12 d_R_at_1 (by decide) (fun b_1 => ?_) (fun b_1 => ?_)
  · skip
    refine jx_of (fun _ _ kz => jw_iconst (-1) d_R_at_12 (by decide) kz) ?_
    refine jx_of (fun _ _ kz => jw_goto 22 d_R_at_13 (by decide) kz) ?_
    refine jx_iret d_R_at_22 rfl ?_
    exact ⟨⟨_, rfl⟩, rfl⟩
  · skip
    refine jx_of (fun _ _ kz => jw_iload_n 1 d_R_at_4 rfl rfl kz) ?_
    refine jx_of (fun _ _ kz => jw_aload_n 0 d_R_at_5 rfl rfl kz) ?_
    refine jx_of (fun _ _ kz => jw_getIe (nI n) fl_R_9 d_R_at_6 rfl rfl hs kz) ?_
    refine jx_icmp_lt 16 d_R_at_9 (by decide) (fun b_9 => ?_) (fun b_9 => ?_)
    · skip
      obtain ⟨j, hj, rfl⟩ := nI_of b_1
      have hjn : j < n := (nI_ltI hj (by omega)).mp b_9
      refine jx_of (fun _ _ kz => jw_aload_n 0 d_R_at_16 rfl rfl kz) ?_
      refine jx_of (fun _ _ kz => jw_getPe (some (10, i)) fl_R_21 d_R_at_17 rfl rfl (by simp [me_I_sI, me_I_sP, me_I_nx, me_P_sI, me_P_sP, me_P_nx, me_N_sI, me_N_sP, me_N_nx, me_L_sI, me_L_sP, me_L_nx, show me_P M 4 i 0 = some (10, i) from hR.1]) kz) ?_
      refine jx_of (fun _ _ kz => jw_iload_n 1 d_R_at_20 rfl rfl kz) ?_
      refine jx_of (fun _ _ kz => jw_ialde (_) d_R_at_21 rfl rfl (by rw [show me_L _ 10 i = (me_L M 10 i) from (by simp [me_I_sI, me_I_sP, me_I_nx, me_P_sI, me_P_sP, me_P_nx, me_N_sI, me_N_sP, me_N_nx, me_L_sI, me_L_sP, me_L_nx, show me_L M 10 i = me_L M 10 i from rfl])]; exact (vp_in_nI (by omega) (by omega))) rfl kz) ?_
      refine jx_iret d_R_at_22 rfl ?_
      exact ⟨⟨_, rfl⟩, rfl⟩
    · skip
      refine jx_of (fun _ _ kz => jw_iconst (-1) d_R_at_12 (by decide) kz) ?_
      refine jx_of (fun _ _ kz => jw_goto 22 d_R_at_13 (by decide) kz) ?_
      refine jx_iret d_R_at_22 rfl ?_
      exact ⟨⟨_, rfl⟩, rfl⟩
set_option maxRecDepth 20000 in
set_option maxHeartbeats 4000000 in
theorem y_R_add {G : Gt} {M : Me} (d : Nat) (i : Nat) (x : Int32) (hR : rO M i) : sx G yt_R_add yn_R_add (d + 1) [.inr (some (4, i)), .inl x] M (fun r M' => r = none ∧ rO M' i ∧ rc i M M') := by
  refine sx_of (k := 0) (lc := [some (.inr (some (4, i))), some (.inl x)]) mt_R_add (Nat.le_of_ble_eq_true rfl) rfl ?_
  obtain ⟨n, hn, hs⟩ := hR.2.2
  have h144 := hR.2.1
  refine jx_of (fun _ _ kz => jw_aload_n 0 d_R_add_0 rfl rfl kz) ?_
  refine jx_of (fun _ _ kz => jw_getIe (nI n) fl_R_9 d_R_add_1 rfl rfl hs kz) ?_
  refine jx_of (fun _ _ kz => jw_aload_n 0 d_R_add_4 rfl rfl kz) ?_
  refine jx_of (fun _ _ kz => jw_getPe (some (10, i)) fl_R_21 d_R_add_5 rfl rfl (by simp [me_I_sI, me_I_sP, me_I_nx, me_P_sI, me_P_sP, me_P_nx, me_N_sI, me_N_sP, me_N_nx, me_L_sI, me_L_sP, me_L_nx, show me_P M 4 i 0 = some (10, i) from hR.1]) kz) ?_
  refine jx_of (fun _ _ kz => jw_alen (nI (me_L M 10 i)) d_R_add_8 rfl rfl rfl kz) ?_
  refine jx_icmp_ge 32 d_R_add_9 (by decide) (fun b_9 => ?_) (fun b_9 => ?_)
  · skip
    refine jx_vret d_R_add_32 rfl ?_
    first | exact ⟨rfl, hR, rc_rf⟩ | exact ⟨rfl, rO_n (rO_a hR) hlt, rc_n (rc_a rc_rf)⟩
  · skip
    have hlt : n < me_L M 10 i := Nat.lt_of_not_le (fun q => b_9 (nI_le q (by omega)))
    refine jx_of (fun _ _ kz => jw_aload_n 0 d_R_add_12 rfl rfl kz) ?_
    refine jx_of (fun _ _ kz => jw_getPe (some (10, i)) fl_R_21 d_R_add_13 rfl rfl (by simp [me_I_sI, me_I_sP, me_I_nx, me_P_sI, me_P_sP, me_P_nx, me_N_sI, me_N_sP, me_N_nx, me_L_sI, me_L_sP, me_L_nx, show me_P M 4 i 0 = some (10, i) from hR.1]) kz) ?_
    refine jx_of (fun _ _ kz => jw_aload_n 0 d_R_add_16 rfl rfl kz) ?_
    refine jx_of (fun _ _ kz => jw_getIe (nI n) fl_R_9 d_R_add_17 rfl rfl hs kz) ?_
    refine jx_of (fun _ _ kz => jw_iload_n 1 d_R_add_20 rfl rfl kz) ?_
    refine jx_of (fun _ _ kz => jw_iast d_R_add_21 rfl rfl (by rw [show me_L _ 10 i = (me_L M 10 i) from (by simp [me_I_sI, me_I_sP, me_I_nx, me_P_sI, me_P_sP, me_P_nx, me_N_sI, me_N_sP, me_N_nx, me_L_sI, me_L_sP, me_L_nx, show me_L M 10 i = me_L M 10 i from rfl])]; exact (vp_in_nI (by omega) (by omega))) kz) ?_
    rw [nI_clamp (by omega)]
    refine jx_of (fun _ _ kz => jw_aload_n 0 d_R_add_22 rfl rfl kz) ?_
    refine jx_of (fun _ _ kz => jw_dup d_R_add_23 kz) ?_
    refine jx_of (fun _ _ kz => jw_getIe (nI n) fl_R_9 d_R_add_24 rfl rfl ((by rw [me_I_sI, if_neg (by omega)]; exact hs)) kz) ?_
    refine jx_of (fun _ _ kz => jw_iconst 1 d_R_add_27 (by decide) kz) ?_
    refine jx_of (fun _ _ kz => jw_iadd d_R_add_28 kz) ?_
    rw [show ((nI n) + 1 : Int32) = nI (n + 1) from nI_1 _]
    refine jx_of (fun _ _ kz => jw_putI fl_R_9 (Or.inl rfl) rfl rfl d_R_add_29 rfl rfl kz) ?_
    refine jx_vret d_R_add_32 rfl ?_
    first | exact ⟨rfl, hR, rc_rf⟩ | exact ⟨rfl, rO_n (rO_a hR) hlt, rc_n (rc_a rc_rf)⟩
set_option maxRecDepth 20000 in
set_option maxHeartbeats 4000000 in
theorem y_R_indexOf_l {G : Gt} {M : Me} (d i n : Nat) (x : Int32) (hR : rO M i) (hn : n ≤ me_L M 10 i) (hs : me_I M 4 i 1 = nI n) (c0 s0 : Nat) : ∀ (m k : Nat), k + m = n → jx G yt_R_indexOf (d + 1) c0 s0 M 2 [some (.inr (some (4, i))), some (.inl x), some (.inl (nI k))] [] (fun r M' => (∃ v : Int32, r = some (.inl v)) ∧ M = M') := by
  have h144 := hR.2.1
  intro m
  induction m with
  | zero =>
    intro k hk
    refine jx_of (fun _ _ kz => jw_iload_n 2 d_R_indexOf_2 rfl rfl kz) ?_
    refine jx_of (fun _ _ kz => jw_aload_n 0 d_R_indexOf_3 rfl rfl kz) ?_
    refine jx_of (fun _ _ kz => jw_getIe (nI n) fl_R_9 d_R_indexOf_4 rfl rfl hs kz) ?_
    refine jx_icmp_ge 28 d_R_indexOf_7 (by decide) (fun _ => ?_) (fun h => absurd (nI_le (by omega) (by omega)) h)
    refine jx_of (fun _ _ kz => jw_iconst (-1) d_R_indexOf_28 (by decide) kz) ?_
    refine jx_iret d_R_indexOf_29 rfl ?_
    exact ⟨⟨_, rfl⟩, rfl⟩
  | succ m ih =>
    intro k hk
    refine jx_of (fun _ _ kz => jw_iload_n 2 d_R_indexOf_2 rfl rfl kz) ?_
    refine jx_of (fun _ _ kz => jw_aload_n 0 d_R_indexOf_3 rfl rfl kz) ?_
    refine jx_of (fun _ _ kz => jw_getIe (nI n) fl_R_9 d_R_indexOf_4 rfl rfl hs kz) ?_
    refine jx_icmp_ge 28 d_R_indexOf_7 (by decide) (fun h => absurd h (nI_ge (by omega) (by omega))) (fun _ => ?_)
    refine jx_of (fun _ _ kz => jw_aload_n 0 d_R_indexOf_10 rfl rfl kz) ?_
    refine jx_of (fun _ _ kz => jw_getPe (some (10, i)) fl_R_21 d_R_indexOf_11 rfl rfl (by simp [me_I_sI, me_I_sP, me_I_nx, me_P_sI, me_P_sP, me_P_nx, me_N_sI, me_N_sP, me_N_nx, me_L_sI, me_L_sP, me_L_nx, show me_P M 4 i 0 = some (10, i) from hR.1]) kz) ?_
    refine jx_of (fun _ _ kz => jw_iload_n 2 d_R_indexOf_14 rfl rfl kz) ?_
    refine jx_of (fun _ _ kz => jw_ialde (_) d_R_indexOf_15 rfl rfl (by rw [show me_L _ 10 i = (me_L M 10 i) from (by simp [me_I_sI, me_I_sP, me_I_nx, me_P_sI, me_P_sP, me_P_nx, me_N_sI, me_N_sP, me_N_nx, me_L_sI, me_L_sP, me_L_nx, show me_L M 10 i = me_L M 10 i from rfl])]; exact (vp_in_nI (by omega) (by omega))) rfl kz) ?_
    refine jx_of (fun _ _ kz => jw_iload_n 1 d_R_indexOf_16 rfl rfl kz) ?_
    refine jx_icmp_ne 22 d_R_indexOf_17 (by decide) (fun b_17 => ?_) (fun b_17 => ?_)
    · skip
      refine jx_of (fun _ _ kz => jw_iincc 1 d_R_indexOf_22 (by decide) rfl (Nat.le_of_ble_eq_true rfl) kz) ?_
      dsimp only [List.set]
      refine jx_of (fun _ _ kz => jw_goto 2 d_R_indexOf_25 (by decide) kz) ?_
      rw [nI_1]
      exact ih (k + 1) (by omega)
    · skip
      refine jx_of (fun _ _ kz => jw_iload_n 2 d_R_indexOf_20 rfl rfl kz) ?_
      refine jx_iret d_R_indexOf_21 rfl ?_
      exact ⟨⟨_, rfl⟩, rfl⟩
set_option maxRecDepth 20000 in
set_option maxHeartbeats 4000000 in
theorem y_R_indexOf {G : Gt} {M : Me} (d : Nat) (i : Nat) (x : Int32) (hR : rO M i) : sx G yt_R_indexOf yn_R_indexOf (d + 1) [.inr (some (4, i)), .inl x] M (fun r M' => (∃ v : Int32, r = some (.inl v)) ∧ M = M') := by
  refine sx_of (k := 1) (lc := [some (.inr (some (4, i))), some (.inl x), none]) mt_R_indexOf (Nat.le_of_ble_eq_true rfl) rfl ?_
  obtain ⟨n, hn, hs⟩ := hR.2.2
  have h144 := hR.2.1
  refine jx_of (fun _ _ kz => jw_iconst 0 d_R_indexOf_0 (by decide) kz) ?_
  refine jx_of (fun _ _ kz => jw_istore_n 2 d_R_indexOf_1 rfl (Nat.le_of_ble_eq_true rfl) kz) ?_
  dsimp only [List.set]
  exact y_R_indexOf_l d i n x hR hn hs _ _ n 0 (by omega)
set_option maxRecDepth 20000 in
set_option maxHeartbeats 4000000 in
theorem y_R_holds {G : Gt} {M : Me} (d : Nat) (i : Nat) (x : Int32) (hR : rO M i) : sx G yt_R_holds yn_R_holds (d + 2) [.inr (some (4, i)), .inl x] M (fun r M' => (r = some (.inl 0) ∨ r = some (.inl 1)) ∧ M = M') := by
  refine sx_of (k := 0) (lc := [some (.inr (some (4, i))), some (.inl x)]) mt_R_holds (Nat.le_of_ble_eq_true rfl) rfl ?_
  refine jx_of (fun _ _ kz => jw_aload_n 0 d_R_holds_0 rfl rfl kz) ?_
  refine jx_of (fun _ _ kz => jw_iload_n 1 d_R_holds_1 rfl rfl kz) ?_
  refine jx_callV (y_R_indexOf d i x hR) mt_R_indexOf cf_R rfl rfl ml_R_25 im_R_indexOf se_R_indexOf d_R_holds_2 rfl rfl (Nat.le_of_ble_eq_true rfl) ?_
  rintro _ _ ⟨⟨v, rfl⟩, rfl⟩
  refine jx_eq (st2 := [.inl v]) rfl rfl rfl ?_
  refine jx_of (fun _ _ kz => jw_iconst (-1) d_R_holds_5 (by decide) kz) ?_
  refine jx_icmp_eq 13 d_R_holds_6 (by decide) (fun b_6 => ?_) (fun b_6 => ?_)
  · skip
    refine jx_of (fun _ _ kz => jw_iconst 0 d_R_holds_13 (by decide) kz) ?_
    refine jx_zret d_R_holds_14 rfl (by decide) ?_
    exact ⟨by first | exact Or.inl rfl | exact Or.inr rfl, rfl⟩
  · skip
    refine jx_of (fun _ _ kz => jw_iconst 1 d_R_holds_9 (by decide) kz) ?_
    refine jx_of (fun _ _ kz => jw_goto 14 d_R_holds_10 (by decide) kz) ?_
    refine jx_zret d_R_holds_14 rfl (by decide) ?_
    exact ⟨by first | exact Or.inl rfl | exact Or.inr rfl, rfl⟩
set_option maxRecDepth 20000 in
set_option maxHeartbeats 4000000 in
theorem y_R_removeAt_l {G : Gt} {M : Me} (d i n : Nat) (x : Int32) (c0 s0 : Nat) : ∀ (m k : Nat) (M1 : Me), k + m = n → rO M1 i → me_I M1 4 i 1 = nI n → rc i M M1 → n < me_L M1 10 i → jx G yt_R_removeAt (d + 1) c0 s0 M1 25 [some (.inr (some (4, i))), some (.inl x), some (.inl (nI k))] [] (fun r M' => r = none ∧ rO M' i ∧ rc i M M') := by
  intro m
  induction m with
  | zero =>
    intro k M1 hk hR1 hs hc hn
    have h144 := hR1.2.1
    refine jx_of (fun _ _ kz => jw_iload_n 2 d_R_removeAt_25 rfl rfl kz) ?_
    refine jx_of (fun _ _ kz => jw_aload_n 0 d_R_removeAt_26 rfl rfl kz) ?_
    refine jx_of (fun _ _ kz => jw_getIe (nI n) fl_R_9 d_R_removeAt_27 rfl rfl hs kz) ?_
    refine jx_icmp_ge 53 d_R_removeAt_30 (by decide) (fun _ => ?_) (fun h => absurd (nI_le (by omega) (by omega)) h)
    refine jx_vret d_R_removeAt_53 rfl ?_
    exact ⟨rfl, hR1, hc⟩
  | succ m ih =>
    intro k M1 hk hR1 hs hc hn
    have h144 := hR1.2.1
    refine jx_of (fun _ _ kz => jw_iload_n 2 d_R_removeAt_25 rfl rfl kz) ?_
    refine jx_of (fun _ _ kz => jw_aload_n 0 d_R_removeAt_26 rfl rfl kz) ?_
    refine jx_of (fun _ _ kz => jw_getIe (nI n) fl_R_9 d_R_removeAt_27 rfl rfl hs kz) ?_
    refine jx_icmp_ge 53 d_R_removeAt_30 (by decide) (fun h => absurd h (nI_ge (by omega) (by omega))) (fun _ => ?_)
    refine jx_of (fun _ _ kz => jw_aload_n 0 d_R_removeAt_33 rfl rfl kz) ?_
    refine jx_of (fun _ _ kz => jw_getPe (some (10, i)) fl_R_21 d_R_removeAt_34 rfl rfl (by simp [me_I_sI, me_I_sP, me_I_nx, me_P_sI, me_P_sP, me_P_nx, me_N_sI, me_N_sP, me_N_nx, me_L_sI, me_L_sP, me_L_nx, show me_P M1 4 i 0 = some (10, i) from hR1.1]) kz) ?_
    refine jx_of (fun _ _ kz => jw_iload_n 2 d_R_removeAt_37 rfl rfl kz) ?_
    refine jx_of (fun _ _ kz => jw_aload_n 0 d_R_removeAt_38 rfl rfl kz) ?_
    refine jx_of (fun _ _ kz => jw_getPe (some (10, i)) fl_R_21 d_R_removeAt_39 rfl rfl (by simp [me_I_sI, me_I_sP, me_I_nx, me_P_sI, me_P_sP, me_P_nx, me_N_sI, me_N_sP, me_N_nx, me_L_sI, me_L_sP, me_L_nx, show me_P M1 4 i 0 = some (10, i) from hR1.1]) kz) ?_
    refine jx_of (fun _ _ kz => jw_iload_n 2 d_R_removeAt_42 rfl rfl kz) ?_
    refine jx_of (fun _ _ kz => jw_iconst 1 d_R_removeAt_43 (by decide) kz) ?_
    refine jx_of (fun _ _ kz => jw_iadd d_R_removeAt_44 kz) ?_
    rw [show ((nI k) + 1 : Int32) = nI (k + 1) from nI_1 _]
    refine jx_of (fun _ _ kz => jw_ialde (me_I M1 10 i (k + 1)) d_R_removeAt_45 rfl rfl (by rw [show me_L _ 10 i = (me_L M1 10 i) from (by simp [me_I_sI, me_I_sP, me_I_nx, me_P_sI, me_P_sP, me_P_nx, me_N_sI, me_N_sP, me_N_nx, me_L_sI, me_L_sP, me_L_nx, show me_L M1 10 i = me_L M1 10 i from rfl])]; exact (vp_in_nI (by omega) (by omega))) (by rw [nI_clamp (by omega)]) kz) ?_
    refine jx_of (fun _ _ kz => jw_iast d_R_removeAt_46 rfl rfl (by rw [show me_L _ 10 i = (me_L M1 10 i) from (by simp [me_I_sI, me_I_sP, me_I_nx, me_P_sI, me_P_sP, me_P_nx, me_N_sI, me_N_sP, me_N_nx, me_L_sI, me_L_sP, me_L_nx, show me_L M1 10 i = me_L M1 10 i from rfl])]; exact (vp_in_nI (by omega) (by omega))) kz) ?_
    rw [nI_clamp (by omega)]
    refine jx_of (fun _ _ kz => jw_iincc 1 d_R_removeAt_47 (by decide) rfl (Nat.le_of_ble_eq_true rfl) kz) ?_
    dsimp only [List.set]
    refine jx_of (fun _ _ kz => jw_goto 25 d_R_removeAt_50 (by decide) kz) ?_
    rw [nI_1]
    exact ih (k + 1) _ (by omega) (rO_a hR1) (by rw [me_I_sI, if_neg (by omega)]; exact hs) (rc_a hc) hn
set_option maxRecDepth 20000 in
set_option maxHeartbeats 4000000 in
theorem y_R_removeAt {G : Gt} {M : Me} (d : Nat) (i : Nat) (x : Int32) (hR : rO M i) : sx G yt_R_removeAt yn_R_removeAt (d + 1) [.inr (some (4, i)), .inl x] M (fun r M' => r = none ∧ rO M' i ∧ rc i M M') := by
  refine sx_of (k := 1) (lc := [some (.inr (some (4, i))), some (.inl x), none]) mt_R_removeAt (Nat.le_of_ble_eq_true rfl) rfl ?_
  obtain ⟨n, hn, hs⟩ := hR.2.2
  have h144 := hR.2.1
  refine jx_of (fun _ _ kz => jw_iload_n 1 d_R_removeAt_0 rfl rfl kz) ?_
  refine jx_if_lt 12 d_R_removeAt_1 (by decide) (fun b_1 => ?_) (fun b_1 => ?_)
  · skip
    refine jx_vret d_R_removeAt_12 rfl ?_
    exact ⟨rfl, hR, rc_rf⟩
  · skip
    refine jx_of (fun _ _ kz => jw_iload_n 1 d_R_removeAt_4 rfl rfl kz) ?_
    refine jx_of (fun _ _ kz => jw_aload_n 0 d_R_removeAt_5 rfl rfl kz) ?_
    refine jx_of (fun _ _ kz => jw_getIe (nI n) fl_R_9 d_R_removeAt_6 rfl rfl hs kz) ?_
    refine jx_icmp_lt 13 d_R_removeAt_9 (by decide) (fun b_9 => ?_) (fun b_9 => ?_)
    · skip
      obtain ⟨j, hj, rfl⟩ := nI_of b_1
      have hjn : j < n := (nI_ltI hj (by omega)).mp b_9
      refine jx_of (fun _ _ kz => jw_aload_n 0 d_R_removeAt_13 rfl rfl kz) ?_
      refine jx_of (fun _ _ kz => jw_dup d_R_removeAt_14 kz) ?_
      refine jx_of (fun _ _ kz => jw_getIe (nI n) fl_R_9 d_R_removeAt_15 rfl rfl hs kz) ?_
      refine jx_of (fun _ _ kz => jw_iconst 1 d_R_removeAt_18 (by decide) kz) ?_
      refine jx_of (fun _ _ kz => jw_isub d_R_removeAt_19 kz) ?_
      rw [show ((nI n) - 1 : Int32) = nI (n - 1) from nI_p1 (by omega)]
      refine jx_of (fun _ _ kz => jw_putI fl_R_9 (Or.inl rfl) rfl rfl d_R_removeAt_20 rfl rfl kz) ?_
      refine jx_of (fun _ _ kz => jw_iload_n 1 d_R_removeAt_23 rfl rfl kz) ?_
      refine jx_of (fun _ _ kz => jw_istore_n 2 d_R_removeAt_24 rfl (Nat.le_of_ble_eq_true rfl) kz) ?_
      dsimp only [List.set]
      exact y_R_removeAt_l d i (n - 1) (nI j) _ _ (n - 1 - j) j _ (by omega) (rO_n hR (by omega)) (by simp [me_I_sI]) (rc_n rc_rf) (by show n - 1 < me_L M 10 i; omega)
    · skip
      refine jx_vret d_R_removeAt_12 rfl ?_
      exact ⟨rfl, hR, rc_rf⟩
set_option maxRecDepth 20000 in
set_option maxHeartbeats 4000000 in
theorem y_R_remove {G : Gt} {M : Me} (d : Nat) (i : Nat) (x : Int32) (hR : rO M i) : sx G yt_R_remove yn_R_remove (d + 2) [.inr (some (4, i)), .inl x] M (fun r M' => r = none ∧ rO M' i ∧ rc i M M') := by
  refine sx_of (k := 0) (lc := [some (.inr (some (4, i))), some (.inl x)]) mt_R_remove (Nat.le_of_ble_eq_true rfl) rfl ?_
  refine jx_of (fun _ _ kz => jw_aload_n 0 d_R_remove_0 rfl rfl kz) ?_
  refine jx_of (fun _ _ kz => jw_aload_n 0 d_R_remove_1 rfl rfl kz) ?_
  refine jx_of (fun _ _ kz => jw_iload_n 1 d_R_remove_2 rfl rfl kz) ?_
  refine jx_callV (y_R_indexOf d i x hR) mt_R_indexOf cf_R rfl rfl ml_R_25 im_R_indexOf se_R_indexOf d_R_remove_3 rfl rfl (Nat.le_of_ble_eq_true rfl) ?_
  rintro _ _ ⟨⟨v, rfl⟩, rfl⟩
  refine jx_eq (st2 := [.inl v, .inr (some (4, i))]) rfl rfl rfl ?_
  refine jx_callV (y_R_removeAt d i v hR) mt_R_removeAt cf_R rfl rfl ml_R_29 im_R_removeAt se_R_removeAt d_R_remove_6 rfl rfl (Nat.le_of_ble_eq_true rfl) ?_
  rintro _ M1 ⟨rfl, r1, c1⟩
  refine jx_eq (st2 := []) rfl rfl rfl ?_
  refine jx_vret d_R_remove_9 rfl ?_
  exact ⟨rfl, r1, c1⟩
set_option maxRecDepth 20000 in
set_option maxHeartbeats 4000000 in
theorem y_R_takeFirst {G : Gt} {M : Me} (d : Nat) (i : Nat) (hR : rO M i) : sx G yt_R_takeFirst yn_R_takeFirst (d + 2) [.inr (some (4, i))] M (fun r M' => (∃ v : Int32, r = some (.inl v)) ∧ rO M' i ∧ rc i M M') := by
  refine sx_of (k := 1) (lc := [some (.inr (some (4, i))), none]) mt_R_takeFirst (Nat.le_of_ble_eq_true rfl) rfl ?_
  refine jx_of (fun _ _ kz => jw_aload_n 0 d_R_takeFirst_0 rfl rfl kz) ?_
  refine jx_of (fun _ _ kz => jw_iconst 0 d_R_takeFirst_1 (by decide) kz) ?_
  refine jx_callV (y_R_at d i 0 hR) mt_R_at cf_R rfl rfl ml_R_33 im_R_at se_R_at d_R_takeFirst_2 rfl rfl (Nat.le_of_ble_eq_true rfl) ?_
  rintro _ _ ⟨⟨v, rfl⟩, rfl⟩
  refine jx_eq (st2 := [.inl v]) rfl rfl rfl ?_
  refine jx_of (fun _ _ kz => jw_istore_n 1 d_R_takeFirst_5 rfl (Nat.le_of_ble_eq_true rfl) kz) ?_
  dsimp only [List.set]
  refine jx_of (fun _ _ kz => jw_aload_n 0 d_R_takeFirst_6 rfl rfl kz) ?_
  refine jx_of (fun _ _ kz => jw_iconst 0 d_R_takeFirst_7 (by decide) kz) ?_
  refine jx_callV (y_R_removeAt d i 0 hR) mt_R_removeAt cf_R rfl rfl ml_R_29 im_R_removeAt se_R_removeAt d_R_takeFirst_8 rfl rfl (Nat.le_of_ble_eq_true rfl) ?_
  rintro _ M1 ⟨rfl, r1, c1⟩
  refine jx_eq (st2 := []) rfl rfl rfl ?_
  refine jx_of (fun _ _ kz => jw_iload_n 1 d_R_takeFirst_11 rfl rfl kz) ?_
  refine jx_iret d_R_takeFirst_12 rfl ?_
  exact ⟨⟨_, rfl⟩, r1, c1⟩
