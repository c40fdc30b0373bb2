set_option maxRecDepth 20000 in
set_option maxHeartbeats 4000000 in
theorem y_Y_wakeReapers_l {G : Gt} {M : Me} (d np nt : Nat) (x : Int32) (hnt : nt ≤ 12) (c0 s0 : Nat) : ∀ (m k : Nat) (M1 : Me) (o9 : Option AV), k + m = nt → yI M1 np nt → yk M M1 → jx G yt_Y_wakeReapers (d + 4) c0 s0 M1 2 [some (.inr (some (0, 0))), some (.inl x), some (.inl (nI k)), o9] [] (fun r M' => r = none ∧ yI M' np nt ∧ yk M M') := by
  intro m
  induction m with
  | zero =>
    intro k M1 o9 hk h1 k1
    refine jx_of (fun _ _ kz => jw_iload_n 2 d_Y_wakeReapers_2 rfl rfl kz) ?_
    refine jx_of (fun _ _ kz => jw_aload_n 0 d_Y_wakeReapers_3 rfl rfl kz) ?_
    refine jx_of (fun _ _ kz => jw_getIe (nI nt) fl_Y_30 d_Y_wakeReapers_4 rfl rfl h1.2.2.2.1 kz) ?_
    refine jx_icmp_ge 39 d_Y_wakeReapers_7 (by decide) (fun _ => ?_) (fun h => absurd (nI_le (by omega) (by omega)) h)
    refine jx_vret d_Y_wakeReapers_39 rfl ?_
    exact ⟨rfl, h1, k1⟩
  | succ m ih =>
    intro k M1 o9 hk h1 k1
    refine jx_of (fun _ _ kz => jw_iload_n 2 d_Y_wakeReapers_2 rfl rfl kz) ?_
    refine jx_of (fun _ _ kz => jw_aload_n 0 d_Y_wakeReapers_3 rfl rfl kz) ?_
    refine jx_of (fun _ _ kz => jw_getIe (nI nt) fl_Y_30 d_Y_wakeReapers_4 rfl rfl h1.2.2.2.1 kz) ?_
    refine jx_icmp_ge 39 d_Y_wakeReapers_7 (by decide) (fun h => absurd h (nI_ge (by omega) (by omega))) (fun _ => ?_)
    refine jx_of (fun _ _ kz => jw_aload_n 0 d_Y_wakeReapers_10 rfl rfl kz) ?_
    refine jx_of (fun _ _ kz => jw_iload_n 2 d_Y_wakeReapers_11 rfl rfl kz) ?_
    refine jx_callV (y_Y_taskAt (d + 2) ((nI k)) np nt h1) mt_Y_taskAt cf_Y rfl rfl ml_Y_113 im_Y_taskAt se_Y_taskAt d_Y_wakeReapers_12 rfl rfl (Nat.le_of_ble_eq_true rfl) ?_
    rintro r _ ⟨hr, rfl⟩
    rcases hr with rfl | ⟨t9, ht9, ex9, rfl⟩
    · skip
      refine jx_eq (st2 := [.inr none]) rfl rfl rfl ?_
      refine jx_of (fun _ _ kz => jw_astore_n 3 d_Y_wakeReapers_15 rfl (Nat.le_of_ble_eq_true rfl) kz) ?_
      dsimp only [List.set]
      refine jx_of (fun _ _ kz => jw_aload_n 3 d_Y_wakeReapers_16 rfl rfl kz) ?_
      refine jx_ifnull 33 d_Y_wakeReapers_17 (by decide) (fun _ => ?_) (fun _ h => by cases h)
      refine jx_of (fun _ _ kz => jw_iincc 1 d_Y_wakeReapers_33 (by decide) rfl (Nat.le_of_ble_eq_true rfl) kz) ?_
      dsimp only [List.set]
      refine jx_of (fun _ _ kz => jw_goto 2 d_Y_wakeReapers_36 (by decide) kz) ?_
      rw [nI_1]
      first | exact ih (k + 1) M2 _ (by omega) h2 (yk_tr k1 k2) | exact ih (k + 1) M1 _ (by omega) h1 k1
    · skip
      obtain ⟨p9, n9, o9x, hp9, hT9⟩ := (h1.2.2.2.2 t9 ht9).2
      refine jx_eq (st2 := [.inr (some (2, t9))]) rfl rfl rfl ?_
      refine jx_of (fun _ _ kz => jw_astore_n 3 d_Y_wakeReapers_15 rfl (Nat.le_of_ble_eq_true rfl) kz) ?_
      dsimp only [List.set]
      refine jx_of (fun _ _ kz => jw_aload_n 3 d_Y_wakeReapers_16 rfl rfl kz) ?_
      refine jx_ifnull 33 d_Y_wakeReapers_17 (by decide) (fun h => by cases h) (fun _ _ => ?_)
      refine jx_of (fun _ _ kz => jw_aload_n 3 d_Y_wakeReapers_20 rfl rfl kz) ?_
      refine jx_of (fun _ _ kz => jw_iload_n 1 d_Y_wakeReapers_21 rfl rfl kz) ?_
      refine jx_callV (y_T_reaps d t9 p9 n9 o9x x hT9) mt_T_reaps cf_T rfl rfl ml_Y_217 im_T_reaps se_T_reaps d_Y_wakeReapers_22 rfl rfl (Nat.le_of_ble_eq_true rfl) ?_
      rintro r _ ⟨hr, rfl⟩
      obtain ⟨rv, rfl⟩ : ∃ v : Int32, r = some (.inl v) := by rcases hr with hr | hr; exact ⟨_, hr⟩; exact ⟨_, hr⟩
      refine jx_eq (st2 := [.inl rv]) rfl rfl rfl ?_
      refine jx_if_eq 33 d_Y_wakeReapers_25 (by decide) (fun b_25 => ?_) (fun b_25 => ?_)
      · skip
        refine jx_of (fun _ _ kz => jw_iincc 1 d_Y_wakeReapers_33 (by decide) rfl (Nat.le_of_ble_eq_true rfl) kz) ?_
        dsimp only [List.set]
        refine jx_of (fun _ _ kz => jw_goto 2 d_Y_wakeReapers_36 (by decide) kz) ?_
        rw [nI_1]
        first | exact ih (k + 1) M2 _ (by omega) h2 (yk_tr k1 k2) | exact ih (k + 1) M1 _ (by omega) h1 k1
      · skip
        refine jx_of (fun _ _ kz => jw_aload_n 0 d_Y_wakeReapers_28 rfl rfl kz) ?_
        refine jx_of (fun _ _ kz => jw_aload_n 3 d_Y_wakeReapers_29 rfl rfl kz) ?_
        refine jx_callV (y_Y_wakeTask (d + 1) t9 np nt h1  ht9) mt_Y_wakeTask cf_Y rfl rfl ml_Y_220 im_Y_wakeTask se_Y_wakeTask d_Y_wakeReapers_30 rfl rfl (Nat.le_of_ble_eq_true rfl) ?_
        rintro _ M2 ⟨rfl, h2, k2⟩
        refine jx_eq (st2 := []) rfl rfl rfl ?_
        refine jx_of (fun _ _ kz => jw_iincc 1 d_Y_wakeReapers_33 (by decide) rfl (Nat.le_of_ble_eq_true rfl) kz) ?_
        dsimp only [List.set]
        refine jx_of (fun _ _ kz => jw_goto 2 d_Y_wakeReapers_36 (by decide) kz) ?_
        rw [nI_1]
        first | exact ih (k + 1) M2 _ (by omega) h2 (yk_tr k1 k2) | exact ih (k + 1) M1 _ (by omega) h1 k1
set_option maxRecDepth 20000 in
set_option maxHeartbeats 4000000 in
theorem y_Y_wakeReapers {G : Gt} {M : Me} (d : Nat) (x : Int32) (np : Nat) (nt : Nat) (hY : yI M np nt) : sx G yt_Y_wakeReapers yn_Y_wakeReapers (d + 4) [.inr (some (0, 0)), .inl x] M (fun r M' => r = none ∧ yI M' np nt ∧ yk M M') := by
  refine sx_of (k := 2) (lc := [some (.inr (some (0, 0))), some (.inl x), none, none]) mt_Y_wakeReapers (Nat.le_of_ble_eq_true rfl) rfl ?_
  refine jx_of (fun _ _ kz => jw_iconst 0 d_Y_wakeReapers_0 (by decide) kz) ?_
  refine jx_of (fun _ _ kz => jw_istore_n 2 d_Y_wakeReapers_1 rfl (Nat.le_of_ble_eq_true rfl) kz) ?_
  dsimp only [List.set]
  exact y_Y_wakeReapers_l d np nt x hY.2.2.1 _ _ nt 0 M none (by omega) hY yk_rf
set_option maxRecDepth 20000 in
set_option maxHeartbeats 4000000 in
theorem y_Y_wakeTheDue_l {G : Gt} {M : Me} (d np nt : Nat) (hnt : nt ≤ 12) (c0 s0 : Nat) : ∀ (m k : Nat) (M1 : Me) (o9 : Option AV), k + m = nt → yI M1 np nt → yk M M1 → jx G yt_Y_wakeTheDue (d + 4) c0 s0 M1 2 [some (.inr (some (0, 0))), some (.inl (nI k)), o9] [] (fun r M' => r = none ∧ yI M' np nt ∧ yk M M') := by
  intro m
  induction m with
  | zero =>
    intro k M1 o9 hk h1 k1
    refine jx_of (fun _ _ kz => jw_iload_n 1 d_Y_wakeTheDue_2 rfl rfl kz) ?_
    refine jx_of (fun _ _ kz => jw_aload_n 0 d_Y_wakeTheDue_3 rfl rfl kz) ?_
    refine jx_of (fun _ _ kz => jw_getIe (nI nt) fl_Y_30 d_Y_wakeTheDue_4 rfl rfl h1.2.2.2.1 kz) ?_
    refine jx_icmp_ge 42 d_Y_wakeTheDue_7 (by decide) (fun _ => ?_) (fun h => absurd (nI_le (by omega) (by omega)) h)
    refine jx_vret d_Y_wakeTheDue_42 rfl ?_
    exact ⟨rfl, h1, k1⟩
  | succ m ih =>
    intro k M1 o9 hk h1 k1
    refine jx_of (fun _ _ kz => jw_iload_n 1 d_Y_wakeTheDue_2 rfl rfl kz) ?_
    refine jx_of (fun _ _ kz => jw_aload_n 0 d_Y_wakeTheDue_3 rfl rfl kz) ?_
    refine jx_of (fun _ _ kz => jw_getIe (nI nt) fl_Y_30 d_Y_wakeTheDue_4 rfl rfl h1.2.2.2.1 kz) ?_
    refine jx_icmp_ge 42 d_Y_wakeTheDue_7 (by decide) (fun h => absurd h (nI_ge (by omega) (by omega))) (fun _ => ?_)
    refine jx_of (fun _ _ kz => jw_aload_n 0 d_Y_wakeTheDue_10 rfl rfl kz) ?_
    refine jx_of (fun _ _ kz => jw_iload_n 1 d_Y_wakeTheDue_11 rfl rfl kz) ?_
    refine jx_callV (y_Y_taskAt (d + 2) ((nI k)) np nt h1) mt_Y_taskAt cf_Y rfl rfl ml_Y_113 im_Y_taskAt se_Y_taskAt d_Y_wakeTheDue_12 rfl rfl (Nat.le_of_ble_eq_true rfl) ?_
    rintro r _ ⟨hr, rfl⟩
    rcases hr with rfl | ⟨t9, ht9, ex9, rfl⟩
    · skip
      refine jx_eq (st2 := [.inr none]) rfl rfl rfl ?_
      refine jx_of (fun _ _ kz => jw_astore_n 2 d_Y_wakeTheDue_15 rfl (Nat.le_of_ble_eq_true rfl) kz) ?_
      dsimp only [List.set]
      refine jx_of (fun _ _ kz => jw_aload_n 2 d_Y_wakeTheDue_16 rfl rfl kz) ?_
      refine jx_ifnull 36 d_Y_wakeTheDue_17 (by decide) (fun _ => ?_) (fun _ h => by cases h)
      refine jx_of (fun _ _ kz => jw_iincc 1 d_Y_wakeTheDue_36 (by decide) rfl (Nat.le_of_ble_eq_true rfl) kz) ?_
      dsimp only [List.set]
      refine jx_of (fun _ _ kz => jw_goto 2 d_Y_wakeTheDue_39 (by decide) kz) ?_
      rw [nI_1]
      first | exact ih (k + 1) M2 _ (by omega) h2 (yk_tr k1 k2) | exact ih (k + 1) M1 _ (by omega) h1 k1
    · skip
      obtain ⟨p9, n9, o9x, hp9, hT9⟩ := (h1.2.2.2.2 t9 ht9).2
      refine jx_eq (st2 := [.inr (some (2, t9))]) rfl rfl rfl ?_
      refine jx_of (fun _ _ kz => jw_astore_n 2 d_Y_wakeTheDue_15 rfl (Nat.le_of_ble_eq_true rfl) kz) ?_
      dsimp only [List.set]
      refine jx_of (fun _ _ kz => jw_aload_n 2 d_Y_wakeTheDue_16 rfl rfl kz) ?_
      refine jx_ifnull 36 d_Y_wakeTheDue_17 (by decide) (fun h => by cases h) (fun _ _ => ?_)
      refine jx_of (fun _ _ kz => jw_aload_n 2 d_Y_wakeTheDue_20 rfl rfl kz) ?_
      refine jx_of (fun _ _ kz => jw_aload_n 0 d_Y_wakeTheDue_21 rfl rfl kz) ?_
      refine jx_of (fun _ _ kz => jw_getIe (me_I M1 0 0 10) fl_Y_66 d_Y_wakeTheDue_22 rfl rfl rfl kz) ?_
      refine jx_callV (y_T_isDueAt d t9 p9 n9 o9x ((me_I M1 0 0 10)) hT9) mt_T_isDueAt cf_T rfl rfl ml_Y_224 im_T_isDueAt se_T_isDueAt d_Y_wakeTheDue_25 rfl rfl (Nat.le_of_ble_eq_true rfl) ?_
      rintro r _ ⟨hr, rfl⟩
      obtain ⟨rv, rfl⟩ : ∃ v : Int32, r = some (.inl v) := by rcases hr with hr | hr; exact ⟨_, hr⟩; exact ⟨_, hr⟩
      refine jx_eq (st2 := [.inl rv]) rfl rfl rfl ?_
      refine jx_if_eq 36 d_Y_wakeTheDue_28 (by decide) (fun b_28 => ?_) (fun b_28 => ?_)
      · skip
        refine jx_of (fun _ _ kz => jw_iincc 1 d_Y_wakeTheDue_36 (by decide) rfl (Nat.le_of_ble_eq_true rfl) kz) ?_
        dsimp only [List.set]
        refine jx_of (fun _ _ kz => jw_goto 2 d_Y_wakeTheDue_39 (by decide) kz) ?_
        rw [nI_1]
        first | exact ih (k + 1) M2 _ (by omega) h2 (yk_tr k1 k2) | exact ih (k + 1) M1 _ (by omega) h1 k1
      · skip
        refine jx_of (fun _ _ kz => jw_aload_n 0 d_Y_wakeTheDue_31 rfl rfl kz) ?_
        refine jx_of (fun _ _ kz => jw_aload_n 2 d_Y_wakeTheDue_32 rfl rfl kz) ?_
        refine jx_callV (y_Y_wakeTask (d + 1) t9 np nt h1  ht9) mt_Y_wakeTask cf_Y rfl rfl ml_Y_220 im_Y_wakeTask se_Y_wakeTask d_Y_wakeTheDue_33 rfl rfl (Nat.le_of_ble_eq_true rfl) ?_
        rintro _ M2 ⟨rfl, h2, k2⟩
        refine jx_eq (st2 := []) rfl rfl rfl ?_
        refine jx_of (fun _ _ kz => jw_iincc 1 d_Y_wakeTheDue_36 (by decide) rfl (Nat.le_of_ble_eq_true rfl) kz) ?_
        dsimp only [List.set]
        refine jx_of (fun _ _ kz => jw_goto 2 d_Y_wakeTheDue_39 (by decide) kz) ?_
        rw [nI_1]
        first | exact ih (k + 1) M2 _ (by omega) h2 (yk_tr k1 k2) | exact ih (k + 1) M1 _ (by omega) h1 k1
set_option maxRecDepth 20000 in
set_option maxHeartbeats 4000000 in
theorem y_Y_wakeTheDue {G : Gt} {M : Me} (d : Nat) (np : Nat) (nt : Nat) (hY : yI M np nt) : sx G yt_Y_wakeTheDue yn_Y_wakeTheDue (d + 4) [.inr (some (0, 0))] M (fun r M' => r = none ∧ yI M' np nt ∧ yk M M') := by
  refine sx_of (k := 2) (lc := [some (.inr (some (0, 0))), none, none]) mt_Y_wakeTheDue (Nat.le_of_ble_eq_true rfl) rfl ?_
  refine jx_of (fun _ _ kz => jw_iconst 0 d_Y_wakeTheDue_0 (by decide) kz) ?_
  refine jx_of (fun _ _ kz => jw_istore_n 1 d_Y_wakeTheDue_1 rfl (Nat.le_of_ble_eq_true rfl) kz) ?_
  dsimp only [List.set]
  exact y_Y_wakeTheDue_l d np nt  hY.2.2.1 _ _ nt 0 M none (by omega) hY yk_rf
