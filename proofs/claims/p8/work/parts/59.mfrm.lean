def kg (s k : Nat) : Prop := (s ≠ 7 ∧ s < 33) ∨ s = 46 ∨ s = 47 ∨ (s = 7 ∧ k ≠ 27 ∧ k ≠ 28 ∧ k ≠ 30 ∧ k ≠ 31 ∧ k ≠ 33 ∧ k ≠ 34)
def mg (nt : Nat) (M M' : Me) : Prop := sq M M' ∧ (∀ s i k, kg s k → me_I M' s i k = me_I M s i k) ∧ ∀ t, t < nt → me_I M' 36 0 t = me_I M 36 0 t
/-- what holds of the reference's object -/
def mI (M : Me) (np nt : Nat) (X : List Nat) : Prop := mSh M ∧ mPr M np ∧ mTk M np nt ∧ mQ M nt X ∧ wV M
/-- a cell that the invariant doesn't look at -/
def hl (s k : Nat) : Prop := (33 < s ∧ s ≠ 36 ∧ s ≠ 38 ∧ s ≠ 46 ∧ s ≠ 47 ∧ s ≠ 48 ∧ s ≠ 51 ∧ s ≠ 52 ∧ s ≠ 53) ∨ (s = 7 ∧ (k = 30 ∨ k = 31 ∨ k = 33 ∨ k = 34))
def iv (np nt nt' : Nat) (X : List Nat) (M M' : Me) : Prop := nt ≤ nt' ∧ mI M' np nt' X ∧ mg nt M M' ∧ tr X M M'
theorem mg_rf {nt : Nat} {M : Me} : mg nt M M := ⟨sq_rf, fun _ _ _ _ => rfl, fun _ _ => rfl⟩
theorem mg_tr {nt nt1 : Nat} {M M1 M2 : Me} (hn : nt ≤ nt1) (h : mg nt M M1) (h2 : mg nt1 M1 M2) : mg nt M M2 := ⟨sq_tr h.1 h2.1, fun s i k q => (h2.2.1 s i k q).trans (h.2.1 s i k q), fun t ht => (h2.2.2 t (by omega)).trans (h.2.2 t ht)⟩
theorem iv_rf {np nt : Nat} {X : List Nat} {M : Me} (h : mI M np nt X) : iv np nt nt X M M := ⟨Nat.le_refl _, h, mg_rf, tr_rf⟩
theorem iv_tr {np nt nt1 nt2 : Nat} {X : List Nat} {M M1 M2 : Me} (h : iv np nt nt1 X M M1) (h2 : iv np nt1 nt2 X M1 M2) : iv np nt nt2 X M M2 := ⟨Nat.le_trans h.1 h2.1, h2.2.1, mg_tr h.1 h.2.2.1 h2.2.2.1, tr_tr h.2.2.2 h2.2.2.2⟩
theorem mx_ne {M : Me} {s k s' i' k' : Nat} {v : Int32} (h : s' ≠ s ∨ k' ≠ k) : me_I (me_sI M s 0 k v) s' i' k' = me_I M s' i' k' := by
  rw [me_I_sI, if_neg (fun e => by rcases h with h | h; exact h e.1; exact h e.2.2)]
theorem mPr_o {M M' : Me} {np : Nat} (h : mPr M np) (k : ∀ s j, s = 30 ∨ s = 31 ∨ s = 32 ∨ (s = 7 ∧ j = 3) → me_I M' s 0 j = me_I M s 0 j) : mPr M' np := by
  refine ⟨by rw [k 7 3 (by omega)]; exact h.1, h.2.1, fun p hp => ?_⟩
  obtain ⟨len, o, a, b, c, e⟩ := h.2.2 p hp
  refine ⟨len, o, a, by rw [k 32 _ (by omega)]; exact b, fun j hj => ?_, e⟩
  rw [k 30 _ (by omega), k 31 _ (by omega)]; exact c j hj
theorem mTk_o {M M' : Me} {np nt : Nat} (h : mTk M np nt) (k : ∀ s j, s = 36 ∨ (s = 7 ∧ j = 27) → me_I M' s 0 j = me_I M s 0 j) : mTk M' np nt := by
  refine ⟨by rw [k 7 27 (by omega)]; exact h.1, h.2.1, fun t ht => ?_⟩
  rw [k 36 t (by omega)]; exact h.2.2 t ht
theorem wV_o {M M' : Me} (h : wV M) (k : me_I M' 7 0 35 = me_I M 7 0 35) : wV M' := by
  unfold wV; rw [k]; exact h
theorem mI_any {M : Me} {np nt : Nat} {X : List Nat} {s k : Nat} {v : Int32} (h : mI M np nt X) (hs : hl s k ∨ s = 46 ∨ s = 47 ∨ (s = 7 ∧ (k = 29 ∨ k = 32))) : mI (me_sI M s 0 k v) np nt X := by
  unfold hl at hs
  exact ⟨mSh_mc h.1 (sq_sI sq_rf), mPr_o h.2.1 (fun _ _ q => mx_ne (by omega)), mTk_o h.2.2.1 (fun _ _ q => mx_ne (by omega)), mQ_any h.2.2.2.1 (by omega), wV_o h.2.2.2.2 (mx_ne (by omega))⟩
theorem iv_sI {np nt nt' : Nat} {X : List Nat} {M M1 : Me} {s k : Nat} {v : Int32} (h : iv np nt nt' X M M1) (hs : hl s k) : iv np nt nt' X M (me_sI M1 s 0 k v) := by
  refine ⟨h.1, mI_any h.2.1 (Or.inl hs), ⟨sq_sI h.2.2.1.1, fun s' i k' q => ?_, fun t ht => ?_⟩, tr_sI h.2.2.2 (Or.inl (by unfold hl at hs; omega))⟩
  · rw [mx_ne (by unfold hl at hs; unfold kg at q; omega)]; exact h.2.2.1.2.1 s' i k' q
  · rw [mx_ne (by unfold hl at hs; omega)]; exact h.2.2.1.2.2 t ht
theorem iv_mc {np nt nt' : Nat} {X : List Nat} {M M1 M2 : Me} (h : iv np nt nt' X M M1) (q : mQ M2 nt' X) (c : mc M1 M2) (t : tr X M1 M2) : iv np nt nt' X M M2 := by
  obtain ⟨a, ⟨b1, b2, b3, b4, b5⟩, ⟨e1, e2, e3⟩, f⟩ := h
  exact ⟨a, ⟨mSh_mc b1 c.1, mPr_mc b2 c, mTk_mc b3 c, q, wV_mc b5 c⟩, ⟨sq_tr e1 c.1, fun s i k g => (c.2 s i k (by unfold kg at g; unfold kp; omega)).trans (e2 s i k g), fun t ht => (c.2 36 0 t (by unfold kp; omega)).trans (e3 t ht)⟩, tr_tr f t⟩
/-- how many wait -/
def wn (M : Me) : Nat → Nat
  | 0 => 0
  | k + 1 => wn M k + (if me_I M 44 0 k = 0 then 0 else 1)
theorem wn_eq {M M' : Me} (h : ∀ k, me_I M' 44 0 k = me_I M 44 0 k) : ∀ n, wn M' n = wn M n := by
  intro n
  induction n with
  | zero => rfl
  | succ n ih => simp only [wn, ih, h]
theorem wn_lt {M M' : Me} {b : Nat} (hb : ¬ me_I M 44 0 b = 0) (h0 : me_I M' 44 0 b = 0) (h : ∀ k, k ≠ b → me_I M' 44 0 k = me_I M 44 0 k) : ∀ n, (b < n → wn M' n + 1 = wn M n) ∧ (n ≤ b → wn M' n = wn M n) := by
  intro n
  induction n with
  | zero => exact ⟨fun q => by omega, fun _ => rfl⟩
  | succ n ih =>
    refine ⟨fun q => ?_, fun q => ?_⟩
    · simp only [wn]
      rcases Nat.lt_or_ge b n with g | g
      · rw [h n (by omega)]; have := ih.1 g; omega
      · have e : n = b := by omega
        have := ih.2 g
        rw [e, if_pos h0, if_neg hb]; rw [e] at this; omega
    · simp only [wn]
      rw [h n (by omega), ih.2 (by omega)]
set_option maxRecDepth 20000 in
set_option maxHeartbeats 4000000 in
theorem z_M_ready {G : Gt} {M : Me} (d : Nat) (x : Nat) (v : Int32) (np : Nat) (nt : Nat) (X : List Nat) (hI : mI M np nt X) (hx : x < 144) : sx G yt_M_ready yn_M_ready (d + 1) [.inr (some (7, 0)), .inl (nI x), .inl v] M (fun r M' => r = none ∧ iv np nt nt X M M') := by
  refine sx_of (k := 0) (lc := [some (.inr (some (7, 0))), some (.inl (nI x)), some (.inl v)]) mt_M_ready (Nat.le_of_ble_eq_true rfl) rfl ?_
  refine jx_of (fun _ _ kz => jw_aload_n 0 d_M_ready_0 rfl rfl kz) ?_
  refine jx_of (fun _ _ kz => jw_getPe (some (40, 0)) fl_M_41 d_M_ready_1 rfl rfl (by simp [me_I_sI, me_I_sP, me_I_nx, me_P_sI, me_P_sP, me_P_nx, me_N_sI, me_N_sP, me_N_nx, me_L_sI, me_L_sP, me_L_nx, show me_P M 7 0 11 = some (40, 0) from hI.1.1 (7, 0, 11, 40, 0) (by decide)]) kz) ?_
  refine jx_of (fun _ _ kz => jw_iload_n 1 d_M_ready_4 rfl rfl kz) ?_
  refine jx_of (fun _ _ kz => jw_iconst 2 d_M_ready_5 (by decide) kz) ?_
  refine jx_of (fun _ _ kz => jw_iast d_M_ready_6 rfl rfl (by rw [show me_L _ 40 0 = 144 from (by simp [me_I_sI, me_I_sP, me_I_nx, me_P_sI, me_P_sP, me_P_nx, me_N_sI, me_N_sP, me_N_nx, me_L_sI, me_L_sP, me_L_nx, show me_L M 40 0 = 144 from hI.1.2 (40, 0, 144) (by decide)])]; exact (vp_in_nI hx (by decide))) kz) ?_
  rw [nI_clamp (by omega)]
  refine jx_of (fun _ _ kz => jw_aload_n 0 d_M_ready_7 rfl rfl kz) ?_
  refine jx_of (fun _ _ kz => jw_getPe (some (41, 0)) fl_M_44 d_M_ready_8 rfl rfl (by simp [me_I_sI, me_I_sP, me_I_nx, me_P_sI, me_P_sP, me_P_nx, me_N_sI, me_N_sP, me_N_nx, me_L_sI, me_L_sP, me_L_nx, show me_P M 7 0 12 = some (41, 0) from hI.1.1 (7, 0, 12, 41, 0) (by decide)]) kz) ?_
  refine jx_of (fun _ _ kz => jw_iload_n 1 d_M_ready_11 rfl rfl kz) ?_
  refine jx_of (fun _ _ kz => jw_iload_n 2 d_M_ready_12 rfl rfl kz) ?_
  refine jx_of (fun _ _ kz => jw_iast d_M_ready_13 rfl rfl (by rw [show me_L _ 41 0 = 144 from (by simp [me_I_sI, me_I_sP, me_I_nx, me_P_sI, me_P_sP, me_P_nx, me_N_sI, me_N_sP, me_N_nx, me_L_sI, me_L_sP, me_L_nx, show me_L M 41 0 = 144 from hI.1.2 (41, 0, 144) (by decide)])]; exact (vp_in_nI hx (by decide))) kz) ?_
  rw [nI_clamp (by omega)]
  refine jx_of (fun _ _ kz => jw_aload_n 0 d_M_ready_14 rfl rfl kz) ?_
  refine jx_of (fun _ _ kz => jw_iconst 2 d_M_ready_15 (by decide) kz) ?_
  refine jx_of (fun _ _ kz => jw_putI fl_M_151 (Or.inl rfl) rfl rfl d_M_ready_16 rfl rfl kz) ?_
  refine jx_vret d_M_ready_19 rfl ?_
  exact ⟨rfl, (iv_sI (iv_sI (iv_sI (iv_rf hI) (by unfold hl; omega)) (by unfold hl; omega)) (by unfold hl; omega))⟩
set_option maxRecDepth 20000 in
set_option maxHeartbeats 4000000 in
theorem z_M_broken {G : Gt} {M : Me} (d : Nat) (x : Nat) (v : Int32) (np : Nat) (nt : Nat) (X : List Nat) (hI : mI M np nt X) (hx : x < 144) : sx G yt_M_broken yn_M_broken (d + 1) [.inr (some (7, 0)), .inl (nI x), .inl v] M (fun r M' => r = none ∧ iv np nt nt X M M') := by
  refine sx_of (k := 0) (lc := [some (.inr (some (7, 0))), some (.inl (nI x)), some (.inl v)]) mt_M_broken (Nat.le_of_ble_eq_true rfl) rfl ?_
  refine jx_of (fun _ _ kz => jw_aload_n 0 d_M_broken_0 rfl rfl kz) ?_
  refine jx_of (fun _ _ kz => jw_getPe (some (40, 0)) fl_M_41 d_M_broken_1 rfl rfl (by simp [me_I_sI, me_I_sP, me_I_nx, me_P_sI, me_P_sP, me_P_nx, me_N_sI, me_N_sP, me_N_nx, me_L_sI, me_L_sP, me_L_nx, show me_P M 7 0 11 = some (40, 0) from hI.1.1 (7, 0, 11, 40, 0) (by decide)]) kz) ?_
  refine jx_of (fun _ _ kz => jw_iload_n 1 d_M_broken_4 rfl rfl kz) ?_
  refine jx_of (fun _ _ kz => jw_iconst 3 d_M_broken_5 (by decide) kz) ?_
  refine jx_of (fun _ _ kz => jw_iast d_M_broken_6 rfl rfl (by rw [show me_L _ 40 0 = 144 from (by simp [me_I_sI, me_I_sP, me_I_nx, me_P_sI, me_P_sP, me_P_nx, me_N_sI, me_N_sP, me_N_nx, me_L_sI, me_L_sP, me_L_nx, show me_L M 40 0 = 144 from hI.1.2 (40, 0, 144) (by decide)])]; exact (vp_in_nI hx (by decide))) kz) ?_
  rw [nI_clamp (by omega)]
  refine jx_of (fun _ _ kz => jw_aload_n 0 d_M_broken_7 rfl rfl kz) ?_
  refine jx_of (fun _ _ kz => jw_getPe (some (41, 0)) fl_M_44 d_M_broken_8 rfl rfl (by simp [me_I_sI, me_I_sP, me_I_nx, me_P_sI, me_P_sP, me_P_nx, me_N_sI, me_N_sP, me_N_nx, me_L_sI, me_L_sP, me_L_nx, show me_P M 7 0 12 = some (41, 0) from hI.1.1 (7, 0, 12, 41, 0) (by decide)]) kz) ?_
  refine jx_of (fun _ _ kz => jw_iload_n 1 d_M_broken_11 rfl rfl kz) ?_
  refine jx_of (fun _ _ kz => jw_iload_n 2 d_M_broken_12 rfl rfl kz) ?_
  refine jx_of (fun _ _ kz => jw_iast d_M_broken_13 rfl rfl (by rw [show me_L _ 41 0 = 144 from (by simp [me_I_sI, me_I_sP, me_I_nx, me_P_sI, me_P_sP, me_P_nx, me_N_sI, me_N_sP, me_N_nx, me_L_sI, me_L_sP, me_L_nx, show me_L M 41 0 = 144 from hI.1.2 (41, 0, 144) (by decide)])]; exact (vp_in_nI hx (by decide))) kz) ?_
  rw [nI_clamp (by omega)]
  refine jx_of (fun _ _ kz => jw_aload_n 0 d_M_broken_14 rfl rfl kz) ?_
  refine jx_of (fun _ _ kz => jw_iconst 3 d_M_broken_15 (by decide) kz) ?_
  refine jx_of (fun _ _ kz => jw_putI fl_M_151 (Or.inl rfl) rfl rfl d_M_broken_16 rfl rfl kz) ?_
  refine jx_vret d_M_broken_19 rfl ?_
  exact ⟨rfl, (iv_sI (iv_sI (iv_sI (iv_rf hI) (by unfold hl; omega)) (by unfold hl; omega)) (by unfold hl; omega))⟩
set_option maxRecDepth 20000 in
set_option maxHeartbeats 4000000 in
theorem z_M_pending {G : Gt} {M : Me} (d : Nat) (x : Nat) (np : Nat) (nt : Nat) (X : List Nat) (hI : mI M np nt X) (hx : x < 144) : sx G yt_M_pending yn_M_pending (d + 1) [.inr (some (7, 0)), .inl (nI x)] M (fun r M' => r = none ∧ iv np nt nt X M M') := by
  refine sx_of (k := 0) (lc := [some (.inr (some (7, 0))), some (.inl (nI x))]) mt_M_pending (Nat.le_of_ble_eq_true rfl) rfl ?_
  refine jx_of (fun _ _ kz => jw_aload_n 0 d_M_pending_0 rfl rfl kz) ?_
  refine jx_of (fun _ _ kz => jw_getPe (some (40, 0)) fl_M_41 d_M_pending_1 rfl rfl (by simp [me_I_sI, me_I_sP, me_I_nx, me_P_sI, me_P_sP, me_P_nx, me_N_sI, me_N_sP, me_N_nx, me_L_sI, me_L_sP, me_L_nx, show me_P M 7 0 11 = some (40, 0) from hI.1.1 (7, 0, 11, 40, 0) (by decide)]) kz) ?_
  refine jx_of (fun _ _ kz => jw_iload_n 1 d_M_pending_4 rfl rfl kz) ?_
  refine jx_of (fun _ _ kz => jw_iconst 1 d_M_pending_5 (by decide) kz) ?_
  refine jx_of (fun _ _ kz => jw_iast d_M_pending_6 rfl rfl (by rw [show me_L _ 40 0 = 144 from (by simp [me_I_sI, me_I_sP, me_I_nx, me_P_sI, me_P_sP, me_P_nx, me_N_sI, me_N_sP, me_N_nx, me_L_sI, me_L_sP, me_L_nx, show me_L M 40 0 = 144 from hI.1.2 (40, 0, 144) (by decide)])]; exact (vp_in_nI hx (by decide))) kz) ?_
  rw [nI_clamp (by omega)]
  refine jx_of (fun _ _ kz => jw_aload_n 0 d_M_pending_7 rfl rfl kz) ?_
  refine jx_of (fun _ _ kz => jw_iconst 1 d_M_pending_8 (by decide) kz) ?_
  refine jx_of (fun _ _ kz => jw_putI fl_M_151 (Or.inl rfl) rfl rfl d_M_pending_9 rfl rfl kz) ?_
  refine jx_vret d_M_pending_12 rfl ?_
  exact ⟨rfl, (iv_sI (iv_sI (iv_rf hI) (by unfold hl; omega)) (by unfold hl; omega))⟩
set_option maxRecDepth 20000 in
set_option maxHeartbeats 4000000 in
theorem z_M_wants {G : Gt} {M : Me} (d : Nat) (a : Int32) : sx G yt_M_wants yn_M_wants (d + 1) [.inl a] M (fun r M' => r = some (.inl (1 + (a / 2))) ∧ M = M') := by
  refine sx_of (k := 0) (lc := [some (.inl a)]) mt_M_wants (Nat.le_of_ble_eq_true rfl) rfl ?_
  refine jx_of (fun _ _ kz => jw_iconst 1 d_M_wants_0 (by decide) kz) ?_
  refine jx_of (fun _ _ kz => jw_iload_n 0 d_M_wants_1 rfl rfl kz) ?_
  refine jx_of (fun _ _ kz => jw_iconst 2 d_M_wants_2 (by decide) kz) ?_
  refine jx_of (fun _ _ kz => jw_idiv d_M_wants_3 (by decide) kz) ?_
  refine jx_of (fun _ _ kz => jw_iadd d_M_wants_4 kz) ?_
  refine jx_iret d_M_wants_5 rfl ?_
  exact ⟨rfl, rfl⟩
set_option maxRecDepth 20000 in
set_option maxHeartbeats 4000000 in
theorem z_M_spends {G : Gt} {M : Me} (d : Nat) (t : Nat) (np : Nat) (nt : Nat) (X : List Nat) (hI : mI M np nt X) (ht : t < nt) : sx G yt_M_spends yn_M_spends (d + 5) [.inr (some (7, 0)), .inl (nI t)] M (fun r M' => (r = some (.inl 0) ∨ r = some (.inl 1)) ∧ iv np nt nt X M M') := by
  refine sx_of (k := 0) (lc := [some (.inr (some (7, 0))), some (.inl (nI t))]) mt_M_spends (Nat.le_of_ble_eq_true rfl) rfl ?_
  refine jx_of (fun _ _ kz => jw_aload_n 0 d_M_spends_0 rfl rfl kz) ?_
  refine jx_of (fun _ _ kz => jw_getPe (some (37, 0)) fl_M_31 d_M_spends_1 rfl rfl (by simp [me_I_sI, me_I_sP, me_I_nx, me_P_sI, me_P_sP, me_P_nx, me_N_sI, me_N_sP, me_N_nx, me_L_sI, me_L_sP, me_L_nx, show me_P M 7 0 8 = some (37, 0) from hI.1.1 (7, 0, 8, 37, 0) (by decide)]) kz) ?_
  refine jx_of (fun _ _ kz => jw_iload_n 1 d_M_spends_4 rfl rfl kz) ?_
  refine jx_of (fun _ _ kz => jw_ialde (me_I M 37 0 t) d_M_spends_5 rfl rfl (by rw [show me_L _ 37 0 = 12 from (by simp [me_I_sI, me_I_sP, me_I_nx, me_P_sI, me_P_sP, me_P_nx, me_N_sI, me_N_sP, me_N_nx, me_L_sI, me_L_sP, me_L_nx, show me_L M 37 0 = 12 from hI.1.2 (37, 0, 12) (by decide)])]; exact (vp_in_nI (by have := hI.2.2.1.2.1; omega) (by decide))) (by rw [nI_clamp (by have := hI.2.2.1.2.1; omega)]) kz) ?_
  refine jx_if_le 21 d_M_spends_6 (by decide) (fun b_6 => ?_) (fun b_6 => ?_)
  · skip
    refine jx_of (fun _ _ kz => jw_aload_n 0 d_M_spends_21 rfl rfl kz) ?_
    refine jx_of (fun _ _ kz => jw_iload_n 1 d_M_spends_22 rfl rfl kz) ?_
    refine jx_callV (z_M_wakeUp d t nt X hI.1  ht hI.2.2.2.2 hI.2.2.2.1) mt_M_wakeUp cf_M rfl rfl ml_M_115 im_M_wakeUp se_M_wakeUp d_M_spends_23 rfl rfl (Nat.le_of_ble_eq_true rfl) ?_
    rintro _ M1 ⟨rfl, q1, c1, t1⟩
    refine jx_eq (st2 := []) rfl rfl rfl ?_
    refine jx_of (fun _ _ kz => jw_iconst 0 d_M_spends_26 (by decide) kz) ?_
    refine jx_zret d_M_spends_27 rfl (by decide) ?_
    exact ⟨Or.inl rfl, iv_mc (iv_rf hI) q1 c1 t1⟩
  · skip
    refine jx_of (fun _ _ kz => jw_aload_n 0 d_M_spends_9 rfl rfl kz) ?_
    refine jx_of (fun _ _ kz => jw_getPe (some (37, 0)) fl_M_31 d_M_spends_10 rfl rfl (by simp [me_I_sI, me_I_sP, me_I_nx, me_P_sI, me_P_sP, me_P_nx, me_N_sI, me_N_sP, me_N_nx, me_L_sI, me_L_sP, me_L_nx, show me_P M 7 0 8 = some (37, 0) from hI.1.1 (7, 0, 8, 37, 0) (by decide)]) kz) ?_
    refine jx_of (fun _ _ kz => jw_iload_n 1 d_M_spends_13 rfl rfl kz) ?_
    refine jx_of (fun _ _ kz => jw_dup2 d_M_spends_14 kz) ?_
    refine jx_of (fun _ _ kz => jw_ialde (me_I M 37 0 t) d_M_spends_15 rfl rfl (by rw [show me_L _ 37 0 = 12 from (by simp [me_I_sI, me_I_sP, me_I_nx, me_P_sI, me_P_sP, me_P_nx, me_N_sI, me_N_sP, me_N_nx, me_L_sI, me_L_sP, me_L_nx, show me_L M 37 0 = 12 from hI.1.2 (37, 0, 12) (by decide)])]; exact (vp_in_nI (by have := hI.2.2.1.2.1; omega) (by decide))) (by rw [nI_clamp (by have := hI.2.2.1.2.1; omega)]) kz) ?_
    refine jx_of (fun _ _ kz => jw_iconst 1 d_M_spends_16 (by decide) kz) ?_
    refine jx_of (fun _ _ kz => jw_isub d_M_spends_17 kz) ?_
    refine jx_of (fun _ _ kz => jw_iast d_M_spends_18 rfl rfl (by rw [show me_L _ 37 0 = 12 from (by simp [me_I_sI, me_I_sP, me_I_nx, me_P_sI, me_P_sP, me_P_nx, me_N_sI, me_N_sP, me_N_nx, me_L_sI, me_L_sP, me_L_nx, show me_L M 37 0 = 12 from hI.1.2 (37, 0, 12) (by decide)])]; exact (vp_in_nI (by have := hI.2.2.1.2.1; omega) (by decide))) kz) ?_
    rw [nI_clamp (by have := hI.2.2.1.2.1; omega)]
    refine jx_of (fun _ _ kz => jw_iconst 1 d_M_spends_19 (by decide) kz) ?_
    refine jx_zret d_M_spends_20 rfl (by decide) ?_
    exact ⟨Or.inr rfl, (iv_sI (iv_rf hI) (by unfold hl; omega))⟩
