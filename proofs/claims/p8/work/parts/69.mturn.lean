def pk7 (s k : Nat) : Prop := (s ≠ 7 ∧ s < 33) ∨ (s = 7 ∧ (k = 3 ∨ k = 29))
/-- programs, draft and clock are left alone -/
def pf (M M' : Me) : Prop := sq M M' ∧ ∀ s i k, pk7 s k → me_I M' s i k = me_I M s i k
theorem pf_rf {M : Me} : pf M M := ⟨sq_rf, fun _ _ _ _ => rfl⟩
theorem pf_tr {M M1 M2 : Me} (h : pf M M1) (h2 : pf M1 M2) : pf M M2 := ⟨sq_tr h.1 h2.1, fun s i k q => (h2.2 s i k q).trans (h.2 s i k q)⟩
theorem pf_fw {nt : Nat} {M M' : Me} (h : fw nt M M') : pf M M' := ⟨h.1, fun s i k q => h.2.1 s i k (by unfold pk7 at q; unfold kw; omega)⟩
theorem pf_sI {M M1 : Me} {s k : Nat} {v : Int32} (h : pf M M1) (hs : 33 ≤ s ∨ (s = 7 ∧ k ≠ 3 ∧ k ≠ 29)) : pf M (me_sI M1 s 0 k v) := by
  refine ⟨sq_sI h.1, fun s' i k' q => ?_⟩
  rw [mx_ne (by unfold pk7 at q; omega)]; exact h.2 s' i k' q
/-- the reference between two calls -/
def mJ (M : Me) (np nt : Nat) : Prop := mI M np nt [] ∧ me_I M 7 0 35 = -1 ∧ ∃ x, x < 3 ∧ me_I M 7 0 32 = nI x
theorem mI_wk {M : Me} {np nt : Nat} {X : List Nat} {v : Int32} (h : mI M np nt X) (hv : v = -1 ∨ ∃ w, w < 3 ∧ v = nI w) : mI (me_sI M 7 0 35 v) np nt X :=
  ⟨mSh_mc h.1 (sq_sI sq_rf), mPr_o h.2.1 (fun _ _ q => mx_ne (by omega)), mTk_o h.2.2.1 (fun _ _ q => mx_ne (by omega)), mQ_any h.2.2.2.1 (by omega), by unfold wV; rw [me_I_sI, if_pos ⟨rfl, rfl, rfl⟩]; exact hv⟩
theorem mJ_iw {M M' : Me} {np nt nt' : Nat} (h : mJ M np nt) (k : iw np nt nt' [] M M') : mJ M' np nt' :=
  ⟨k.2.1, by rw [k.2.2.1.2.1 7 0 35 (by unfold kw; omega)]; exact h.2.1, by rw [k.2.2.1.2.1 7 0 32 (by unfold kw; omega)]; exact h.2.2⟩
theorem mJ_any {M : Me} {np nt : Nat} {s k : Nat} {v : Int32} (h : mJ M np nt) (hs : hl s k) : mJ (me_sI M s 0 k v) np nt :=
  ⟨mI_any h.1 (Or.inl hs), by rw [mx_ne (by unfold hl at hs; omega)]; exact h.2.1, by rw [mx_ne (by unfold hl at hs; omega)]; exact h.2.2⟩
theorem mJ_turn {M M2 M4 : Me} {np nt nt2 : Nat} {w : Int32} (h : mJ M np nt) (hf : fw nt M M2) (k : iw np nt nt2 [] (me_sI M2 7 0 35 w) M4) : mJ (me_sI M4 7 0 35 (-1)) np nt2 ∧ pf M (me_sI M4 7 0 35 (-1)) := by
  refine ⟨⟨mI_wk k.2.1 (Or.inl rfl), by simp [me_I_sI], ?_⟩, pf_sI (pf_tr (pf_tr (pf_fw hf) (pf_sI pf_rf (by omega))) (pf_fw k.2.2.1)) (by omega)⟩
  rw [mx_ne (by omega), k.2.2.1.2.1 7 0 32 (by unfold kw; omega), mx_ne (by omega), hf.2.1 7 0 32 (by unfold kw; omega)]
  exact h.2.2
theorem r01 (u lo hi : Int32) : (u < lo ∨ hi < u) ∨ (¬ u < lo ∧ ¬ hi < u) := by
  rcases Classical.em (u < lo) with a | a
  · exact Or.inl (Or.inl a)
  · rcases Classical.em (hi < u) with b | b
    · exact Or.inl (Or.inr b)
    · exact Or.inr ⟨a, b⟩
theorem r_of {u hi : Int32} {n : Nat} (hn : hi.toInt = n) (a : ¬ u < 0) (b : ¬ hi < u) : ∃ j, j ≤ n ∧ u = nI j := nI_of2 hn a (by rw [Int32.le_iff_toInt_le]; rw [Int32.lt_iff_toInt_lt] at b; omega)
set_option maxRecDepth 20000 in
set_option maxHeartbeats 4000000 in
theorem z_M_turn_f {G : Gt} {M : Me} (d : Nat) (u : Int32) (np : Nat) (nt : Nat) (hJ : mJ M np nt) (hu : u < 0 ∨ 2 < u) : sx G yt_M_turn yn_M_turn (d + 10) [.inr (some (7, 0)), .inl u] M (fun r M' => ∃ (v : Int32) (nt' : Nat), r = some (.inl v) ∧ mJ M' np nt' ∧ pf M M') := by
  refine sx_of (k := 1) (lc := [some (.inr (some (7, 0))), some (.inl u), none]) mt_M_turn (Nat.le_of_ble_eq_true rfl) rfl ?_
  refine jx_of (fun _ _ kz => jw_iload_n 1 d_M_turn_0 rfl rfl kz) ?_
  refine jx_of (fun _ _ kz => jw_iconst 0 d_M_turn_1 (by decide) kz) ?_
  refine jx_of (fun _ _ kz => jw_iconst 2 d_M_turn_2 (by decide) kz) ?_
  refine jx_callS (x_M_is_f (d + 8) u 0 2  hu) mt_M_is ml_M_93 sm_M_is d_M_turn_3 rfl rfl (Nat.le_of_ble_eq_true rfl) ?_
  rintro _ _ ⟨rfl, rfl⟩
  refine jx_eq (st2 := [.inl 0]) rfl rfl rfl ?_
  refine jx_if_ne 11 d_M_turn_6 (by decide) (fun h => absurd h (by decide)) (fun _ => ?_)
  refine jx_of (fun _ _ kz => jw_iconst (-1) d_M_turn_9 (by decide) kz) ?_
  refine jx_iret d_M_turn_10 rfl ?_
  exact ⟨_, nt, rfl, hJ, pf_rf⟩
set_option maxRecDepth 20000 in
set_option maxHeartbeats 4000000 in
theorem z_M_turn_t {G : Gt} {M : Me} (d : Nat) (w : Nat) (np : Nat) (nt : Nat) (hJ : mJ M np nt) (hw : w < 3) (h1 : ¬ nI w < 0) (h2 : ¬ 2 < nI w) : sx G yt_M_turn yn_M_turn (d + 10) [.inr (some (7, 0)), .inl (nI w)] M (fun r M' => ∃ (v : Int32) (nt' : Nat), r = some (.inl v) ∧ mJ M' np nt' ∧ pf M M') := by
  refine sx_of (k := 1) (lc := [some (.inr (some (7, 0))), some (.inl (nI w)), none]) mt_M_turn (Nat.le_of_ble_eq_true rfl) rfl ?_
  refine jx_of (fun _ _ kz => jw_iload_n 1 d_M_turn_0 rfl rfl kz) ?_
  refine jx_of (fun _ _ kz => jw_iconst 0 d_M_turn_1 (by decide) kz) ?_
  refine jx_of (fun _ _ kz => jw_iconst 2 d_M_turn_2 (by decide) kz) ?_
  refine jx_callS (x_M_is_t (d + 8) ((nI w)) 0 2  h1 h2) mt_M_is ml_M_93 sm_M_is d_M_turn_3 rfl rfl (Nat.le_of_ble_eq_true rfl) ?_
  rintro _ _ ⟨rfl, rfl⟩
  refine jx_eq (st2 := [.inl 1]) rfl rfl rfl ?_
  refine jx_if_ne 11 d_M_turn_6 (by decide) (fun _ => ?_) (fun h => absurd h (by decide))
  refine jx_of (fun _ _ kz => jw_aload_n 0 d_M_turn_11 rfl rfl kz) ?_
  refine jx_of (fun _ _ kz => jw_getPe (some (49, 0)) fl_M_68 d_M_turn_12 rfl rfl (by simp [me_I_sI, me_I_sP, me_I_nx, me_P_sI, me_P_sP, me_P_nx, me_N_sI, me_N_sP, me_N_nx, me_L_sI, me_L_sP, me_L_nx, show me_P M 7 0 20 = some (49, 0) from hJ.1.1.1 (7, 0, 20, 49, 0) (by decide)]) kz) ?_
  refine jx_of (fun _ _ kz => jw_iload_n 1 d_M_turn_15 rfl rfl kz) ?_
  refine jx_of (fun _ _ kz => jw_dup2 d_M_turn_16 kz) ?_
  refine jx_of (fun _ _ kz => jw_ialde (me_I M 49 0 w) d_M_turn_17 rfl rfl (by rw [show me_L _ 49 0 = 3 from (by simp [me_I_sI, me_I_sP, me_I_nx, me_P_sI, me_P_sP, me_P_nx, me_N_sI, me_N_sP, me_N_nx, me_L_sI, me_L_sP, me_L_nx, show me_L M 49 0 = 3 from hJ.1.1.2 (49, 0, 3) (by decide)])]; exact (vp_in_nI hw (by decide))) (by rw [nI_clamp (by omega)] <;> simp [me_I_sI]) kz) ?_
  refine jx_of (fun _ _ kz => jw_iconst 1 d_M_turn_18 (by decide) kz) ?_
  refine jx_of (fun _ _ kz => jw_iadd d_M_turn_19 kz) ?_
  refine jx_of (fun _ _ kz => jw_iast d_M_turn_20 rfl rfl (by rw [show me_L _ 49 0 = 3 from (by simp [me_I_sI, me_I_sP, me_I_nx, me_P_sI, me_P_sP, me_P_nx, me_N_sI, me_N_sP, me_N_nx, me_L_sI, me_L_sP, me_L_nx, show me_L M 49 0 = 3 from hJ.1.1.2 (49, 0, 3) (by decide)])]; exact (vp_in_nI hw (by decide))) kz) ?_
  rw [nI_clamp (by omega)]
  refine jx_of (fun _ _ kz => jw_aload_n 0 d_M_turn_21 rfl rfl kz) ?_
  refine jx_of (fun _ _ kz => jw_iload_n 1 d_M_turn_22 rfl rfl kz) ?_
  refine jx_callV (z_M_choose (d + 5) w np nt (mI_any hJ.1 (Or.inl (by unfold hl; omega)))  hw) mt_M_choose cf_M rfl rfl ml_M_214 im_M_choose se_M_choose d_M_turn_23 rfl rfl (Nat.le_of_ble_eq_true rfl) ?_
  rintro _ M2 ⟨rv, rfl, hf, hc⟩
  have hf2 := fw_tr (Nat.le_refl nt) (fw_sI (s := 49) (k := w) fw_rf (by omega)) hf
  have hm2 : mSh M2 := mSh_mc hJ.1.1 hf2.1
  refine jx_eq (st2 := [.inl rv]) rfl rfl rfl ?_
  refine jx_of (fun _ _ kz => jw_istore_n 2 d_M_turn_26 rfl (Nat.le_of_ble_eq_true rfl) kz) ?_
  dsimp only [List.set]
  refine jx_of (fun _ _ kz => jw_iload_n 2 d_M_turn_27 rfl rfl kz) ?_
  refine jx_if_ge 34 d_M_turn_28 (by decide) (fun b_28 => ?_) (fun b_28 => ?_)
  · skip
    obtain ⟨t, ht, rfl, hm3⟩ := hc.resolve_left (fun q => absurd b_28 (by rw [q.1]; decide))
    refine jx_of (fun _ _ kz => jw_aload_n 0 d_M_turn_34 rfl rfl kz) ?_
    refine jx_of (fun _ _ kz => jw_iload_n 1 d_M_turn_35 rfl rfl kz) ?_
    refine jx_of (fun _ _ kz => jw_putI fl_M_89 (Or.inl rfl) rfl rfl d_M_turn_36 rfl rfl kz) ?_
    refine jx_of (fun _ _ kz => jw_aload_n 0 d_M_turn_39 rfl rfl kz) ?_
    refine jx_of (fun _ _ kz => jw_iload_n 2 d_M_turn_40 rfl rfl kz) ?_
    refine jx_of (fun _ _ kz => jw_iload_n 1 d_M_turn_41 rfl rfl kz) ?_
    refine jx_callV (z_M_work d t w np nt (mI_wk hm3 (Or.inr ⟨w, hw, rfl⟩))  ht hw) mt_M_work cf_M rfl rfl ml_M_217 im_M_work se_M_work d_M_turn_42 rfl rfl (Nat.le_of_ble_eq_true rfl) ?_
    rintro _ M4 ⟨rfl, nt2, h4⟩
    refine jx_eq (st2 := []) rfl rfl rfl ?_
    refine jx_of (fun _ _ kz => jw_aload_n 0 d_M_turn_45 rfl rfl kz) ?_
    refine jx_of (fun _ _ kz => jw_iconst (-1) d_M_turn_46 (by decide) kz) ?_
    refine jx_of (fun _ _ kz => jw_putI fl_M_89 (Or.inl rfl) rfl rfl d_M_turn_47 rfl rfl kz) ?_
    refine jx_of (fun _ _ kz => jw_iload_n 2 d_M_turn_50 rfl rfl kz) ?_
    refine jx_iret d_M_turn_51 rfl ?_
    exact ⟨_, nt2, rfl, (mJ_turn hJ hf2 h4).1, (mJ_turn hJ hf2 h4).2⟩
  · skip
    refine jx_of (fun _ _ kz => jw_bipush (-2) d_M_turn_31 (by decide) kz) ?_
    refine jx_iret d_M_turn_33 rfl ?_
    have hc2 := hc.resolve_right (fun ⟨t, ht, e, _⟩ => b_28 (by rw [e]; exact nI_pos' (by have := hJ.1.2.2.1.2.1; omega)))
    exact ⟨_, nt, rfl, mJ_iw hJ (iw_mk (Nat.le_refl _) hc2.2 hf2), pf_fw hf2⟩
theorem z_M_turn {G : Gt} {M : Me} (d : Nat) (u : Int32) (np nt : Nat) (hJ : mJ M np nt) : sx G yt_M_turn yn_M_turn (d + 10) [.inr (some (7, 0)), .inl u] M (fun r M' => ∃ (v : Int32) (nt' : Nat), r = some (.inl v) ∧ mJ M' np nt' ∧ pf M M') := by
  rcases r01 u 0 2 with h | ⟨h1, h2⟩
  · exact z_M_turn_f d u np nt hJ h
  · obtain ⟨j, hj, rfl⟩ := r_of (n := 2) (by decide) h1 h2
    exact z_M_turn_t d j np nt hJ (by omega) h1 h2
set_option maxRecDepth 20000 in
set_option maxHeartbeats 4000000 in
theorem z_M_run_f {G : Gt} {M : Me} (d : Nat) (u : Int32) (np : Nat) (nt : Nat) (hJ : mJ M np nt) (hu : u < 1 ∨ 30 < u) : sx G yt_M_run yn_M_run (d + 11) [.inr (some (7, 0)), .inl u] M (fun r M' => ∃ (v : Int32) (nt' : Nat), r = some (.inl v) ∧ mJ M' np nt' ∧ pf M M') := by
  refine sx_of (k := 3) (lc := [some (.inr (some (7, 0))), some (.inl u), none, none, none]) mt_M_run (Nat.le_of_ble_eq_true rfl) rfl ?_
  refine jx_of (fun _ _ kz => jw_iload_n 1 d_M_run_0 rfl rfl kz) ?_
  refine jx_of (fun _ _ kz => jw_iconst 1 d_M_run_1 (by decide) kz) ?_
  refine jx_of (fun _ _ kz => jw_bipush 30 d_M_run_2 (by decide) kz) ?_
  refine jx_callS (x_M_is_f (d + 9) u 1 30  hu) mt_M_is ml_M_93 sm_M_is d_M_run_4 rfl rfl (Nat.le_of_ble_eq_true rfl) ?_
  rintro _ _ ⟨rfl, rfl⟩
  refine jx_eq (st2 := [.inl 0]) rfl rfl rfl ?_
  refine jx_if_ne 12 d_M_run_7 (by decide) (fun h => absurd h (by decide)) (fun _ => ?_)
  refine jx_of (fun _ _ kz => jw_iconst (-1) d_M_run_10 (by decide) kz) ?_
  refine jx_iret d_M_run_11 rfl ?_
  exact ⟨_, nt, rfl, hJ, pf_rf⟩
set_option maxRecDepth 20000 in
set_option maxHeartbeats 4000000 in
theorem z_M_run_loop {G : Gt} {M : Me} (d n np : Nat) (hn : n ≤ 30) (c0 s0 : Nat) : ∀ (m i : Nat) (M1 : Me) (mn : Int32) (o4 : Option AV) (nt1 : Nat), i + m = n → mJ M1 np nt1 → pf M M1 → jx G yt_M_run (d + 11) c0 s0 M1 16 [some (.inr (some (7, 0))), some (.inl (nI n)), some (.inl mn), some (.inl (nI i)), o4] [] (fun r M' => ∃ (v : Int32) (nt' : Nat), r = some (.inl v) ∧ mJ M' np nt' ∧ pf M M') := by
  intro m
  induction m with
  | zero =>
    intro i M1 mn o4 nt1 hk h1 g1
    refine jx_of (fun _ _ kz => jw_iload_n 3 d_M_run_16 rfl rfl kz) ?_
    refine jx_of (fun _ _ kz => jw_iload_n 1 d_M_run_17 rfl rfl kz) ?_
    refine jx_icmp_ge 57 d_M_run_18 (by decide) (fun _ => ?_) (fun h => absurd (nI_le (by omega) (by omega)) h)
    refine jx_of (fun _ _ kz => jw_iload_n 2 d_M_run_57 rfl rfl kz) ?_
    refine jx_iret d_M_run_58 rfl ?_
    exact ⟨_, nt1, rfl, h1, g1⟩
  | succ m ih =>
    intro i M1 mn o4 nt1 hk h1 g1
    refine jx_of (fun _ _ kz => jw_iload_n 3 d_M_run_16 rfl rfl kz) ?_
    refine jx_of (fun _ _ kz => jw_iload_n 1 d_M_run_17 rfl rfl kz) ?_
    refine jx_icmp_ge 57 d_M_run_18 (by decide) (fun h => absurd h (nI_ge (by omega) (by omega))) (fun _ => ?_)
    refine jx_of (fun _ _ kz => jw_aload_n 0 d_M_run_21 rfl rfl kz) ?_
    refine jx_of (fun _ _ kz => jw_aload_n 0 d_M_run_22 rfl rfl kz) ?_
    refine jx_of (fun _ _ kz => jw_getIe (_) fl_M_220 d_M_run_23 rfl rfl rfl kz) ?_
    refine jx_callV (z_M_turn d _ np nt1 h1) mt_M_turn cf_M rfl rfl ml_M_223 im_M_turn se_M_turn d_M_run_26 rfl rfl (Nat.le_of_ble_eq_true rfl) ?_
    rintro _ M2 ⟨rv, nt2, rfl, h2, g2⟩
    obtain ⟨x2, hx2, e2⟩ := h2.2.2
    refine jx_eq (st2 := [.inl rv]) rfl rfl rfl ?_
    refine jx_of (fun _ _ kz => jw_istore d_M_run_29 (Nat.le_of_ble_eq_true rfl) kz) ?_
    dsimp only [List.set]
    refine jx_of (fun _ _ kz => jw_iload d_M_run_31 rfl kz) ?_
    refine jx_if_lt 39 d_M_run_33 (by decide) (fun b_33 => ?_) (fun b_33 => ?_)
    · skip
      refine jx_of (fun _ _ kz => jw_aload_n 0 d_M_run_39 rfl rfl kz) ?_
      refine jx_of (fun _ _ kz => jw_aload_n 0 d_M_run_40 rfl rfl kz) ?_
      refine jx_of (fun _ _ kz => jw_getIe (nI x2) fl_M_220 d_M_run_41 rfl rfl e2 kz) ?_
      refine jx_of (fun _ _ kz => jw_iconst 1 d_M_run_44 (by decide) kz) ?_
      refine jx_of (fun _ _ kz => jw_iadd d_M_run_45 kz) ?_
      rw [show ((nI x2) + 1 : Int32) = nI (x2 + 1) from nI_1 _]
      refine jx_of (fun _ _ kz => jw_iconst 3 d_M_run_46 (by decide) kz) ?_
      refine jx_of (fun _ _ kz => jw_irem d_M_run_47 (by decide) kz) ?_
      rw [show ((nI (x2 + 1)) - (nI (x2 + 1)) / 3 * 3 : Int32) = nI ((x2 + 1) % 3) from pk_rem (by omega) (by decide) (by decide)]
      refine jx_of (fun _ _ kz => jw_putI fl_M_220 (Or.inl rfl) rfl rfl d_M_run_48 rfl rfl kz) ?_
      refine jx_of (fun _ _ kz => jw_iincc 1 d_M_run_51 (by decide) rfl (Nat.le_of_ble_eq_true rfl) kz) ?_
      dsimp only [List.set]
      refine jx_of (fun _ _ kz => jw_goto 16 d_M_run_54 (by decide) kz) ?_
      rw [nI_1]
      exact ih (i + 1) _ _ _ nt2 (by omega) ⟨mI_any h2.1 (by omega), (mx_ne (by omega)).trans h2.2.1, _, (by omega : (x2 + 1) % 3 < 3), by simp [me_I_sI]⟩ (pf_sI (pf_tr g1 g2) (by omega))
    · skip
      refine jx_of (fun _ _ kz => jw_iincc 1 d_M_run_36 (by decide) rfl (Nat.le_of_ble_eq_true rfl) kz) ?_
      dsimp only [List.set]
      refine jx_of (fun _ _ kz => jw_aload_n 0 d_M_run_39 rfl rfl kz) ?_
      refine jx_of (fun _ _ kz => jw_aload_n 0 d_M_run_40 rfl rfl kz) ?_
      refine jx_of (fun _ _ kz => jw_getIe (nI x2) fl_M_220 d_M_run_41 rfl rfl e2 kz) ?_
      refine jx_of (fun _ _ kz => jw_iconst 1 d_M_run_44 (by decide) kz) ?_
      refine jx_of (fun _ _ kz => jw_iadd d_M_run_45 kz) ?_
      rw [show ((nI x2) + 1 : Int32) = nI (x2 + 1) from nI_1 _]
      refine jx_of (fun _ _ kz => jw_iconst 3 d_M_run_46 (by decide) kz) ?_
      refine jx_of (fun _ _ kz => jw_irem d_M_run_47 (by decide) kz) ?_
      rw [show ((nI (x2 + 1)) - (nI (x2 + 1)) / 3 * 3 : Int32) = nI ((x2 + 1) % 3) from pk_rem (by omega) (by decide) (by decide)]
      refine jx_of (fun _ _ kz => jw_putI fl_M_220 (Or.inl rfl) rfl rfl d_M_run_48 rfl rfl kz) ?_
      refine jx_of (fun _ _ kz => jw_iincc 1 d_M_run_51 (by decide) rfl (Nat.le_of_ble_eq_true rfl) kz) ?_
      dsimp only [List.set]
      refine jx_of (fun _ _ kz => jw_goto 16 d_M_run_54 (by decide) kz) ?_
      rw [nI_1]
      exact ih (i + 1) _ _ _ nt2 (by omega) ⟨mI_any h2.1 (by omega), (mx_ne (by omega)).trans h2.2.1, _, (by omega : (x2 + 1) % 3 < 3), by simp [me_I_sI]⟩ (pf_sI (pf_tr g1 g2) (by omega))
set_option maxRecDepth 20000 in
set_option maxHeartbeats 4000000 in
theorem z_M_run_t {G : Gt} {M : Me} (d : Nat) (n : Nat) (np : Nat) (nt : Nat) (hJ : mJ M np nt) (hn : n ≤ 30) (h1 : ¬ nI n < 1) (h2 : ¬ 30 < nI n) : sx G yt_M_run yn_M_run (d + 11) [.inr (some (7, 0)), .inl (nI n)] M (fun r M' => ∃ (v : Int32) (nt' : Nat), r = some (.inl v) ∧ mJ M' np nt' ∧ pf M M') := by
  refine sx_of (k := 3) (lc := [some (.inr (some (7, 0))), some (.inl (nI n)), none, none, none]) mt_M_run (Nat.le_of_ble_eq_true rfl) rfl ?_
  refine jx_of (fun _ _ kz => jw_iload_n 1 d_M_run_0 rfl rfl kz) ?_
  refine jx_of (fun _ _ kz => jw_iconst 1 d_M_run_1 (by decide) kz) ?_
  refine jx_of (fun _ _ kz => jw_bipush 30 d_M_run_2 (by decide) kz) ?_
  refine jx_callS (x_M_is_t (d + 9) ((nI n)) 1 30  h1 h2) mt_M_is ml_M_93 sm_M_is d_M_run_4 rfl rfl (Nat.le_of_ble_eq_true rfl) ?_
  rintro _ _ ⟨rfl, rfl⟩
  refine jx_eq (st2 := [.inl 1]) rfl rfl rfl ?_
  refine jx_if_ne 12 d_M_run_7 (by decide) (fun _ => ?_) (fun h => absurd h (by decide))
  refine jx_of (fun _ _ kz => jw_iconst 0 d_M_run_12 (by decide) kz) ?_
  refine jx_of (fun _ _ kz => jw_istore_n 2 d_M_run_13 rfl (Nat.le_of_ble_eq_true rfl) kz) ?_
  dsimp only [List.set]
  refine jx_of (fun _ _ kz => jw_iconst 0 d_M_run_14 (by decide) kz) ?_
  refine jx_of (fun _ _ kz => jw_istore_n 3 d_M_run_15 rfl (Nat.le_of_ble_eq_true rfl) kz) ?_
  dsimp only [List.set]
  exact z_M_run_loop d n np hn _ _ n 0 M 0 none nt (by omega) hJ pf_rf
theorem lt01 {u : Int32} (h : ¬ u < 1) : ¬ u < 0 := fun q => by
  apply h
  rw [Int32.lt_iff_toInt_lt] at q ⊢
  have a : (0 : Int32).toInt = 0 := by decide
  have b : (1 : Int32).toInt = 1 := by decide
  omega
theorem z_M_run {G : Gt} {M : Me} (d : Nat) (u : Int32) (np nt : Nat) (hJ : mJ M np nt) : sx G yt_M_run yn_M_run (d + 11) [.inr (some (7, 0)), .inl u] M (fun r M' => ∃ (v : Int32) (nt' : Nat), r = some (.inl v) ∧ mJ M' np nt' ∧ pf M M') := by
  rcases r01 u 1 30 with h | ⟨h1, h2⟩
  · exact z_M_run_f d u np nt hJ h
  · obtain ⟨j, hj, rfl⟩ := r_of (n := 30) (by decide) (lt01 h1) h2
    exact z_M_run_t d j np nt hJ (by omega) h1 h2
set_option maxRecDepth 20000 in
set_option maxHeartbeats 4000000 in
theorem z_M_spawn_f {G : Gt} {M : Me} (d : Nat) (u : Int32) (np : Nat) (nt : Nat) (hJ : mJ M np nt) (hu : u < 0 ∨ nI np - 1 < u) : sx G yt_M_spawn yn_M_spawn (d + 6) [.inr (some (7, 0)), .inl u] M (fun r M' => ∃ (v : Int32) (nt' : Nat), r = some (.inl v) ∧ mJ M' np nt' ∧ pf M M') := by
  refine sx_of (k := 0) (lc := [some (.inr (some (7, 0))), some (.inl u)]) mt_M_spawn (Nat.le_of_ble_eq_true rfl) rfl ?_
  refine jx_of (fun _ _ kz => jw_iload_n 1 d_M_spawn_0 rfl rfl kz) ?_
  refine jx_of (fun _ _ kz => jw_iconst 0 d_M_spawn_1 (by decide) kz) ?_
  refine jx_of (fun _ _ kz => jw_aload_n 0 d_M_spawn_2 rfl rfl kz) ?_
  refine jx_of (fun _ _ kz => jw_getIe (nI np) fl_M_105 d_M_spawn_3 rfl rfl hJ.1.2.1.1 kz) ?_
  refine jx_of (fun _ _ kz => jw_iconst 1 d_M_spawn_6 (by decide) kz) ?_
  refine jx_of (fun _ _ kz => jw_isub d_M_spawn_7 kz) ?_
  refine jx_callS (x_M_is_f (d + 4) u 0 (((nI np) - 1))  hu) mt_M_is ml_M_93 sm_M_is d_M_spawn_8 rfl rfl (Nat.le_of_ble_eq_true rfl) ?_
  rintro _ _ ⟨rfl, rfl⟩
  refine jx_eq (st2 := [.inl 0]) rfl rfl rfl ?_
  refine jx_if_ne 16 d_M_spawn_11 (by decide) (fun h => absurd h (by decide)) (fun _ => ?_)
  refine jx_of (fun _ _ kz => jw_iconst (-1) d_M_spawn_14 (by decide) kz) ?_
  refine jx_iret d_M_spawn_15 rfl ?_
  exact ⟨_, nt, rfl, hJ, pf_rf⟩
set_option maxRecDepth 20000 in
set_option maxHeartbeats 4000000 in
theorem z_M_spawn_t {G : Gt} {M : Me} (d : Nat) (p : Nat) (np : Nat) (nt : Nat) (hJ : mJ M np nt) (hp : p < np) (h1 : ¬ nI p < 0) (h2 : ¬ nI np - 1 < nI p) : sx G yt_M_spawn yn_M_spawn (d + 6) [.inr (some (7, 0)), .inl (nI p)] M (fun r M' => ∃ (v : Int32) (nt' : Nat), r = some (.inl v) ∧ mJ M' np nt' ∧ pf M M') := by
  refine sx_of (k := 0) (lc := [some (.inr (some (7, 0))), some (.inl (nI p))]) mt_M_spawn (Nat.le_of_ble_eq_true rfl) rfl ?_
  refine jx_of (fun _ _ kz => jw_iload_n 1 d_M_spawn_0 rfl rfl kz) ?_
  refine jx_of (fun _ _ kz => jw_iconst 0 d_M_spawn_1 (by decide) kz) ?_
  refine jx_of (fun _ _ kz => jw_aload_n 0 d_M_spawn_2 rfl rfl kz) ?_
  refine jx_of (fun _ _ kz => jw_getIe (nI np) fl_M_105 d_M_spawn_3 rfl rfl hJ.1.2.1.1 kz) ?_
  refine jx_of (fun _ _ kz => jw_iconst 1 d_M_spawn_6 (by decide) kz) ?_
  refine jx_of (fun _ _ kz => jw_isub d_M_spawn_7 kz) ?_
  refine jx_callS (x_M_is_t (d + 4) ((nI p)) 0 (((nI np) - 1))  h1 h2) mt_M_is ml_M_93 sm_M_is d_M_spawn_8 rfl rfl (Nat.le_of_ble_eq_true rfl) ?_
  rintro _ _ ⟨rfl, rfl⟩
  refine jx_eq (st2 := [.inl 1]) rfl rfl rfl ?_
  refine jx_if_ne 16 d_M_spawn_11 (by decide) (fun _ => ?_) (fun h => absurd h (by decide))
  refine jx_of (fun _ _ kz => jw_aload_n 0 d_M_spawn_16 rfl rfl kz) ?_
  refine jx_of (fun _ _ kz => jw_getIe (nI nt) fl_M_112 d_M_spawn_17 rfl rfl hJ.1.2.2.1.1 kz) ?_
  refine jx_of (fun _ _ kz => jw_bipush 12 d_M_spawn_20 (by decide) kz) ?_
  refine jx_icmp_ne 30 d_M_spawn_22 (by decide) (fun b_22 => ?_) (fun b_22 => ?_)
  · skip
    refine jx_of (fun _ _ kz => jw_aload_n 0 d_M_spawn_30 rfl rfl kz) ?_
    refine jx_of (fun _ _ kz => jw_iload_n 1 d_M_spawn_31 rfl rfl kz) ?_
    refine jx_callV (z_M_make d p np nt ([]) hJ.1  hp (by have := hJ.1.2.2.1.2.1; rcases Nat.lt_or_ge nt 12 with q | q; exact q; exact absurd (by rw [show nt = 12 by omega]; rfl) b_22)) mt_M_make cf_M rfl rfl ml_M_189 im_M_make se_M_make d_M_spawn_32 rfl rfl (Nat.le_of_ble_eq_true rfl) ?_
    rintro _ M1 ⟨rfl, h1x⟩
    refine jx_eq (st2 := [.inl (nI nt)]) rfl rfl rfl ?_
    refine jx_iret d_M_spawn_35 rfl ?_
    first | exact ⟨_, nt, rfl, hJ, pf_rf⟩ | exact ⟨_, nt + 1, rfl, mJ_iw hJ (iw_iv h1x), pf_fw (iw_iv h1x).2.2.1⟩
  · skip
    refine jx_of (fun _ _ kz => jw_bipush (-2) d_M_spawn_25 (by decide) kz) ?_
    refine jx_of (fun _ _ kz => jw_goto 35 d_M_spawn_27 (by decide) kz) ?_
    refine jx_iret d_M_spawn_35 rfl ?_
    first | exact ⟨_, nt, rfl, hJ, pf_rf⟩ | exact ⟨_, nt + 1, rfl, mJ_iw hJ (iw_iv h1x), pf_fw (iw_iv h1x).2.2.1⟩
theorem z_M_spawn {G : Gt} {M : Me} (d : Nat) (u : Int32) (np nt : Nat) (hJ : mJ M np nt) : sx G yt_M_spawn yn_M_spawn (d + 6) [.inr (some (7, 0)), .inl u] M (fun r M' => ∃ (v : Int32) (nt' : Nat), r = some (.inl v) ∧ mJ M' np nt' ∧ pf M M') := by
  rcases rng u np (by have := hJ.1.2.1.2.1; omega) with h | ⟨j, hj, rfl, h1, h2⟩
  · exact z_M_spawn_f d u np nt hJ h
  · exact z_M_spawn_t d j np nt hJ hj h1 h2
set_option maxRecDepth 20000 in
set_option maxHeartbeats 4000000 in
theorem z_M_put_f {G : Gt} {M : Me} (d : Nat) (g : Int32) (k : Int32) (np : Nat) (nt : Nat) (hJ : mJ M np nt) (hu : g < 0 ∨ 1 < g) : sx G yt_M_put yn_M_put (d + 6) [.inr (some (7, 0)), .inl g, .inl k] M (fun r M' => ∃ (v : Int32) (nt' : Nat), r = some (.inl v) ∧ mJ M' np nt' ∧ pf M M') := by
  refine sx_of (k := 0) (lc := [some (.inr (some (7, 0))), some (.inl g), some (.inl k)]) mt_M_put (Nat.le_of_ble_eq_true rfl) rfl ?_
  refine jx_of (fun _ _ kz => jw_iload_n 1 d_M_put_0 rfl rfl kz) ?_
  refine jx_of (fun _ _ kz => jw_iconst 0 d_M_put_1 (by decide) kz) ?_
  refine jx_of (fun _ _ kz => jw_iconst 1 d_M_put_2 (by decide) kz) ?_
  refine jx_callS (x_M_is_f (d + 4) g 0 1  hu) mt_M_is ml_M_93 sm_M_is d_M_put_3 rfl rfl (Nat.le_of_ble_eq_true rfl) ?_
  rintro _ _ ⟨rfl, rfl⟩
  refine jx_eq (st2 := [.inl 0]) rfl rfl rfl ?_
  refine jx_if_eq 19 d_M_put_6 (by decide) (fun _ => ?_) (fun h => absurd h (by decide))
  refine jx_of (fun _ _ kz => jw_iconst (-1) d_M_put_19 (by decide) kz) ?_
  refine jx_iret d_M_put_20 rfl ?_
  exact ⟨_, nt, rfl, hJ, pf_rf⟩
set_option maxRecDepth 20000 in
set_option maxHeartbeats 4000000 in
theorem z_M_put_f2 {G : Gt} {M : Me} (d : Nat) (g : Int32) (k : Int32) (np : Nat) (nt : Nat) (hJ : mJ M np nt) (h1 : ¬ g < 0) (h2 : ¬ 1 < g) (hu : k < 1 ∨ 9 < k) : sx G yt_M_put yn_M_put (d + 6) [.inr (some (7, 0)), .inl g, .inl k] M (fun r M' => ∃ (v : Int32) (nt' : Nat), r = some (.inl v) ∧ mJ M' np nt' ∧ pf M M') := by
  refine sx_of (k := 0) (lc := [some (.inr (some (7, 0))), some (.inl g), some (.inl k)]) mt_M_put (Nat.le_of_ble_eq_true rfl) rfl ?_
  refine jx_of (fun _ _ kz => jw_iload_n 1 d_M_put_0 rfl rfl kz) ?_
  refine jx_of (fun _ _ kz => jw_iconst 0 d_M_put_1 (by decide) kz) ?_
  refine jx_of (fun _ _ kz => jw_iconst 1 d_M_put_2 (by decide) kz) ?_
  refine jx_callS (x_M_is_t (d + 4) g 0 1  h1 h2) mt_M_is ml_M_93 sm_M_is d_M_put_3 rfl rfl (Nat.le_of_ble_eq_true rfl) ?_
  rintro _ _ ⟨rfl, rfl⟩
  refine jx_eq (st2 := [.inl 1]) rfl rfl rfl ?_
  refine jx_if_eq 19 d_M_put_6 (by decide) (fun h => absurd h (by decide)) (fun _ => ?_)
  refine jx_of (fun _ _ kz => jw_iload_n 2 d_M_put_9 rfl rfl kz) ?_
  refine jx_of (fun _ _ kz => jw_iconst 1 d_M_put_10 (by decide) kz) ?_
  refine jx_of (fun _ _ kz => jw_bipush 9 d_M_put_11 (by decide) kz) ?_
  refine jx_callS (x_M_is_f (d + 4) k 1 9  hu) mt_M_is ml_M_93 sm_M_is d_M_put_13 rfl rfl (Nat.le_of_ble_eq_true rfl) ?_
  rintro _ _ ⟨rfl, rfl⟩
  refine jx_eq (st2 := [.inl 0]) rfl rfl rfl ?_
  refine jx_if_ne 21 d_M_put_16 (by decide) (fun h => absurd h (by decide)) (fun _ => ?_)
  refine jx_of (fun _ _ kz => jw_iconst (-1) d_M_put_19 (by decide) kz) ?_
  refine jx_iret d_M_put_20 rfl ?_
  exact ⟨_, nt, rfl, hJ, pf_rf⟩
set_option maxRecDepth 20000 in
set_option maxHeartbeats 4000000 in
theorem z_M_put_t {G : Gt} {M : Me} (d : Nat) (g : Nat) (k : Int32) (np : Nat) (nt : Nat) (hJ : mJ M np nt) (hg : g < 2) (h1 : ¬ nI g < 0) (h2 : ¬ 1 < nI g) (h3 : ¬ k < 1) (h4 : ¬ 9 < k) : sx G yt_M_put yn_M_put (d + 6) [.inr (some (7, 0)), .inl (nI g), .inl k] M (fun r M' => ∃ (v : Int32) (nt' : Nat), r = some (.inl v) ∧ mJ M' np nt' ∧ pf M M') := by
  refine sx_of (k := 0) (lc := [some (.inr (some (7, 0))), some (.inl (nI g)), some (.inl k)]) mt_M_put (Nat.le_of_ble_eq_true rfl) rfl ?_
  refine jx_of (fun _ _ kz => jw_iload_n 1 d_M_put_0 rfl rfl kz) ?_
  refine jx_of (fun _ _ kz => jw_iconst 0 d_M_put_1 (by decide) kz) ?_
  refine jx_of (fun _ _ kz => jw_iconst 1 d_M_put_2 (by decide) kz) ?_
  refine jx_callS (x_M_is_t (d + 4) ((nI g)) 0 1  h1 h2) mt_M_is ml_M_93 sm_M_is d_M_put_3 rfl rfl (Nat.le_of_ble_eq_true rfl) ?_
  rintro _ _ ⟨rfl, rfl⟩
  refine jx_eq (st2 := [.inl 1]) rfl rfl rfl ?_
  refine jx_if_eq 19 d_M_put_6 (by decide) (fun h => absurd h (by decide)) (fun _ => ?_)
  refine jx_of (fun _ _ kz => jw_iload_n 2 d_M_put_9 rfl rfl kz) ?_
  refine jx_of (fun _ _ kz => jw_iconst 1 d_M_put_10 (by decide) kz) ?_
  refine jx_of (fun _ _ kz => jw_bipush 9 d_M_put_11 (by decide) kz) ?_
  refine jx_callS (x_M_is_t (d + 4) k 1 9  h3 h4) mt_M_is ml_M_93 sm_M_is d_M_put_13 rfl rfl (Nat.le_of_ble_eq_true rfl) ?_
  rintro _ _ ⟨rfl, rfl⟩
  refine jx_eq (st2 := [.inl 1]) rfl rfl rfl ?_
  refine jx_if_ne 21 d_M_put_16 (by decide) (fun _ => ?_) (fun h => absurd h (by decide))
  refine jx_of (fun _ _ kz => jw_aload_n 0 d_M_put_21 rfl rfl kz) ?_
  refine jx_of (fun _ _ kz => jw_iload_n 1 d_M_put_22 rfl rfl kz) ?_
  refine jx_of (fun _ _ kz => jw_iload_n 2 d_M_put_23 rfl rfl kz) ?_
  refine jx_callV (z_M_add d g k np nt ([]) hJ.1  hg) mt_M_add cf_M rfl rfl ml_M_144 im_M_add se_M_add d_M_put_24 rfl rfl (Nat.le_of_ble_eq_true rfl) ?_
  rintro _ M1 ⟨rfl, h1x⟩
  refine jx_eq (st2 := []) rfl rfl rfl ?_
  refine jx_of (fun _ _ kz => jw_aload_n 0 d_M_put_27 rfl rfl kz) ?_
  refine jx_of (fun _ _ kz => jw_getPe (some (54, 0)) fl_M_83 d_M_put_28 rfl rfl (by simp [me_I_sI, me_I_sP, me_I_nx, me_P_sI, me_P_sP, me_P_nx, me_N_sI, me_N_sP, me_N_nx, me_L_sI, me_L_sP, me_L_nx, show me_P M1 7 0 25 = some (54, 0) from h1x.2.1.1.1 (7, 0, 25, 54, 0) (by decide)]) kz) ?_
  refine jx_of (fun _ _ kz => jw_iload_n 1 d_M_put_31 rfl rfl kz) ?_
  refine jx_of (fun _ _ kz => jw_ialde (_) d_M_put_32 rfl rfl (by rw [show me_L _ 54 0 = 2 from (by simp [me_I_sI, me_I_sP, me_I_nx, me_P_sI, me_P_sP, me_P_nx, me_N_sI, me_N_sP, me_N_nx, me_L_sI, me_L_sP, me_L_nx, show me_L M1 54 0 = 2 from h1x.2.1.1.2 (54, 0, 2) (by decide)])]; exact (vp_in_nI hg (by decide))) rfl kz) ?_
  refine jx_iret d_M_put_33 rfl ?_
  exact ⟨_, nt, rfl, mJ_iw hJ (iw_iv h1x), pf_fw (iw_iv h1x).2.2.1⟩
theorem z_M_put {G : Gt} {M : Me} (d : Nat) (u k : Int32) (np nt : Nat) (hJ : mJ M np nt) : sx G yt_M_put yn_M_put (d + 6) [.inr (some (7, 0)), .inl u, .inl k] M (fun r M' => ∃ (v : Int32) (nt' : Nat), r = some (.inl v) ∧ mJ M' np nt' ∧ pf M M') := by
  rcases r01 u 0 1 with h | ⟨h1, h2⟩
  · exact z_M_put_f d u k np nt hJ h
  · rcases r01 k 1 9 with h | ⟨h3, h4⟩
    · exact z_M_put_f2 d u k np nt hJ h1 h2 h
    · obtain ⟨j, hj, rfl⟩ := r_of (n := 1) (by decide) h1 h2
      exact z_M_put_t d j k np nt hJ (by omega) h1 h2 h3 h4
set_option maxRecDepth 20000 in
set_option maxHeartbeats 4000000 in
theorem z_M_wake_f {G : Gt} {M : Me} (d : Nat) (g : Int32) (np : Nat) (nt : Nat) (hJ : mJ M np nt) (hu : g < 0 ∨ 1 < g) : sx G yt_M_wake yn_M_wake (d + 6) [.inr (some (7, 0)), .inl g] M (fun r M' => ∃ (v : Int32) (nt' : Nat), r = some (.inl v) ∧ mJ M' np nt' ∧ pf M M') := by
  refine sx_of (k := 1) (lc := [some (.inr (some (7, 0))), some (.inl g), none]) mt_M_wake (Nat.le_of_ble_eq_true rfl) rfl ?_
  refine jx_of (fun _ _ kz => jw_iload_n 1 d_M_wake_0 rfl rfl kz) ?_
  refine jx_of (fun _ _ kz => jw_iconst 0 d_M_wake_1 (by decide) kz) ?_
  refine jx_of (fun _ _ kz => jw_iconst 1 d_M_wake_2 (by decide) kz) ?_
  refine jx_callS (x_M_is_f (d + 4) g 0 1  hu) mt_M_is ml_M_93 sm_M_is d_M_wake_3 rfl rfl (Nat.le_of_ble_eq_true rfl) ?_
  rintro _ _ ⟨rfl, rfl⟩
  refine jx_eq (st2 := [.inl 0]) rfl rfl rfl ?_
  refine jx_if_ne 11 d_M_wake_6 (by decide) (fun h => absurd h (by decide)) (fun _ => ?_)
  refine jx_of (fun _ _ kz => jw_iconst (-1) d_M_wake_9 (by decide) kz) ?_
  refine jx_iret d_M_wake_10 rfl ?_
  exact ⟨_, nt, rfl, hJ, pf_rf⟩
set_option maxRecDepth 20000 in
set_option maxHeartbeats 4000000 in
theorem z_M_wake_t {G : Gt} {M : Me} (d : Nat) (g : Nat) (np : Nat) (nt : Nat) (hJ : mJ M np nt) (hg : g < 2) (h1 : ¬ nI g < 0) (h2 : ¬ 1 < nI g) : sx G yt_M_wake yn_M_wake (d + 6) [.inr (some (7, 0)), .inl (nI g)] M (fun r M' => ∃ (v : Int32) (nt' : Nat), r = some (.inl v) ∧ mJ M' np nt' ∧ pf M M') := by
  refine sx_of (k := 1) (lc := [some (.inr (some (7, 0))), some (.inl (nI g)), none]) mt_M_wake (Nat.le_of_ble_eq_true rfl) rfl ?_
  refine jx_of (fun _ _ kz => jw_iload_n 1 d_M_wake_0 rfl rfl kz) ?_
  refine jx_of (fun _ _ kz => jw_iconst 0 d_M_wake_1 (by decide) kz) ?_
  refine jx_of (fun _ _ kz => jw_iconst 1 d_M_wake_2 (by decide) kz) ?_
  refine jx_callS (x_M_is_t (d + 4) ((nI g)) 0 1  h1 h2) mt_M_is ml_M_93 sm_M_is d_M_wake_3 rfl rfl (Nat.le_of_ble_eq_true rfl) ?_
  rintro _ _ ⟨rfl, rfl⟩
  refine jx_eq (st2 := [.inl 1]) rfl rfl rfl ?_
  refine jx_if_ne 11 d_M_wake_6 (by decide) (fun _ => ?_) (fun h => absurd h (by decide))
  refine jx_of (fun _ _ kz => jw_aload_n 0 d_M_wake_11 rfl rfl kz) ?_
  refine jx_of (fun _ _ kz => jw_iload_n 1 d_M_wake_12 rfl rfl kz) ?_
  refine jx_callV (z_M_give d g np nt ([]) hJ.1  hg) mt_M_give cf_M rfl rfl ml_M_147 im_M_give se_M_give d_M_wake_13 rfl rfl (Nat.le_of_ble_eq_true rfl) ?_
  rintro r M1 ⟨hr, h1x⟩
  obtain ⟨rv, rfl⟩ : ∃ v : Int32, r = some (.inl v) := by rcases hr with hr | hr; exact ⟨_, hr⟩; exact ⟨_, hr⟩
  refine jx_eq (st2 := [.inl rv]) rfl rfl rfl ?_
  refine jx_of (fun _ _ kz => jw_istore_n 2 d_M_wake_16 rfl (Nat.le_of_ble_eq_true rfl) kz) ?_
  dsimp only [List.set]
  refine jx_of (fun _ _ kz => jw_iload_n 2 d_M_wake_17 rfl rfl kz) ?_
  refine jx_if_eq 25 d_M_wake_18 (by decide) (fun b_18 => ?_) (fun b_18 => ?_)
  · skip
    refine jx_of (fun _ _ kz => jw_iconst 0 d_M_wake_25 (by decide) kz) ?_
    refine jx_iret d_M_wake_26 rfl ?_
    exact ⟨_, nt, rfl, mJ_iw hJ (iw_iv h1x), pf_fw (iw_iv h1x).2.2.1⟩
  · skip
    refine jx_of (fun _ _ kz => jw_iconst 1 d_M_wake_21 (by decide) kz) ?_
    refine jx_of (fun _ _ kz => jw_goto 26 d_M_wake_22 (by decide) kz) ?_
    refine jx_iret d_M_wake_26 rfl ?_
    exact ⟨_, nt, rfl, mJ_iw hJ (iw_iv h1x), pf_fw (iw_iv h1x).2.2.1⟩
theorem z_M_wake {G : Gt} {M : Me} (d : Nat) (u : Int32) (np nt : Nat) (hJ : mJ M np nt) : sx G yt_M_wake yn_M_wake (d + 6) [.inr (some (7, 0)), .inl u] M (fun r M' => ∃ (v : Int32) (nt' : Nat), r = some (.inl v) ∧ mJ M' np nt' ∧ pf M M') := by
  rcases r01 u 0 1 with h | ⟨h1, h2⟩
  · exact z_M_wake_f d u np nt hJ h
  · obtain ⟨j, hj, rfl⟩ := r_of (n := 1) (by decide) h1 h2
    exact z_M_wake_t d j np nt hJ (by omega) h1 h2
