theorem pN_sv {o : Nat} (h : o < 16) : sv_PARTS.getD (nI o).toNatClampNeg 0 = nI (pN o) := by
  rw [nI_clamp (by omega)]
  exact (by decide : ∀ o, o < 16 → sv_PARTS.getD o 0 = nI (pN o)) o h
def pS (M : Me) (i : Nat) : Prop := me_P M 1 i 0 = some (11, i) ∧ me_P M 1 i 1 = some (12, i) ∧ me_P M 1 i 2 = some (13, i) ∧ me_L M 11 i = 12 ∧ me_L M 12 i = 12 ∧ me_L M 13 i = 12
/-- Program i is whole: size n, ops o, its ends within its rows -/
def pO (M : Me) (i n : Nat) (o : Nat → Nat) : Prop := pS M i ∧ n ≤ 12 ∧ me_I M 1 i 3 = nI n ∧ (∀ k, k < n → o k < 16 ∧ me_I M 11 i k = nI (o k)) ∧ ∀ k, k < 12 → ∃ e, e ≤ 12 ∧ me_I M 13 i k = nI e
/-- only the ends of Program i are changed -/
def ec (i : Nat) (M M' : Me) : Prop := sq M M' ∧ ∀ s j k, ¬ (s = 13 ∧ j = i) → me_I M' s j k = me_I M s j k
theorem ec_rf {i : Nat} {M : Me} : ec i M M := ⟨sq_rf, fun _ _ _ _ => rfl⟩
theorem ec_st {i k : Nat} {v : Int32} {M M1 : Me} (h : ec i M M1) : ec i M (me_sI M1 13 i k v) := ⟨sq_sI h.1, fun s j k' a => by rw [me_I_sI, if_neg (fun e => a ⟨e.1, e.2.1⟩)]; exact h.2 s j k' a⟩
theorem pO_st {M : Me} {i n k e : Nat} {o : Nat → Nat} (h : pO M i n o) (he : e ≤ 12) : pO (me_sI M 13 i k (nI e)) i n o := by
  obtain ⟨a, b, c, f, g⟩ := h
  refine ⟨a, b, by rw [me_I_sI, if_neg (by omega)]; exact c, fun j hj => by rw [me_I_sI, if_neg (by omega)]; exact f j hj, fun j hj => ?_⟩
  rw [me_I_sI]
  split
  · exact ⟨e, he, rfl⟩
  · exact g j hj
set_option maxRecDepth 20000 in
set_option maxHeartbeats 4000000 in
theorem y_P_has {G : Gt} {M : Me} (d : Nat) (i : Nat) (n : Nat) (o : Nat → Nat) (x : Int32) (hP : pO M i n o) : sx G yt_P_has yn_P_has (d + 1) [.inr (some (1, i)), .inl x] M (fun r M' => (r = some (.inl 0) ∨ (r = some (.inl 1) ∧ ∃ j, j < n ∧ x = nI j)) ∧ M = M') := by
  refine sx_of (k := 0) (lc := [some (.inr (some (1, i))), some (.inl x)]) mt_P_has (Nat.le_of_ble_eq_true rfl) rfl ?_
  refine jx_of (fun _ _ kz => jw_iload_n 1 d_P_has_0 rfl rfl kz) ?_
  refine jx_if_lt 16 d_P_has_1 (by decide) (fun b_1 => ?_) (fun b_1 => ?_)
  · skip
    refine jx_of (fun _ _ kz => jw_iconst 0 d_P_has_16 (by decide) kz) ?_
    refine jx_zret d_P_has_17 rfl (by decide) ?_
    first | exact ⟨Or.inl rfl, rfl⟩ | exact ⟨Or.inr ⟨rfl, by obtain ⟨j, hj, rfl⟩ := nI_of b_1; exact ⟨j, Nat.lt_of_not_le (fun q => b_9 (nI_le q hj)), rfl⟩⟩, rfl⟩
  · skip
    refine jx_of (fun _ _ kz => jw_iload_n 1 d_P_has_4 rfl rfl kz) ?_
    refine jx_of (fun _ _ kz => jw_aload_n 0 d_P_has_5 rfl rfl kz) ?_
    refine jx_of (fun _ _ kz => jw_getIe (nI n) fl_P_21 d_P_has_6 rfl rfl hP.2.2.1 kz) ?_
    refine jx_icmp_ge 16 d_P_has_9 (by decide) (fun b_9 => ?_) (fun b_9 => ?_)
    · skip
      refine jx_of (fun _ _ kz => jw_iconst 0 d_P_has_16 (by decide) kz) ?_
      refine jx_zret d_P_has_17 rfl (by decide) ?_
      first | exact ⟨Or.inl rfl, rfl⟩ | exact ⟨Or.inr ⟨rfl, by obtain ⟨j, hj, rfl⟩ := nI_of b_1; exact ⟨j, Nat.lt_of_not_le (fun q => b_9 (nI_le q hj)), rfl⟩⟩, rfl⟩
    · skip
      refine jx_of (fun _ _ kz => jw_iconst 1 d_P_has_12 (by decide) kz) ?_
      refine jx_of (fun _ _ kz => jw_goto 17 d_P_has_13 (by decide) kz) ?_
      refine jx_zret d_P_has_17 rfl (by decide) ?_
      first | exact ⟨Or.inl rfl, rfl⟩ | exact ⟨Or.inr ⟨rfl, by obtain ⟨j, hj, rfl⟩ := nI_of b_1; exact ⟨j, Nat.lt_of_not_le (fun q => b_9 (nI_le q hj)), rfl⟩⟩, rfl⟩
set_option maxRecDepth 20000 in
set_option maxHeartbeats 4000000 in
theorem y_P_endOf {G : Gt} {M : Me} (d : Nat) (i : Nat) (n : Nat) (o : Nat → Nat) (x : Int32) (hP : pO M i n o) : sx G yt_P_endOf yn_P_endOf (d + 2) [.inr (some (1, i)), .inl x] M (fun r M' => (∃ e, e ≤ 12 ∧ r = some (.inl (nI e))) ∧ M = M') := by
  refine sx_of (k := 0) (lc := [some (.inr (some (1, i))), some (.inl x)]) mt_P_endOf (Nat.le_of_ble_eq_true rfl) rfl ?_
  refine jx_of (fun _ _ kz => jw_aload_n 0 d_P_endOf_0 rfl rfl kz) ?_
  refine jx_of (fun _ _ kz => jw_iload_n 1 d_P_endOf_1 rfl rfl kz) ?_
  refine jx_callV (y_P_has d i n o x hP) mt_P_has cf_P rfl rfl ml_P_25 im_P_has se_P_has d_P_endOf_2 rfl rfl (Nat.le_of_ble_eq_true rfl) ?_
  rintro r _ ⟨hr, rfl⟩
  obtain ⟨rv, rfl, hrv⟩ : ∃ v : Int32, r = some (.inl v) ∧ (v = 0 ∨ ∃ j, j < n ∧ x = nI j) := by rcases hr with hr | ⟨hr, h2⟩; exact ⟨_, hr, Or.inl rfl⟩; exact ⟨_, hr, Or.inr h2⟩
  refine jx_eq (st2 := [.inl rv]) rfl rfl rfl ?_
  refine jx_if_eq 17 d_P_endOf_5 (by decide) (fun b_5 => ?_) (fun b_5 => ?_)
  · skip
    refine jx_of (fun _ _ kz => jw_aload_n 0 d_P_endOf_17 rfl rfl kz) ?_
    refine jx_of (fun _ _ kz => jw_getIe (nI n) fl_P_21 d_P_endOf_18 rfl rfl hP.2.2.1 kz) ?_
    refine jx_iret d_P_endOf_21 rfl ?_
    first | exact ⟨⟨e, he, rfl⟩, rfl⟩ | exact ⟨⟨n, hP.2.1, rfl⟩, rfl⟩
  · skip
    obtain ⟨j, hj, rfl⟩ := hrv.resolve_left b_5
    have h12 := hP.2.1
    obtain ⟨e, he, hee⟩ := hP.2.2.2.2 j (by omega)
    refine jx_of (fun _ _ kz => jw_aload_n 0 d_P_endOf_8 rfl rfl kz) ?_
    refine jx_of (fun _ _ kz => jw_getPe (some (13, i)) fl_P_18 d_P_endOf_9 rfl rfl (by simp [me_I_sI, me_I_sP, me_I_nx, me_P_sI, me_P_sP, me_P_nx, me_N_sI, me_N_sP, me_N_nx, me_L_sI, me_L_sP, me_L_nx, show me_P M 1 i 2 = some (13, i) from hP.1.2.2.1]) kz) ?_
    refine jx_of (fun _ _ kz => jw_iload_n 1 d_P_endOf_12 rfl rfl kz) ?_
    refine jx_of (fun _ _ kz => jw_ialde (nI e) d_P_endOf_13 rfl rfl (by rw [show me_L _ 13 i = 12 from (by simp [me_I_sI, me_I_sP, me_I_nx, me_P_sI, me_P_sP, me_P_nx, me_N_sI, me_N_sP, me_N_nx, me_L_sI, me_L_sP, me_L_nx, show me_L M 13 i = 12 from hP.1.2.2.2.2.2])]; exact (vp_in_nI (by omega) (by omega))) (by rw [nI_clamp (by omega)]; exact hee) kz) ?_
    refine jx_of (fun _ _ kz => jw_goto 21 d_P_endOf_14 (by decide) kz) ?_
    refine jx_iret d_P_endOf_21 rfl ?_
    first | exact ⟨⟨e, he, rfl⟩, rfl⟩ | exact ⟨⟨n, hP.2.1, rfl⟩, rfl⟩
set_option maxRecDepth 20000 in
set_option maxHeartbeats 4000000 in
theorem y_P_append_f {G : Gt} {M : Me} (d : Nat) (i : Nat) (n : Nat) (o : Nat → Nat) (x : Int32) (y : Int32) (hP : pO M i n o) (h12 : n = 12) : sx G yt_P_append yn_P_append (d + 1) [.inr (some (1, i)), .inl x, .inl y] M (fun r M' => r = some (.inl 0) ∧ M = M') := by
  refine sx_of (k := 0) (lc := [some (.inr (some (1, i))), some (.inl x), some (.inl y)]) mt_P_append (Nat.le_of_ble_eq_true rfl) rfl ?_
  refine jx_of (fun _ _ kz => jw_aload_n 0 d_P_append_0 rfl rfl kz) ?_
  refine jx_of (fun _ _ kz => jw_getIe (nI n) fl_P_21 d_P_append_1 rfl rfl hP.2.2.1 kz) ?_
  refine jx_of (fun _ _ kz => jw_bipush 12 d_P_append_4 (by decide) kz) ?_
  refine jx_icmp_lt 11 d_P_append_6 (by decide) (fun h => absurd h (by rw [h12]; decide)) (fun _ => ?_)
  refine jx_of (fun _ _ kz => jw_iconst 0 d_P_append_9 (by decide) kz) ?_
  refine jx_zret d_P_append_10 rfl (by decide) ?_
  exact ⟨rfl, rfl⟩
set_option maxRecDepth 20000 in
set_option maxHeartbeats 4000000 in
theorem y_P_append_t {G : Gt} {M : Me} (d : Nat) (i : Nat) (n : Nat) (o : Nat → Nat) (x : Int32) (y : Int32) (hP : pO M i n o) (h12 : n < 12) : sx G yt_P_append yn_P_append (d + 1) [.inr (some (1, i)), .inl x, .inl y] M (fun r M' => r = some (.inl 1) ∧ me_sI (me_sI (me_sI M 11 i n x) 12 i n y) 1 i 3 (nI (n + 1)) = M') := by
  refine sx_of (k := 0) (lc := [some (.inr (some (1, i))), some (.inl x), some (.inl y)]) mt_P_append (Nat.le_of_ble_eq_true rfl) rfl ?_
  refine jx_of (fun _ _ kz => jw_aload_n 0 d_P_append_0 rfl rfl kz) ?_
  refine jx_of (fun _ _ kz => jw_getIe (nI n) fl_P_21 d_P_append_1 rfl rfl (by first | exact hP.2.2.1 | (rw [me_I_sI, if_neg (by omega)]; exact hP.2.2.1) | (rw [me_I_sI, if_neg (by omega), me_I_sI, if_neg (by omega)]; exact hP.2.2.1)) kz) ?_
  refine jx_of (fun _ _ kz => jw_bipush 12 d_P_append_4 (by decide) kz) ?_
  refine jx_icmp_lt 11 d_P_append_6 (by decide) (fun _ => ?_) (fun h => absurd (nI_lt (b := 12) h12 (by decide)) h)
  refine jx_of (fun _ _ kz => jw_aload_n 0 d_P_append_11 rfl rfl kz) ?_
  refine jx_of (fun _ _ kz => jw_getPe (some (11, i)) fl_P_9 d_P_append_12 rfl rfl (by simp [me_I_sI, me_I_sP, me_I_nx, me_P_sI, me_P_sP, me_P_nx, me_N_sI, me_N_sP, me_N_nx, me_L_sI, me_L_sP, me_L_nx, show me_P M 1 i 0 = some (11, i) from hP.1.1]) kz) ?_
  refine jx_of (fun _ _ kz => jw_aload_n 0 d_P_append_15 rfl rfl kz) ?_
  refine jx_of (fun _ _ kz => jw_getIe (nI n) fl_P_21 d_P_append_16 rfl rfl (by first | exact hP.2.2.1 | (rw [me_I_sI, if_neg (by omega)]; exact hP.2.2.1) | (rw [me_I_sI, if_neg (by omega), me_I_sI, if_neg (by omega)]; exact hP.2.2.1)) kz) ?_
  refine jx_of (fun _ _ kz => jw_iload_n 1 d_P_append_19 rfl rfl kz) ?_
  refine jx_of (fun _ _ kz => jw_iast d_P_append_20 rfl rfl (by rw [show me_L _ 11 i = 12 from (by simp [me_I_sI, me_I_sP, me_I_nx, me_P_sI, me_P_sP, me_P_nx, me_N_sI, me_N_sP, me_N_nx, me_L_sI, me_L_sP, me_L_nx, show me_L M 11 i = 12 from hP.1.2.2.2.1])]; exact (vp_in_nI (by omega) (by omega))) kz) ?_
  rw [nI_clamp (by omega)]
  refine jx_of (fun _ _ kz => jw_aload_n 0 d_P_append_21 rfl rfl kz) ?_
  refine jx_of (fun _ _ kz => jw_getPe (some (12, i)) fl_P_15 d_P_append_22 rfl rfl (by simp [me_I_sI, me_I_sP, me_I_nx, me_P_sI, me_P_sP, me_P_nx, me_N_sI, me_N_sP, me_N_nx, me_L_sI, me_L_sP, me_L_nx, show me_P M 1 i 1 = some (12, i) from hP.1.2.1]) kz) ?_
  refine jx_of (fun _ _ kz => jw_aload_n 0 d_P_append_25 rfl rfl kz) ?_
  refine jx_of (fun _ _ kz => jw_getIe (nI n) fl_P_21 d_P_append_26 rfl rfl (by first | exact hP.2.2.1 | (rw [me_I_sI, if_neg (by omega)]; exact hP.2.2.1) | (rw [me_I_sI, if_neg (by omega), me_I_sI, if_neg (by omega)]; exact hP.2.2.1)) kz) ?_
  refine jx_of (fun _ _ kz => jw_iload_n 2 d_P_append_29 rfl rfl kz) ?_
  refine jx_of (fun _ _ kz => jw_iast d_P_append_30 rfl rfl (by rw [show me_L _ 12 i = 12 from (by simp [me_I_sI, me_I_sP, me_I_nx, me_P_sI, me_P_sP, me_P_nx, me_N_sI, me_N_sP, me_N_nx, me_L_sI, me_L_sP, me_L_nx, show me_L M 12 i = 12 from hP.1.2.2.2.2.1])]; exact (vp_in_nI (by omega) (by omega))) kz) ?_
  rw [nI_clamp (by omega)]
  refine jx_of (fun _ _ kz => jw_aload_n 0 d_P_append_31 rfl rfl kz) ?_
  refine jx_of (fun _ _ kz => jw_dup d_P_append_32 kz) ?_
  refine jx_of (fun _ _ kz => jw_getIe (nI n) fl_P_21 d_P_append_33 rfl rfl (by first | exact hP.2.2.1 | (rw [me_I_sI, if_neg (by omega)]; exact hP.2.2.1) | (rw [me_I_sI, if_neg (by omega), me_I_sI, if_neg (by omega)]; exact hP.2.2.1)) kz) ?_
  refine jx_of (fun _ _ kz => jw_iconst 1 d_P_append_36 (by decide) kz) ?_
  refine jx_of (fun _ _ kz => jw_iadd d_P_append_37 kz) ?_
  rw [show ((nI n) + 1 : Int32) = nI (n + 1) from nI_1 _]
  refine jx_of (fun _ _ kz => jw_putI fl_P_21 (Or.inl rfl) rfl rfl d_P_append_38 rfl rfl kz) ?_
  refine jx_of (fun _ _ kz => jw_iconst 1 d_P_append_41 (by decide) kz) ?_
  refine jx_zret d_P_append_42 rfl (by decide) ?_
  exact ⟨rfl, rfl⟩
set_option maxRecDepth 20000 in
set_option maxHeartbeats 4000000 in
theorem y_P_one_l {G : Gt} {M : Me} (d i n : Nat) (o : Nat → Nat) (hP : pO M i n o) (c0 s0 : Nat) : ∀ (m k e : Nat), k + m = n → (e : Int) = due o k → (∀ j, j < k → 1 ≤ due o j) → jx G yt_P_isOneFuture (d + 1) c0 s0 M 4 [some (.inr (some (1, i))), some (.inl (nI e)), some (.inl (nI k))] [] (fun r M' => ((¬ vld o n ∧ r = some (.inl 0)) ∨ (vld o n ∧ r = some (.inl 1))) ∧ M = M') := by
  have hd2 := hP.2.1
  intro m
  induction m with
  | zero =>
    intro k e hk he hge
    have hdu := due_le o k (by omega)
    refine jx_of (fun _ _ kz => jw_iload_n 2 d_P_isOneFuture_4 rfl rfl kz) ?_
    refine jx_of (fun _ _ kz => jw_aload_n 0 d_P_isOneFuture_5 rfl rfl kz) ?_
    refine jx_of (fun _ _ kz => jw_getIe (nI n) fl_P_21 d_P_isOneFuture_6 rfl rfl hP.2.2.1 kz) ?_
    refine jx_icmp_ge 39 d_P_isOneFuture_9 (by decide) (fun _ => ?_) (fun h => absurd (nI_le (by omega) (by omega)) h)
    refine jx_of (fun _ _ kz => jw_iload_n 1 d_P_isOneFuture_39 rfl rfl kz) ?_
    refine jx_if_ne 47 d_P_isOneFuture_40 (by decide) (fun b_40 => ?_) (fun b_40 => ?_)
    · skip
      refine jx_of (fun _ _ kz => jw_iconst 0 d_P_isOneFuture_47 (by decide) kz) ?_
      refine jx_zret d_P_isOneFuture_48 rfl (by decide) ?_
      first | exact ⟨Or.inl ⟨fun q => b_40 (by have := q.2; rw [show e = 0 by rw [show k = n by omega] at he; omega]; rfl), rfl⟩, rfl⟩ | exact ⟨Or.inr ⟨⟨fun j hj => hge j (by omega), by rw [show n = k by omega]; have h0 : e = 0 := (nI_eq (b := 0) (by omega) (by decide)).mp b_40; omega⟩, rfl⟩, rfl⟩
    · skip
      refine jx_of (fun _ _ kz => jw_iconst 1 d_P_isOneFuture_43 (by decide) kz) ?_
      refine jx_of (fun _ _ kz => jw_goto 48 d_P_isOneFuture_44 (by decide) kz) ?_
      refine jx_zret d_P_isOneFuture_48 rfl (by decide) ?_
      first | exact ⟨Or.inl ⟨fun q => b_40 (by have := q.2; rw [show e = 0 by rw [show k = n by omega] at he; omega]; rfl), rfl⟩, rfl⟩ | exact ⟨Or.inr ⟨⟨fun j hj => hge j (by omega), by rw [show n = k by omega]; have h0 : e = 0 := (nI_eq (b := 0) (by omega) (by decide)).mp b_40; omega⟩, rfl⟩, rfl⟩
  | succ m ih =>
    intro k e hk he hge
    have hdu := due_le o k (by omega)
    refine jx_of (fun _ _ kz => jw_iload_n 2 d_P_isOneFuture_4 rfl rfl kz) ?_
    refine jx_of (fun _ _ kz => jw_aload_n 0 d_P_isOneFuture_5 rfl rfl kz) ?_
    refine jx_of (fun _ _ kz => jw_getIe (nI n) fl_P_21 d_P_isOneFuture_6 rfl rfl hP.2.2.1 kz) ?_
    refine jx_icmp_ge 39 d_P_isOneFuture_9 (by decide) (fun h => absurd h (nI_ge (by omega) (by omega))) (fun _ => ?_)
    refine jx_of (fun _ _ kz => jw_iload_n 1 d_P_isOneFuture_12 rfl rfl kz) ?_
    refine jx_if_ne 18 d_P_isOneFuture_13 (by decide) (fun b_13 => ?_) (fun b_13 => ?_)
    · skip
      have he1 : 1 ≤ e := by rcases Nat.eq_zero_or_pos e with q | q; exact absurd (by rw [q]; rfl) b_13; exact q
      refine jx_of (fun _ _ kz => jw_iload_n 1 d_P_isOneFuture_18 rfl rfl kz) ?_
      refine jx_of (fun _ _ kz => jw_getsN (q := (22, "PARTS", sv_PARTS)) (by decide) (host := "PollYard") (by decide) d_P_isOneFuture_19 kz) ?_
      refine jx_of (fun _ _ kz => jw_aload_n 0 d_P_isOneFuture_22 rfl rfl kz) ?_
      refine jx_of (fun _ _ kz => jw_getPe (some (11, i)) fl_P_9 d_P_isOneFuture_23 rfl rfl (by simp [me_I_sI, me_I_sP, me_I_nx, me_P_sI, me_P_sP, me_P_nx, me_N_sI, me_N_sP, me_N_nx, me_L_sI, me_L_sP, me_L_nx, show me_P M 1 i 0 = some (11, i) from hP.1.1]) kz) ?_
      refine jx_of (fun _ _ kz => jw_iload_n 2 d_P_isOneFuture_26 rfl rfl kz) ?_
      refine jx_of (fun _ _ kz => jw_ialde (nI (o k)) d_P_isOneFuture_27 rfl rfl (by rw [show me_L _ 11 i = 12 from (by simp [me_I_sI, me_I_sP, me_I_nx, me_P_sI, me_P_sP, me_P_nx, me_N_sI, me_N_sP, me_N_nx, me_L_sI, me_L_sP, me_L_nx, show me_L M 11 i = 12 from hP.1.2.2.2.1])]; exact (vp_in_nI (by omega) (by omega))) (by rw [nI_clamp (by omega)]; exact (hP.2.2.2.1 k (by omega)).2) kz) ?_
      refine jx_of (fun _ _ kz => jw_ialdS (q := (22, "PARTS", sv_PARTS)) (by decide) d_P_isOneFuture_28 (vp_in_nI (hP.2.2.2.1 k (by omega)).1 (by decide)) kz) ?_
      rw [show (sv_PARTS.getD (nI (o k)).toNatClampNeg 0 : Int32) = nI (pN (o k)) from pN_sv (hP.2.2.2.1 k (by omega)).1]
      refine jx_of (fun _ _ kz => jw_iconst 1 d_P_isOneFuture_29 (by decide) kz) ?_
      refine jx_of (fun _ _ kz => jw_isub d_P_isOneFuture_30 kz) ?_
      refine jx_of (fun _ _ kz => jw_iadd d_P_isOneFuture_31 kz) ?_
      rw [show ((nI e) + ((nI (pN (o k))) - 1) : Int32) = nI (e + pN (o k) - 1) from nI_pm he1]
      refine jx_of (fun _ _ kz => jw_istore_n 1 d_P_isOneFuture_32 rfl (Nat.le_of_ble_eq_true rfl) kz) ?_
      dsimp only [List.set]
      refine jx_of (fun _ _ kz => jw_iincc 1 d_P_isOneFuture_33 (by decide) rfl (Nat.le_of_ble_eq_true rfl) kz) ?_
      dsimp only [List.set]
      refine jx_of (fun _ _ kz => jw_goto 4 d_P_isOneFuture_36 (by decide) kz) ?_
      rw [nI_1]
      exact ih (k + 1) (e + pN (o k) - 1) (by omega) (by rw [due_s]; omega) (fun j hj => by rcases Nat.lt_or_ge j k with q | q; exact hge j q; rw [show j = k by omega]; omega)
    · skip
      refine jx_of (fun _ _ kz => jw_iconst 0 d_P_isOneFuture_16 (by decide) kz) ?_
      refine jx_zret d_P_isOneFuture_17 rfl (by decide) ?_
      exact ⟨Or.inl ⟨fun q => by have h1 := q.1 k (by omega); have h2 : e = 0 := (nI_eq (b := 0) (by omega) (by decide)).mp b_13; omega, rfl⟩, rfl⟩
set_option maxRecDepth 20000 in
set_option maxHeartbeats 4000000 in
theorem y_P_isOneFuture {G : Gt} {M : Me} (d : Nat) (i : Nat) (n : Nat) (o : Nat → Nat) (hP : pO M i n o) : sx G yt_P_isOneFuture yn_P_isOneFuture (d + 1) [.inr (some (1, i))] M (fun r M' => ((¬ vld o n ∧ r = some (.inl 0)) ∨ (vld o n ∧ r = some (.inl 1))) ∧ M = M') := by
  refine sx_of (k := 2) (lc := [some (.inr (some (1, i))), none, none]) mt_P_isOneFuture (Nat.le_of_ble_eq_true rfl) rfl ?_
  refine jx_of (fun _ _ kz => jw_iconst 1 d_P_isOneFuture_0 (by decide) kz) ?_
  refine jx_of (fun _ _ kz => jw_istore_n 1 d_P_isOneFuture_1 rfl (Nat.le_of_ble_eq_true rfl) kz) ?_
  dsimp only [List.set]
  refine jx_of (fun _ _ kz => jw_iconst 0 d_P_isOneFuture_2 (by decide) kz) ?_
  refine jx_of (fun _ _ kz => jw_istore_n 2 d_P_isOneFuture_3 rfl (Nat.le_of_ble_eq_true rfl) kz) ?_
  dsimp only [List.set]
  exact y_P_one_l d i n o hP _ _ n 0 1 (by omega) rfl (fun j hj => by omega)
