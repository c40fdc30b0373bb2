def yq_P : List (Nat × Nat × Nat × Nat × Nat) := [(0, 0, 1, 17, 0), (0, 0, 3, 18, 0), (0, 0, 5, 19, 0), (0, 0, 6, 4, 3), (0, 0, 7, 4, 4), (0, 0, 8, 20, 0), (0, 0, 9, 21, 0), (19, 0, 0, 3, 0), (3, 0, 1, 4, 0), (19, 0, 1, 3, 1), (3, 1, 1, 4, 1), (19, 0, 2, 3, 2), (3, 2, 1, 4, 2), (20, 0, 0, 5, 0), (21, 0, 0, 6, 0), (5, 0, 0, 4, 5), (6, 0, 0, 4, 7), (20, 0, 1, 5, 1), (21, 0, 1, 6, 1), (5, 1, 0, 4, 6), (6, 1, 0, 4, 8)]
def yq_L : List (Nat × Nat × Nat) := [(17, 0, 6), (18, 0, 12), (19, 0, 3), (20, 0, 2), (21, 0, 2)]
/-- the class's fixed shape, its nine Rows whole -/
def yF (M : Me) : Prop := (∀ q ∈ yq_P, me_P M q.1 q.2.1 q.2.2.1 = some (q.2.2.2.1, q.2.2.2.2)) ∧ (∀ q ∈ yq_L, me_L M q.1 q.2.1 = q.2.2) ∧ ∀ i, i < 9 → rO M i
/-- the workers' numbers, whose turn is the next of run -/
def yW (M : Me) : Prop := (∀ w, w < 3 → me_I M 3 w 0 = nI w) ∧ ∃ x, x < 3 ∧ me_I M 0 0 13 = nI x
/-- its programs: the draft is the last Program -/
def yP (M : Me) (np : Nat) : Prop := np ≤ 6 ∧ me_I M 0 0 2 = nI np ∧ me_P M 0 0 0 = some (1, np) ∧ (∀ p, p < np → me_P M 17 0 p = some (1, p)) ∧ (∀ i, i ≤ np → ∃ n o, pO M i n o) ∧ yW M
def yT (M : Me) (np nt : Nat) : Prop := nt ≤ 12 ∧ me_I M 0 0 4 = nI nt ∧ ∀ t, t < nt → me_P M 18 0 t = some (2, t) ∧ ∃ p n o, p < np ∧ tO M t p n o
def yI (M : Me) (np nt : Nat) : Prop := yF M ∧ yP M np ∧ yT M np nt
/-- no object is made; programs, draft, counts and clock are left alone, and all that isn't the class's -/
def yk (M M' : Me) : Prop := sq M M' ∧ ∀ s j k, (s = 1 ∨ s = 11 ∨ s = 12 ∨ s = 13 ∨ (s = 0 ∧ (k = 2 ∨ k = 4 ∨ k = 10 ∨ k = 13)) ∨ (s = 3 ∧ k = 0) ∨ s = 7 ∨ 17 ≤ s) → me_I M' s j k = me_I M s j k
theorem yk_rf {M : Me} : yk M M := ⟨sq_rf, fun _ _ _ _ => rfl⟩
theorem yk_tr {M M1 M2 : Me} (h : yk M M1) (h2 : yk M1 M2) : yk M M2 := ⟨sq_tr h.1 h2.1, fun s j k q => (h2.2 s j k q).trans (h.2 s j k q)⟩
theorem yk_rc {i : Nat} {M M' : Me} (h : rc i M M') : yk M M' := ⟨h.1, fun s j k q => h.2 s j k (by omega) (by omega)⟩
theorem yk_tc {t : Nat} {M M' : Me} (h : tc t M M') : yk M M' := ⟨h.1, fun s j k q => h.2 s j k (by omega)⟩
theorem yk_sI {M M1 : Me} {s j k : Nat} {v : Int32} (h : yk M M1) (hs : (s = 3 ∧ k ≠ 0) ∨ s = 5 ∨ s = 6 ∨ (s = 0 ∧ (k = 11 ∨ k = 12))) : yk M (me_sI M1 s j k v) := ⟨sq_sI h.1, fun s' j' k' q => by rw [me_I_sI, if_neg (by omega)]; exact h.2 s' j' k' q⟩
theorem tO_yk {M M' : Me} {t p n : Nat} {o : Nat → Nat} (h : tO M t p n o) (k : yk M M') : tO M' t p n o := by
  refine ⟨?_, pO_o h.2 k.1 (fun s j q => k.2 s p j (by omega))⟩
  unfold tS; rw [k.1.1, k.1.2.1]; exact h.1
theorem yI_yk {M M' : Me} {np nt : Nat} (h : yI M np nt) (k : yk M M') (hr : ∀ i, i < 9 → rO M' i) : yI M' np nt := by
  obtain ⟨⟨a, b, _⟩, ⟨c1, c2, c3, c4, c5, c6, c7⟩, e1, e2, e3⟩ := h
  refine ⟨⟨by rw [k.1.1]; exact a, by rw [k.1.2.1]; exact b, hr⟩, ⟨c1, by rw [k.2 0 0 2 (by omega)]; exact c2, by rw [k.1.1]; exact c3, by rw [k.1.1]; exact c4, fun i hi => ?_, fun w hw => by rw [k.2 3 w 0 (by omega)]; exact c6 w hw, by rw [k.2 0 0 13 (by omega)]; exact c7⟩, e1, by rw [k.2 0 0 4 (by omega)]; exact e2, fun t ht => ⟨by rw [k.1.1]; exact (e3 t ht).1, ?_⟩⟩
  · obtain ⟨n, o, g⟩ := c5 i hi
    exact ⟨n, o, pO_o g k.1 (fun s j q => k.2 s i j (by omega))⟩
  · obtain ⟨p, n, o, g1, g2⟩ := (e3 t ht).2
    exact ⟨p, n, o, g1, tO_yk g2 k⟩
theorem yI_rc {M M' : Me} {np nt i : Nat} (h : yI M np nt) (k : rc i M M') (hi : rO M' i) : yI M' np nt := yI_yk h (yk_rc k) (fun j hj => rO_rc (h.1.2.2 j hj) k hi)
theorem rO_tc {t i : Nat} {M M' : Me} (h : rO M i) (k : tc t M M') : rO M' i := by
  refine ⟨by rw [k.1.1]; exact h.1, by rw [k.1.2.1]; exact h.2.1, ?_⟩
  rw [k.1.2.1, k.2 4 i 1 (by omega)]; exact h.2.2
theorem yI_tc {M M' : Me} {np nt t : Nat} (h : yI M np nt) (k : tc t M M') : yI M' np nt := yI_yk h (yk_tc k) (fun j hj => rO_tc (h.1.2.2 j hj) k)
set_option maxRecDepth 20000 in
set_option maxHeartbeats 4000000 in
theorem y_Y_taskAt_n {G : Gt} {M : Me} (d : Nat) (x : Int32) (np : Nat) (nt : Nat) (hY : yI M np nt) (hx : x < 0 ∨ nI nt ≤ x) : sx G yt_Y_taskAt yn_Y_taskAt (d + 1) [.inr (some (0, 0)), .inl x] M (fun r M' => r = some (.inr none) ∧ M = M') := by
  refine sx_of (k := 0) (lc := [some (.inr (some (0, 0))), some (.inl x)]) mt_Y_taskAt (Nat.le_of_ble_eq_true rfl) rfl ?_
  refine jx_of (fun _ _ kz => jw_iload_n 1 d_Y_taskAt_0 rfl rfl kz) ?_
  refine jx_if_lt 18 d_Y_taskAt_1 (by decide) (fun b_1 => ?_) (fun b_1 => ?_)
  · skip
    refine jx_of (fun _ _ kz => jw_null d_Y_taskAt_18 kz) ?_
    refine jx_of (fun _ _ kz => jw_goto 28 d_Y_taskAt_19 (by decide) kz) ?_
    refine jx_aret d_Y_taskAt_28 rfl ?_
    first | exact ⟨rfl, rfl⟩ | exact ⟨by simp [b_1], rfl⟩ | exact ⟨by simp_all, by simp_all⟩
  · skip
    refine jx_of (fun _ _ kz => jw_iload_n 1 d_Y_taskAt_4 rfl rfl kz) ?_
    refine jx_of (fun _ _ kz => jw_aload_n 0 d_Y_taskAt_5 rfl rfl kz) ?_
    refine jx_of (fun _ _ kz => jw_getIe (nI nt) fl_Y_30 d_Y_taskAt_6 rfl rfl hY.2.2.2.1 kz) ?_
    refine jx_icmp_ge 18 d_Y_taskAt_9 (by decide) (fun _ => ?_) (fun h => absurd (hx.resolve_left b_1) h)
    refine jx_of (fun _ _ kz => jw_null d_Y_taskAt_18 kz) ?_
    refine jx_of (fun _ _ kz => jw_goto 28 d_Y_taskAt_19 (by decide) kz) ?_
    refine jx_aret d_Y_taskAt_28 rfl ?_
    first | exact ⟨rfl, rfl⟩ | exact ⟨by simp [b_1], rfl⟩ | exact ⟨by simp_all, by simp_all⟩
set_option maxRecDepth 20000 in
set_option maxHeartbeats 4000000 in
theorem y_Y_taskAt_t {G : Gt} {M : Me} (d : Nat) (t : Nat) (np : Nat) (nt : Nat) (hY : yI M np nt) (f0 : me_P M 18 0 t = (some (2, t))) (ht : t < nt) : sx G yt_Y_taskAt yn_Y_taskAt (d + 1) [.inr (some (0, 0)), .inl (nI t)] M (fun r M' => r = some (.inr (some (2, t))) ∧ M = M') := by
  refine sx_of (k := 0) (lc := [some (.inr (some (0, 0))), some (.inl (nI t))]) mt_Y_taskAt (Nat.le_of_ble_eq_true rfl) rfl ?_
  have h12 := hY.2.2.1
  refine jx_of (fun _ _ kz => jw_iload_n 1 d_Y_taskAt_0 rfl rfl kz) ?_
  refine jx_if_lt 18 d_Y_taskAt_1 (by decide) (fun h => absurd h (nI_pos (by omega))) (fun _ => ?_)
  refine jx_of (fun _ _ kz => jw_iload_n 1 d_Y_taskAt_4 rfl rfl kz) ?_
  refine jx_of (fun _ _ kz => jw_aload_n 0 d_Y_taskAt_5 rfl rfl kz) ?_
  refine jx_of (fun _ _ kz => jw_getIe (nI nt) fl_Y_30 d_Y_taskAt_6 rfl rfl hY.2.2.2.1 kz) ?_
  refine jx_icmp_ge 18 d_Y_taskAt_9 (by decide) (fun h => absurd h (nI_ge (by omega) (by omega))) (fun _ => ?_)
  refine jx_of (fun _ _ kz => jw_iload_n 1 d_Y_taskAt_12 rfl rfl kz) ?_
  refine jx_of (fun _ _ kz => jw_bipush 12 d_Y_taskAt_13 (by decide) kz) ?_
  refine jx_icmp_lt 22 d_Y_taskAt_15 (by decide) (fun _ => ?_) (fun h => absurd (nI_lt (b := 12) (by omega) (by decide)) h)
  refine jx_of (fun _ _ kz => jw_aload_n 0 d_Y_taskAt_22 rfl rfl kz) ?_
  refine jx_of (fun _ _ kz => jw_getPe (some (18, 0)) fl_Y_26 d_Y_taskAt_23 rfl rfl (by simp [me_I_sI, me_I_sP, me_I_nx, me_P_sI, me_P_sP, me_P_nx, me_N_sI, me_N_sP, me_N_nx, me_L_sI, me_L_sP, me_L_nx, f0, show me_P M 0 0 3 = some (18, 0) from hY.1.1 (0, 0, 3, 18, 0) (by decide)]) kz) ?_
  refine jx_of (fun _ _ kz => jw_iload_n 1 d_Y_taskAt_26 rfl rfl kz) ?_
  refine jx_of (fun _ _ kz => jw_aalde (some (2, t)) d_Y_taskAt_27 rfl rfl (by rw [show me_L _ 18 0 = 12 from (by simp [me_I_sI, me_I_sP, me_I_nx, me_P_sI, me_P_sP, me_P_nx, me_N_sI, me_N_sP, me_N_nx, me_L_sI, me_L_sP, me_L_nx, f0, show me_L M 18 0 = 12 from hY.1.2.1 (18, 0, 12) (by decide)])]; exact (vp_in_nI (by omega) (by omega))) (by rw [nI_clamp (by omega)]; exact f0) kz) ?_
  refine jx_aret d_Y_taskAt_28 rfl ?_
  exact ⟨rfl, rfl⟩
theorem y_Y_taskAt {G : Gt} {M : Me} (d : Nat) (x : Int32) (np nt : Nat) (hY : yI M np nt) : sx G yt_Y_taskAt yn_Y_taskAt (d + 1) [.inr (some (0, 0)), .inl x] M (fun r M' => (r = some (.inr none) ∨ ∃ t, t < nt ∧ x = nI t ∧ r = some (.inr (some (2, t)))) ∧ M = M') := by
  by_cases h1 : x < 0
  · obtain ⟨r, M', a, b⟩ := y_Y_taskAt_n (G := G) d x np nt hY (Or.inl h1)
    exact ⟨r, M', a, Or.inl b.1, b.2⟩
  · by_cases h2 : nI nt ≤ x
    · obtain ⟨r, M', a, b⟩ := y_Y_taskAt_n (G := G) d x np nt hY (Or.inr h2)
      exact ⟨r, M', a, Or.inl b.1, b.2⟩
    · obtain ⟨j, hj, rfl⟩ := nI_of h1
      have hjn : j < nt := Nat.lt_of_not_le (fun q => h2 (nI_le q hj))
      obtain ⟨r, M', a, b⟩ := y_Y_taskAt_t (G := G) d j np nt hY (hY.2.2.2.2 j hjn).1 hjn
      exact ⟨r, M', a, Or.inr ⟨j, hjn, rfl, b.1⟩, b.2⟩
