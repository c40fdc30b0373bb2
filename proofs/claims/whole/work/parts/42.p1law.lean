def ma_1 : Me := me_nx ma_0 0 0 0 14
def ma_2 : Me := (me_sI (me_sI (me_sI (me_sI (me_sP (me_sP (me_sI (me_sP (me_sP (me_nx (me_sI (me_nx (me_nx (me_sP (me_sI (me_sP (me_sP (me_nx (me_sI (me_nx (me_nx (me_nx (me_sP (me_sP (me_sI (me_sP (me_sP (me_nx (me_sI (me_nx (me_nx (me_sP (me_sI (me_sP (me_sP (me_nx (me_sI (me_nx (me_nx (me_nx (me_sP (me_sP (me_nx (me_sI (me_nx (me_sP (me_sP (me_nx (me_sI (me_nx (me_sP (me_sP (me_sI (me_sI (me_sI (me_sI (me_sP (me_sP (me_nx (me_sI (me_nx (me_nx (me_sP (me_sI (me_sI (me_sI (me_sI (me_sP (me_sP (me_nx (me_sI (me_nx (me_nx (me_sP (me_sI (me_sI (me_sI (me_sI (me_sP (me_sP (me_nx (me_sI (me_nx (me_nx (me_nx (me_sI (me_sP (me_nx (me_sI (me_sP (me_nx (me_sP (me_sI (me_sP (me_nx (me_sP (me_nx (me_sP (me_nx (me_nx ma_1 1 0 0 4) 11 0 12 12) 1 0 0 (some (11, 0))) 12 0 12 12) 1 0 1 (some (12, 0))) 13 0 12 12) 1 0 2 (some (13, 0))) 1 0 3 (0)) 0 0 0 (some (1, 0))) 17 0 6 6) 0 0 1 (some (17, 0))) 0 0 2 (0)) 18 0 12 12) 0 0 3 (some (18, 0))) 0 0 4 (0)) 19 0 3 3) 3 0 0 5) 4 0 0 2) 4 0 1 (0)) 10 0 4 4) 4 0 0 (some (10, 0))) 3 0 1 (some (4, 0))) 3 0 2 ((-1))) 3 0 3 (0)) 3 0 4 (0)) 3 0 0 (0)) 19 0 0 (some (3, 0))) 3 1 0 5) 4 1 0 2) 4 1 1 (0)) 10 1 4 4) 4 1 0 (some (10, 1))) 3 1 1 (some (4, 1))) 3 1 2 ((-1))) 3 1 3 (0)) 3 1 4 (0)) 3 1 0 (1)) 19 0 1 (some (3, 1))) 3 2 0 5) 4 2 0 2) 4 2 1 (0)) 10 2 4 4) 4 2 0 (some (10, 2))) 3 2 1 (some (4, 2))) 3 2 2 ((-1))) 3 2 3 (0)) 3 2 4 (0)) 3 2 0 (2)) 19 0 2 (some (3, 2))) 0 0 5 (some (19, 0))) 4 3 0 2) 4 3 1 (0)) 10 3 12 12) 4 3 0 (some (10, 3))) 0 0 6 (some (4, 3))) 4 4 0 2) 4 4 1 (0)) 10 4 12 12) 4 4 0 (some (10, 4))) 0 0 7 (some (4, 4))) 20 0 2 2) 5 0 0 2) 4 5 0 2) 4 5 1 (0)) 10 5 144 144) 4 5 0 (some (10, 5))) 5 0 0 (some (4, 5))) 5 0 1 (1)) 20 0 0 (some (5, 0))) 5 1 0 2) 4 6 0 2) 4 6 1 (0)) 10 6 144 144) 4 6 0 (some (10, 6))) 5 1 0 (some (4, 6))) 5 1 1 (1)) 20 0 1 (some (5, 1))) 0 0 8 (some (20, 0))) 21 0 2 2) 6 0 0 2) 4 7 0 2) 4 7 1 (0)) 10 7 144 144) 4 7 0 (some (10, 7))) 6 0 0 (some (4, 7))) 6 0 1 (0)) 21 0 0 (some (6, 0))) 6 1 0 2) 4 8 0 2) 4 8 1 (0)) 10 8 144 144) 4 8 0 (some (10, 8))) 6 1 0 (some (4, 8))) 6 1 1 (0)) 21 0 1 (some (6, 1))) 0 0 9 (some (21, 0))) 0 0 10 (0)) 0 0 11 (0)) 0 0 12 (0)) 0 0 13 (0))
def ma_3 : Me := me_nx ma_2 7 0 0 36
def ma_4 : Me := (me_sI (me_sP (me_nx (me_sP (me_sI (me_sI (me_nx (me_sP (me_nx (me_sP (me_nx (me_sP (me_nx (me_sP (me_nx (me_sP (me_nx (me_sP (me_sI (me_sI (me_sI (me_nx (me_sP (me_nx (me_sP (me_nx (me_sP (me_nx (me_sP (me_nx (me_sP (me_nx (me_sP (me_nx (me_sP (me_nx (me_sP (me_nx (me_sP (me_nx (me_sP (me_nx (me_sP (me_nx (me_sP (me_nx (me_sP (me_nx (me_sP (me_nx (me_sP (me_nx (me_sP (me_nx (me_sP (me_nx (me_sP (me_nx ma_3 30 0 84 84) 7 0 0 (some (30, 0))) 31 0 84 84) 7 0 1 (some (31, 0))) 32 0 7 7) 7 0 2 (some (32, 0))) 33 0 12 12) 7 0 4 (some (33, 0))) 34 0 12 12) 7 0 5 (some (34, 0))) 35 0 12 12) 7 0 6 (some (35, 0))) 36 0 12 12) 7 0 7 (some (36, 0))) 37 0 12 12) 7 0 8 (some (37, 0))) 38 0 12 12) 7 0 9 (some (38, 0))) 39 0 12 12) 7 0 10 (some (39, 0))) 40 0 144 144) 7 0 11 (some (40, 0))) 41 0 144 144) 7 0 12 (some (41, 0))) 42 0 144 144) 7 0 13 (some (42, 0))) 43 0 144 144) 7 0 14 (some (43, 0))) 44 0 144 144) 7 0 15 (some (44, 0))) 45 0 144 144) 7 0 16 (some (45, 0))) 46 0 13 13) 7 0 17 (some (46, 0))) 47 0 13 13) 7 0 18 (some (47, 0))) 48 0 3 3) 48 0 0 ((-1))) 48 0 1 ((-1))) 48 0 2 ((-1))) 7 0 19 (some (48, 0))) 49 0 3 3) 7 0 20 (some (49, 0))) 50 0 3 3) 7 0 21 (some (50, 0))) 51 0 12 12) 7 0 22 (some (51, 0))) 52 0 3 3) 7 0 23 (some (52, 0))) 53 0 12 12) 7 0 24 (some (53, 0))) 54 0 2 2) 54 0 0 (1)) 54 0 1 (1)) 7 0 25 (some (54, 0))) 55 0 2 2) 7 0 26 (some (55, 0))) 7 0 35 ((-1)))
theorem ma_Y {G : Gt} (d : Nat) : sx G yt_Y_init yn_Y_init (d + 3) [.inr (some (0, 0))] ma_1 (fun r M' => r = none ∧ ma_2 = M') := x_Y_init d (by decide) (by decide) (by decide) (by decide) (by decide) (by decide) (by decide) (by decide) (by decide) (by decide) (by decide) (by decide) (by decide) (by decide)
theorem ma_M {G : Gt} (d : Nat) : sx G yt_M_init yn_M_init (d + 1) [.inr (some (7, 0))] ma_3 (fun r M' => r = none ∧ ma_4 = M') := x_M_init d (by decide +kernel) (by decide +kernel) (by decide +kernel) (by decide +kernel) (by decide +kernel) (by decide +kernel) (by decide +kernel) (by decide +kernel) (by decide +kernel) (by decide +kernel) (by decide +kernel) (by decide +kernel) (by decide +kernel) (by decide +kernel) (by decide +kernel) (by decide +kernel) (by decide +kernel) (by decide +kernel) (by decide +kernel) (by decide +kernel) (by decide +kernel) (by decide +kernel) (by decide +kernel) (by decide +kernel) (by decide +kernel) (by decide +kernel)
theorem ma_c : cfr ma_4 := ⟨by decide +kernel, by decide +kernel, by decide +kernel⟩
theorem ma_m : mfr ma_4 := ⟨by decide +kernel, by decide +kernel, by decide +kernel⟩
theorem ma_r : me_C ma_4 ≤ 1000 ∧ me_S ma_4 ≤ 10000 := by decide +kernel
theorem mfr_kp {M M1 : Me} (h : mfr M) (k : kpM M M1) : mfr M1 := by
  refine ⟨fun q hq => ?_, fun q hq => ?_, fun q hq => ?_⟩
  · have e := (by decide : ∀ q ∈ mq_P, q.1 = 7 ∧ q.2.1 = 0) q hq
    have h0 := h.1 q hq
    rw [e.1, e.2] at h0 ⊢
    rw [k.2.2.1]; exact h0
  · have e := (by decide : ∀ q ∈ mq_L, 30 ≤ q.1 ∧ q.2.1 = 0) q hq
    have h0 := h.2.1 q hq
    rw [e.2] at h0 ⊢
    rw [k.2.2.2.1 _ e.1]; exact h0
  · have e := (by decide : ∀ q ∈ mq_I, (q.1 = 7 ∨ 30 ≤ q.1) ∧ q.2.1 = 0) q hq
    have h0 := h.2.2 q hq
    rw [e.2] at h0 ⊢
    rcases e.1 with e1 | e1
    · rw [e1] at h0 ⊢
      rw [k.1]; exact h0
    · rw [k.2.1 _ _ e1]; exact h0
def both (G : Gt) (M : Me) (Yc : Yt) (yc : MethodName) (Ym : Yt) (ym : MethodName) (d : Nat) (as : List AV) : Prop := ∃ v : Int32, sx G Yc yc d (.inr (some (0, 0)) :: as) M (fun r M' => r = some (.inl v) ∧ kpM M M') ∧ ∀ M1, kpM M M1 → sx G Ym ym d (.inr (some (7, 0)) :: as) M1 (fun r M' => r = some (.inl v) ∧ nC M1 M')
theorem q_token {G : Gt} {M : Me} (d : Nat) (x : Int32) (y : Int32) (hc : cfr M) (hm : mfr M) : both G M yt_Y_token yn_Y_token yt_M_token yn_M_token (d + 9) [.inl x, .inl y] := by
  rcases tkv_one (x := x) (y := y) with h | h
  · exact ⟨tkv x y, x_Y_token (d + 7) x y hc, fun M1 k => by rw [h]; exact x_M_token_t (d + 6) x y (mfr_kp hm k) h⟩
  · exact ⟨tkv x y, x_Y_token (d + 7) x y hc, fun M1 k => by rw [h]; exact x_M_token_f (d + 6) x y (mfr_kp hm k) (by rw [h]; decide)⟩
theorem q_define {G : Gt} {M : Me} (d : Nat) (hc : cfr M) (hm : mfr M) : both G M yt_Y_define yn_Y_define yt_M_define yn_M_define (d + 9) [] := by
  exact ⟨-1, sx_mono (x_Y_define (d + 7) hc) (fun r M2 h => ⟨h.1, by rw [← h.2]; exact kp_rf⟩), fun M1 k => sx_mono (x_M_define (d + 8) (mfr_kp hm k)) (fun r M2 h => ⟨h.1, by rw [← h.2]; exact ⟨rfl, rfl⟩⟩)⟩
theorem q_clear {G : Gt} {M : Me} (d : Nat) (hc : cfr M) (hm : mfr M) : both G M yt_Y_clear yn_Y_clear yt_M_clear yn_M_clear (d + 9) [] := by
  exact ⟨0, sx_mono (x_Y_clear (d + 8) hc) (fun r M2 h => ⟨h.1, by rw [← h.2]; exact kp_sI kp_rf (by decide)⟩), fun M1 k => sx_mono (x_M_clear (d + 8) (mfr_kp hm k)) (fun r M2 h => ⟨h.1, by rw [← h.2]; exact ⟨rfl, rfl⟩⟩)⟩
theorem q_spawn {G : Gt} {M : Me} (d : Nat) (x : Int32) (hc : cfr M) (hm : mfr M) : both G M yt_Y_spawn yn_Y_spawn yt_M_spawn yn_M_spawn (d + 9) [.inl x] := by
  exact ⟨-1, sx_mono (x_Y_spawn (d + 8) x hc) (fun r M2 h => ⟨h.1, by rw [← h.2]; exact kp_rf⟩), fun M1 k => sx_mono (x_M_spawn (d + 7) x (mfr_kp hm k)) (fun r M2 h => ⟨h.1, by rw [← h.2]; exact ⟨rfl, rfl⟩⟩)⟩
theorem q_task {G : Gt} {M : Me} (d : Nat) (x : Int32) (y : Int32) (hc : cfr M) (hm : mfr M) : both G M yt_Y_task yn_Y_task yt_M_task yn_M_task (d + 9) [.inl x, .inl y] := by
  exact ⟨-1, sx_mono (x_Y_task (d + 7) x y hc) (fun r M2 h => ⟨h.1, by rw [← h.2]; exact kp_rf⟩), fun M1 k => sx_mono (x_M_task (d + 7) x y (mfr_kp hm k)) (fun r M2 h => ⟨h.1, by rw [← h.2]; exact ⟨rfl, rfl⟩⟩)⟩
theorem q_abort {G : Gt} {M : Me} (d : Nat) (x : Int32) (hc : cfr M) (hm : mfr M) : both G M yt_Y_abort yn_Y_abort yt_M_abort yn_M_abort (d + 9) [.inl x] := by
  exact ⟨0, sx_mono (x_Y_abort (d + 7) x hc) (fun r M2 h => ⟨h.1, by rw [← h.2]; exact kp_rf⟩), fun M1 k => sx_mono (x_M_abort (d + 7) x (mfr_kp hm k)) (fun r M2 h => ⟨h.1, by rw [← h.2]; exact ⟨rfl, rfl⟩⟩)⟩
theorem q_injected {G : Gt} {M : Me} (d : Nat) (x : Int32) (hc : cfr M) (hm : mfr M) : both G M yt_Y_injected yn_Y_injected yt_M_injected yn_M_injected (d + 9) [.inl x] := by
  exact ⟨-1, sx_mono (x_Y_injected (d + 7) x hc) (fun r M2 h => ⟨h.1, by rw [← h.2]; exact kp_rf⟩), fun M1 k => sx_mono (x_M_injected (d + 7) x (mfr_kp hm k)) (fun r M2 h => ⟨h.1, by rw [← h.2]; exact ⟨rfl, rfl⟩⟩)⟩
theorem q_count {G : Gt} {M : Me} (d : Nat) (x : Int32) (hc : cfr M) (hm : mfr M) : both G M yt_Y_count yn_Y_count yt_M_count yn_M_count (d + 9) [.inl x] := by
  exact ⟨_, x_Y_count (d + 7) x hc, fun M1 k => x_M_count (d + 7) x (mfr_kp hm k)⟩
theorem in_gt {x c : Int32} {n : Nat} (h : nI n ≤ x) (hc : c.toInt = (n : Int) - 1 ∧ n < 2 ^ 31) : c < x := by
  refine Int32.lt_iff_toInt_lt.mpr ?_
  have := Int32.le_iff_toInt_le.mp h
  rw [nI_toInt hc.2] at this
  rw [hc.1]; omega
theorem em2 (y a b : Int32) : (¬ y < a ∧ ¬ b < y) ∨ (y < a ∨ b < y) := by
  rcases Classical.em (y < a) with h | h
  · exact Or.inr (Or.inl h)
  · rcases Classical.em (b < y) with h2 | h2
    · exact Or.inr (Or.inr h2)
    · exact Or.inl ⟨h, h2⟩
theorem q_turn {G : Gt} {M : Me} (d : Nat) (x : Int32) (hc : cfr M) (hm : mfr M) : both G M yt_Y_turn yn_Y_turn yt_M_turn yn_M_turn (d + 9) [.inl x] := by
  rcases pk_ix x (n := 3) (by decide) with h | h | ⟨j, hj, rfl⟩
  · exact ⟨-1, x_Y_turn_x (d + 4) x hc (Or.inl h), fun M1 k => x_M_turn_x (d + 7) x (mfr_kp hm k) (Or.inl h)⟩
  · exact ⟨-1, x_Y_turn_x (d + 4) x hc (Or.inr (by exact h)), fun M1 k => x_M_turn_x (d + 7) x (mfr_kp hm k) (Or.inr (by exact in_gt h (by decide)))⟩
  · rcases (show j = 0 ∨ j = 1 ∨ j = 2 by omega) with rfl | rfl | rfl
    · rw [show nI 0 = 0 from by decide]
      exact ⟨-2, x_Y_turn_0 (d + 4) hc, fun M1 k => sx_mono (x_M_turn_0 (d + 7) (mid_of (mfr_kp hm k))) (fun r M2 h => ⟨h.1, h.2.2.2⟩)⟩
    · rw [show nI 1 = 1 from by decide]
      exact ⟨-2, x_Y_turn_1 (d + 4) hc, fun M1 k => sx_mono (x_M_turn_1 (d + 7) (mid_of (mfr_kp hm k))) (fun r M2 h => ⟨h.1, h.2.2.2⟩)⟩
    · rw [show nI 2 = 2 from by decide]
      exact ⟨-2, x_Y_turn_2 (d + 4) hc, fun M1 k => sx_mono (x_M_turn_2 (d + 7) (mid_of (mfr_kp hm k))) (fun r M2 h => ⟨h.1, h.2.2.2⟩)⟩
theorem q_run {G : Gt} {M : Me} (d : Nat) (x : Int32) (hc : cfr M) (hm : mfr M) : both G M yt_Y_run yn_Y_run yt_M_run yn_M_run (d + 9) [.inl x] := by
  rcases em2 x 1 30 with ⟨h1, h2⟩ | h
  · exact ⟨_, x_Y_run (d + 4) x hc, fun M1 k => by rw [if_neg h1, if_neg h2]; exact x_M_run_t (d + 6) x (mfr_kp hm k) h1 h2⟩
  · refine ⟨_, x_Y_run (d + 4) x hc, fun M1 k => ?_⟩
    rw [show (if x < 1 then -1 else if 30 < x then -1 else 0 : Int32) = -1 from by rcases h with h | h <;> simp [h]]
    exact x_M_run_f (d + 6) x (mfr_kp hm k) h
theorem q_tick {G : Gt} {M : Me} (d : Nat) (x : Int32) (hc : cfr M) (hm : mfr M) : both G M yt_Y_tick yn_Y_tick yt_M_tick yn_M_tick (d + 9) [.inl x] := by
  rcases em2 x 1 20 with ⟨h1, h2⟩ | h
  · exact ⟨_, x_Y_tick (d + 7) x hc, fun M1 k => by rw [if_neg h1, if_neg h2]; exact x_M_tick_t (d + 7) x (mfr_kp hm k) h1 h2⟩
  · refine ⟨_, x_Y_tick (d + 7) x hc, fun M1 k => ?_⟩
    rw [show (if x < 1 then -1 else if 20 < x then -1 else x : Int32) = -1 from by rcases h with h | h <;> simp [h]]
    exact x_M_tick_f (d + 7) x (mfr_kp hm k) h
theorem q_put {G : Gt} {M : Me} (d : Nat) (x : Int32) (y : Int32) (hc : cfr M) (hm : mfr M) : both G M yt_Y_put yn_Y_put yt_M_put yn_M_put (d + 9) [.inl x, .inl y] := by
  rcases pk_ix x (n := 2) (by decide) with h | h | ⟨j, hj, rfl⟩
  · exact ⟨-1, x_Y_put_x (d + 7) x y hc (Or.inl h), fun M1 k => x_M_put_x (d + 7) x y (mfr_kp hm k) (Or.inl h)⟩
  · exact ⟨-1, x_Y_put_x (d + 7) x y hc (Or.inr (by exact in_gt h (by decide))), fun M1 k => x_M_put_x (d + 7) x y (mfr_kp hm k) (Or.inr (by exact in_gt h (by decide)))⟩
  · rcases (show j = 0 ∨ j = 1 by omega) with rfl | rfl
    · rw [show nI 0 = 0 from by decide]
      rcases em2 y 1 9 with ⟨h1, h2⟩ | h
      · exact ⟨_, x_Y_put_0 (d + 7) y hc, fun M1 k => by rw [if_neg h1, if_neg h2]; exact x_M_put_0 (d + 6) y (mfr_kp hm k) h1 h2⟩
      · refine ⟨_, x_Y_put_0 (d + 7) y hc, fun M1 k => ?_⟩
        rw [show (if y < 1 then -1 else if 9 < y then -1 else 1 + y : Int32) = -1 from by rcases h with h | h <;> simp [h]]
        exact x_M_put_0_x (d + 6) y (mfr_kp hm k) h
    · rw [show nI 1 = 1 from by decide]
      rcases em2 y 1 9 with ⟨h1, h2⟩ | h
      · exact ⟨_, x_Y_put_1 (d + 7) y hc, fun M1 k => by rw [if_neg h1, if_neg h2]; exact x_M_put_1 (d + 6) y (mfr_kp hm k) h1 h2⟩
      · refine ⟨_, x_Y_put_1 (d + 7) y hc, fun M1 k => ?_⟩
        rw [show (if y < 1 then -1 else if 9 < y then -1 else 1 + y : Int32) = -1 from by rcases h with h | h <;> simp [h]]
        exact x_M_put_1_x (d + 6) y (mfr_kp hm k) h
theorem q_wake {G : Gt} {M : Me} (d : Nat) (x : Int32) (hc : cfr M) (hm : mfr M) : both G M yt_Y_wake yn_Y_wake yt_M_wake yn_M_wake (d + 9) [.inl x] := by
  rcases pk_ix x (n := 2) (by decide) with h | h | ⟨j, hj, rfl⟩
  · exact ⟨-1, x_Y_wake_x (d + 6) x hc (Or.inl h), fun M1 k => x_M_wake_x (d + 7) x (mfr_kp hm k) (Or.inl h)⟩
  · exact ⟨-1, x_Y_wake_x (d + 6) x hc (Or.inr (by exact in_gt h (by decide))), fun M1 k => x_M_wake_x (d + 7) x (mfr_kp hm k) (Or.inr (by exact in_gt h (by decide)))⟩
  · rcases (show j = 0 ∨ j = 1 by omega) with rfl | rfl
    · rw [show nI 0 = 0 from by decide]
      exact ⟨0, x_Y_wake_0 (d + 6) hc, fun M1 k => x_M_wake_0 (d + 6) (mfr_kp hm k)⟩
    · rw [show nI 1 = 1 from by decide]
      exact ⟨0, x_Y_wake_1 (d + 6) hc, fun M1 k => x_M_wake_1 (d + 6) (mfr_kp hm k)⟩
theorem ge_of_gt {y b c : Int32} (h : b < y) (hc : c.toInt = b.toInt + 1) : c ≤ y := by
  refine Int32.le_iff_toInt_le.mpr ?_
  have := Int32.lt_iff_toInt_lt.mp h
  rw [hc]; omega
theorem not_ge_of {y b c : Int32} (h : ¬ b < y) (hc : c.toInt = b.toInt + 1) : ¬ c ≤ y := by
  intro q
  refine h (Int32.lt_iff_toInt_lt.mpr ?_)
  have := Int32.le_iff_toInt_le.mp q
  rw [hc] at this; omega
theorem q_worker {G : Gt} {M : Me} (d : Nat) (x : Int32) (y : Int32) (hc : cfr M) (hm : mfr M) : both G M yt_Y_worker yn_Y_worker yt_M_worker yn_M_worker (d + 9) [.inl x, .inl y] := by
  rcases pk_ix x (n := 3) (by decide) with h | h | ⟨j, hj, rfl⟩
  · exact ⟨-1, x_Y_worker_x (d + 7) x y hc (Or.inl h), fun M1 k => x_M_worker_x (d + 7) x y (mfr_kp hm k) (Or.inl h)⟩
  · exact ⟨-1, x_Y_worker_x (d + 7) x y hc (Or.inr (by exact h)), fun M1 k => x_M_worker_x (d + 7) x y (mfr_kp hm k) (Or.inr (by exact in_gt h (by decide)))⟩
  · rcases (show j = 0 ∨ j = 1 ∨ j = 2 by omega) with rfl | rfl | rfl
    · rw [show nI 0 = 0 from by decide]
      rcases em2 y 0 7 with ⟨h1, h2⟩ | h
      · exact ⟨_, x_Y_worker_0 (d + 7) y hc, fun M1 k => by rw [if_neg h1, if_neg (not_ge_of h2 (by decide))]; exact x_M_worker_0 (d + 7) y (mfr_kp hm k) h1 h2⟩
      · refine ⟨_, x_Y_worker_0 (d + 7) y hc, fun M1 k => ?_⟩
        rw [sw_res (h.imp id (fun q => ge_of_gt q (by decide)))]
        exact x_M_worker_0_x (d + 7) y (mfr_kp hm k) h
    · rw [show nI 1 = 1 from by decide]
      rcases em2 y 0 7 with ⟨h1, h2⟩ | h
      · exact ⟨_, x_Y_worker_1 (d + 7) y hc, fun M1 k => by rw [if_neg h1, if_neg (not_ge_of h2 (by decide))]; exact x_M_worker_1 (d + 7) y (mfr_kp hm k) h1 h2⟩
      · refine ⟨_, x_Y_worker_1 (d + 7) y hc, fun M1 k => ?_⟩
        rw [sw_res (h.imp id (fun q => ge_of_gt q (by decide)))]
        exact x_M_worker_1_x (d + 7) y (mfr_kp hm k) h
    · rw [show nI 2 = 2 from by decide]
      rcases em2 y 0 7 with ⟨h1, h2⟩ | h
      · exact ⟨_, x_Y_worker_2 (d + 7) y hc, fun M1 k => by rw [if_neg h1, if_neg (not_ge_of h2 (by decide))]; exact x_M_worker_2 (d + 7) y (mfr_kp hm k) h1 h2⟩
      · refine ⟨_, x_Y_worker_2 (d + 7) y hc, fun M1 k => ?_⟩
        rw [sw_res (h.imp id (fun q => ge_of_gt q (by decide)))]
        exact x_M_worker_2_x (d + 7) y (mfr_kp hm k) h
theorem q_gate {G : Gt} {M : Me} (d : Nat) (x : Int32) (y : Int32) (hc : cfr M) (hm : mfr M) : both G M yt_Y_gate yn_Y_gate yt_M_gate yn_M_gate (d + 9) [.inl x, .inl y] := by
  rcases pk_ix x (n := 2) (by decide) with h | h | ⟨j, hj, rfl⟩
  · exact ⟨-1, x_Y_gate_x (d + 6) x y hc (Or.inl h), fun M1 k => x_M_gate_x (d + 7) x y (mfr_kp hm k) (Or.inl h)⟩
  · exact ⟨-1, x_Y_gate_x (d + 6) x y hc (Or.inr (by exact in_gt h (by decide))), fun M1 k => x_M_gate_x (d + 7) x y (mfr_kp hm k) (Or.inr (by exact in_gt h (by decide)))⟩
  · rcases (show j = 0 ∨ j = 1 by omega) with rfl | rfl
    · rw [show nI 0 = 0 from by decide]
      rcases em2 y 0 4 with ⟨h1, h2⟩ | h
      · exact ⟨_, x_Y_gate_0 (d + 6) y hc, fun M1 k => by rw [if_neg h1, if_neg (not_ge_of h2 (by decide))]; exact x_M_gate_0 (d + 7) y (mfr_kp hm k) h1 h2⟩
      · refine ⟨_, x_Y_gate_0 (d + 6) y hc, fun M1 k => ?_⟩
        rw [sw_res (h.imp id (fun q => ge_of_gt q (by decide)))]
        exact x_M_gate_0_x (d + 7) y (mfr_kp hm k) h
    · rw [show nI 1 = 1 from by decide]
      rcases em2 y 0 4 with ⟨h1, h2⟩ | h
      · exact ⟨_, x_Y_gate_1 (d + 6) y hc, fun M1 k => by rw [if_neg h1, if_neg (not_ge_of h2 (by decide))]; exact x_M_gate_1 (d + 7) y (mfr_kp hm k) h1 h2⟩
      · refine ⟨_, x_Y_gate_1 (d + 6) y hc, fun M1 k => ?_⟩
        rw [sw_res (h.imp id (fun q => ge_of_gt q (by decide)))]
        exact x_M_gate_1_x (d + 7) y (mfr_kp hm k) h
set_option maxRecDepth 20000 in
set_option maxHeartbeats 4000000 in
theorem p1_end {G : Gt} {nm : String} {d : Nat} {M : Me} (g2 : G.2.2.2.2.2.1 = 3) (hb : me_C M ≤ 1000 ∧ me_S M ≤ 10000) : jx G (yt_L nm) d 0 0 M 483 [some (.inr (some (25, 0))), some (.inr (some (0, 0))), some (.inr (some (7, 0))), some (.inl 0)] [] (fun r M' => r = some (.inl 1) ∧ me_C M' ≤ 600000 ∧ me_S M' ≤ 7302250) := by
  refine jx_of (fun _ _ kz => jw_iincc 3 d_L_law_483 (by decide) rfl (Nat.le_of_ble_eq_true rfl) kz) ?_
  dsimp only [List.set]
  rw [show (0 + 3 : Int32) = 3 from by decide]
  refine jx_of (fun _ _ kz => jw_goto 18 d_L_law_486 (by decide) kz) ?_
  refine jx_of (fun _ _ kz => jw_iload_n 3 d_L_law_18 rfl rfl kz) ?_
  refine jx_of (fun _ _ kz => jw_aload_n 0 d_L_law_19 rfl rfl kz) ?_
  refine jx_of (fun _ _ kz => jw_slen d_L_law_20 kz) ?_
  rw [g2]
  refine jx_of (fun _ _ kz => jw_iconst 3 d_L_law_21 (by decide) kz) ?_
  refine jx_of (fun _ _ kz => jw_isub d_L_law_22 kz) ?_
  refine jx_icmp_gt 489 d_L_law_23 (by decide) (fun _ => ?_) (fun h => absurd (by decide) h)
  refine jx_of (fun _ _ kz => jw_iconst 1 d_L_law_489 (by decide) kz) ?_
  refine jx_zret d_L_law_490 rfl (by decide) ?_
  exact ⟨rfl, by omega, by omega⟩
set_option maxRecDepth 20000 in
set_option maxHeartbeats 4000000 in
theorem p1_body {G : Gt} {nm : String} (d : Nat) (g2 : G.2.2.2.2.2.1 = 3) : jx G (yt_L nm) (d + 10) 0 0 ma_4 18 [some (.inr (some (25, 0))), some (.inr (some (0, 0))), some (.inr (some (7, 0))), some (.inl 0)] [] (fun r M' => r = some (.inl 1) ∧ me_C M' ≤ 600000 ∧ me_S M' ≤ 7302250) := by
  refine jx_of (fun _ _ kz => jw_iload_n 3 d_L_law_18 rfl rfl kz) ?_
  refine jx_of (fun _ _ kz => jw_aload_n 0 d_L_law_19 rfl rfl kz) ?_
  refine jx_of (fun _ _ kz => jw_slen d_L_law_20 kz) ?_
  rw [g2]
  refine jx_of (fun _ _ kz => jw_iconst 3 d_L_law_21 (by decide) kz) ?_
  refine jx_of (fun _ _ kz => jw_isub d_L_law_22 kz) ?_
  refine jx_icmp_gt 489 d_L_law_23 (by decide) (fun h => absurd h (by decide)) (fun _ => ?_)
  refine jx_of (fun _ _ kz => jw_aload_n 0 d_L_law_26 rfl rfl kz) ?_
  refine jx_of (fun _ _ kz => jw_iload_n 3 d_L_law_27 rfl rfl kz) ?_
  refine jx_of (fun _ _ kz => jw_sld d_L_law_28 (by rw [g2]; unfold vp_in; decide) kz) ?_
  refine jx_of (fun _ _ kz => jw_bipush 15 d_L_law_29 (by decide) kz) ?_
  refine jx_of (fun _ _ kz => jw_iand d_L_law_31 kz) ?_
  obtain ⟨j, hj, e⟩ := pk_andE (G.2.2.2.2.2.2 (Int32.toNatClampNeg 0)) (m := 15) 4 (by decide)
  rw [e]
  rcases (show j = 0 ∨ j = 1 ∨ j = 2 ∨ j = 3 ∨ j = 4 ∨ j = 5 ∨ j = 6 ∨ j = 7 ∨ j = 8 ∨ j = 9 ∨ j = 10 ∨ j = 11 ∨ j = 12 ∨ j = 13 ∨ j = 14 ∨ j = 15 by omega) with rfl | rfl | rfl | rfl | rfl | rfl | rfl | rfl | rfl | rfl | rfl | rfl | rfl | rfl | rfl | rfl
  · skip
    refine jx_of (fun _ _ kz => jw_tabIn 108 d_L_law_32 (by decide) (by decide) rfl (by decide) kz) ?_
    obtain ⟨v, hc, hm⟩ := q_token (G := G) (M := ma_4) d (G.2.2.2.2.2.2 (Int32.toNatClampNeg 1)) (G.2.2.2.2.2.2 (Int32.toNatClampNeg 2)) ma_c ma_m
    refine jx_of (fun _ _ kz => jw_aload_n 1 d_L_law_108 rfl rfl kz) ?_
    refine jx_of (fun _ _ kz => jw_aload_n 0 d_L_law_109 rfl rfl kz) ?_
    refine jx_of (fun _ _ kz => jw_iload_n 3 d_L_law_110 rfl rfl kz) ?_
    refine jx_of (fun _ _ kz => jw_iconst 1 d_L_law_111 (by decide) kz) ?_
    refine jx_of (fun _ _ kz => jw_iadd d_L_law_112 kz) ?_
    rw [show (0 + 1 : Int32) = 1 from by decide]
    refine jx_of (fun _ _ kz => jw_sld d_L_law_113 (by rw [g2]; unfold vp_in; decide) kz) ?_
    refine jx_of (fun _ _ kz => jw_aload_n 0 d_L_law_114 rfl rfl kz) ?_
    refine jx_of (fun _ _ kz => jw_iload_n 3 d_L_law_115 rfl rfl kz) ?_
    refine jx_of (fun _ _ kz => jw_iconst 2 d_L_law_116 (by decide) kz) ?_
    refine jx_of (fun _ _ kz => jw_iadd d_L_law_117 kz) ?_
    rw [show (0 + 2 : Int32) = 2 from by decide]
    refine jx_of (fun _ _ kz => jw_sld d_L_law_118 (by rw [g2]; unfold vp_in; decide) kz) ?_
    refine jx_callV hc mt_Y_token cf_Y rfl rfl ml_L_13 im_Y_token se_Y_token d_L_law_119 rfl rfl (Nat.le_of_ble_eq_true rfl) ?_
    rintro _ M1 ⟨rfl, hk⟩
    refine jx_eq (st2 := [.inl v]) rfl rfl rfl ?_
    refine jx_of (fun _ _ kz => jw_aload_n 2 d_L_law_122 rfl rfl kz) ?_
    refine jx_of (fun _ _ kz => jw_aload_n 0 d_L_law_123 rfl rfl kz) ?_
    refine jx_of (fun _ _ kz => jw_iload_n 3 d_L_law_124 rfl rfl kz) ?_
    refine jx_of (fun _ _ kz => jw_iconst 1 d_L_law_125 (by decide) kz) ?_
    refine jx_of (fun _ _ kz => jw_iadd d_L_law_126 kz) ?_
    rw [show (0 + 1 : Int32) = 1 from by decide]
    refine jx_of (fun _ _ kz => jw_sld d_L_law_127 (by rw [g2]; unfold vp_in; decide) kz) ?_
    refine jx_of (fun _ _ kz => jw_aload_n 0 d_L_law_128 rfl rfl kz) ?_
    refine jx_of (fun _ _ kz => jw_iload_n 3 d_L_law_129 rfl rfl kz) ?_
    refine jx_of (fun _ _ kz => jw_iconst 2 d_L_law_130 (by decide) kz) ?_
    refine jx_of (fun _ _ kz => jw_iadd d_L_law_131 kz) ?_
    rw [show (0 + 2 : Int32) = 2 from by decide]
    refine jx_of (fun _ _ kz => jw_sld d_L_law_132 (by rw [g2]; unfold vp_in; decide) kz) ?_
    refine jx_callV (hm M1 hk) mt_M_token cf_M rfl rfl ml_L_17 im_M_token se_M_token d_L_law_133 rfl rfl (Nat.le_of_ble_eq_true rfl) ?_
    rintro _ M2 ⟨rfl, hn⟩
    refine jx_eq (st2 := [.inl v, .inl v]) rfl rfl rfl ?_
    refine jx_icmp_eq 483 d_L_law_136 (by decide) (fun _ => ?_) (fun h => absurd rfl h)
    exact p1_end g2 ⟨by rw [hn.1, hk.2.2.2.2.1]; exact ma_r.1, by rw [hn.2, hk.2.2.2.2.2]; exact ma_r.2⟩
  · skip
    refine jx_of (fun _ _ kz => jw_tabIn 141 d_L_law_32 (by decide) (by decide) rfl (by decide) kz) ?_
    obtain ⟨v, hc, hm⟩ := q_define (G := G) (M := ma_4) d  ma_c ma_m
    refine jx_of (fun _ _ kz => jw_aload_n 1 d_L_law_141 rfl rfl kz) ?_
    refine jx_callV hc mt_Y_define cf_Y rfl rfl ml_L_18 im_Y_define se_Y_define d_L_law_142 rfl rfl (Nat.le_of_ble_eq_true rfl) ?_
    rintro _ M1 ⟨rfl, hk⟩
    refine jx_eq (st2 := [.inl v]) rfl rfl rfl ?_
    refine jx_of (fun _ _ kz => jw_aload_n 2 d_L_law_145 rfl rfl kz) ?_
    refine jx_callV (hm M1 hk) mt_M_define cf_M rfl rfl ml_L_22 im_M_define se_M_define d_L_law_146 rfl rfl (Nat.le_of_ble_eq_true rfl) ?_
    rintro _ M2 ⟨rfl, hn⟩
    refine jx_eq (st2 := [.inl v, .inl v]) rfl rfl rfl ?_
    refine jx_icmp_eq 483 d_L_law_149 (by decide) (fun _ => ?_) (fun h => absurd rfl h)
    exact p1_end g2 ⟨by rw [hn.1, hk.2.2.2.2.1]; exact ma_r.1, by rw [hn.2, hk.2.2.2.2.2]; exact ma_r.2⟩
  · skip
    refine jx_of (fun _ _ kz => jw_tabIn 154 d_L_law_32 (by decide) (by decide) rfl (by decide) kz) ?_
    obtain ⟨v, hc, hm⟩ := q_clear (G := G) (M := ma_4) d  ma_c ma_m
    refine jx_of (fun _ _ kz => jw_aload_n 1 d_L_law_154 rfl rfl kz) ?_
    refine jx_callV hc mt_Y_clear cf_Y rfl rfl ml_L_23 im_Y_clear se_Y_clear d_L_law_155 rfl rfl (Nat.le_of_ble_eq_true rfl) ?_
    rintro _ M1 ⟨rfl, hk⟩
    refine jx_eq (st2 := [.inl v]) rfl rfl rfl ?_
    refine jx_of (fun _ _ kz => jw_aload_n 2 d_L_law_158 rfl rfl kz) ?_
    refine jx_callV (hm M1 hk) mt_M_clear cf_M rfl rfl ml_L_26 im_M_clear se_M_clear d_L_law_159 rfl rfl (Nat.le_of_ble_eq_true rfl) ?_
    rintro _ M2 ⟨rfl, hn⟩
    refine jx_eq (st2 := [.inl v, .inl v]) rfl rfl rfl ?_
    refine jx_icmp_eq 483 d_L_law_162 (by decide) (fun _ => ?_) (fun h => absurd rfl h)
    exact p1_end g2 ⟨by rw [hn.1, hk.2.2.2.2.1]; exact ma_r.1, by rw [hn.2, hk.2.2.2.2.2]; exact ma_r.2⟩
  · skip
    refine jx_of (fun _ _ kz => jw_tabIn 167 d_L_law_32 (by decide) (by decide) rfl (by decide) kz) ?_
    obtain ⟨v, hc, hm⟩ := q_spawn (G := G) (M := ma_4) d (G.2.2.2.2.2.2 (Int32.toNatClampNeg 1)) ma_c ma_m
    refine jx_of (fun _ _ kz => jw_aload_n 1 d_L_law_167 rfl rfl kz) ?_
    refine jx_of (fun _ _ kz => jw_aload_n 0 d_L_law_168 rfl rfl kz) ?_
    refine jx_of (fun _ _ kz => jw_iload_n 3 d_L_law_169 rfl rfl kz) ?_
    refine jx_of (fun _ _ kz => jw_iconst 1 d_L_law_170 (by decide) kz) ?_
    refine jx_of (fun _ _ kz => jw_iadd d_L_law_171 kz) ?_
    rw [show (0 + 1 : Int32) = 1 from by decide]
    refine jx_of (fun _ _ kz => jw_sld d_L_law_172 (by rw [g2]; unfold vp_in; decide) kz) ?_
    refine jx_callV hc mt_Y_spawn cf_Y rfl rfl ml_L_27 im_Y_spawn se_Y_spawn d_L_law_173 rfl rfl (Nat.le_of_ble_eq_true rfl) ?_
    rintro _ M1 ⟨rfl, hk⟩
    refine jx_eq (st2 := [.inl v]) rfl rfl rfl ?_
    refine jx_of (fun _ _ kz => jw_aload_n 2 d_L_law_176 rfl rfl kz) ?_
    refine jx_of (fun _ _ kz => jw_aload_n 0 d_L_law_177 rfl rfl kz) ?_
    refine jx_of (fun _ _ kz => jw_iload_n 3 d_L_law_178 rfl rfl kz) ?_
    refine jx_of (fun _ _ kz => jw_iconst 1 d_L_law_179 (by decide) kz) ?_
    refine jx_of (fun _ _ kz => jw_iadd d_L_law_180 kz) ?_
    rw [show (0 + 1 : Int32) = 1 from by decide]
    refine jx_of (fun _ _ kz => jw_sld d_L_law_181 (by rw [g2]; unfold vp_in; decide) kz) ?_
    refine jx_callV (hm M1 hk) mt_M_spawn cf_M rfl rfl ml_L_31 im_M_spawn se_M_spawn d_L_law_182 rfl rfl (Nat.le_of_ble_eq_true rfl) ?_
    rintro _ M2 ⟨rfl, hn⟩
    refine jx_eq (st2 := [.inl v, .inl v]) rfl rfl rfl ?_
    refine jx_icmp_eq 483 d_L_law_185 (by decide) (fun _ => ?_) (fun h => absurd rfl h)
    exact p1_end g2 ⟨by rw [hn.1, hk.2.2.2.2.1]; exact ma_r.1, by rw [hn.2, hk.2.2.2.2.2]; exact ma_r.2⟩
  · skip
    refine jx_of (fun _ _ kz => jw_tabIn 190 d_L_law_32 (by decide) (by decide) rfl (by decide) kz) ?_
    obtain ⟨v, hc, hm⟩ := q_turn (G := G) (M := ma_4) d (G.2.2.2.2.2.2 (Int32.toNatClampNeg 1)) ma_c ma_m
    refine jx_of (fun _ _ kz => jw_aload_n 1 d_L_law_190 rfl rfl kz) ?_
    refine jx_of (fun _ _ kz => jw_aload_n 0 d_L_law_191 rfl rfl kz) ?_
    refine jx_of (fun _ _ kz => jw_iload_n 3 d_L_law_192 rfl rfl kz) ?_
    refine jx_of (fun _ _ kz => jw_iconst 1 d_L_law_193 (by decide) kz) ?_
    refine jx_of (fun _ _ kz => jw_iadd d_L_law_194 kz) ?_
    rw [show (0 + 1 : Int32) = 1 from by decide]
    refine jx_of (fun _ _ kz => jw_sld d_L_law_195 (by rw [g2]; unfold vp_in; decide) kz) ?_
    refine jx_callV hc mt_Y_turn cf_Y rfl rfl ml_L_32 im_Y_turn se_Y_turn d_L_law_196 rfl rfl (Nat.le_of_ble_eq_true rfl) ?_
    rintro _ M1 ⟨rfl, hk⟩
    refine jx_eq (st2 := [.inl v]) rfl rfl rfl ?_
    refine jx_of (fun _ _ kz => jw_aload_n 2 d_L_law_199 rfl rfl kz) ?_
    refine jx_of (fun _ _ kz => jw_aload_n 0 d_L_law_200 rfl rfl kz) ?_
    refine jx_of (fun _ _ kz => jw_iload_n 3 d_L_law_201 rfl rfl kz) ?_
    refine jx_of (fun _ _ kz => jw_iconst 1 d_L_law_202 (by decide) kz) ?_
    refine jx_of (fun _ _ kz => jw_iadd d_L_law_203 kz) ?_
    rw [show (0 + 1 : Int32) = 1 from by decide]
    refine jx_of (fun _ _ kz => jw_sld d_L_law_204 (by rw [g2]; unfold vp_in; decide) kz) ?_
    refine jx_callV (hm M1 hk) mt_M_turn cf_M rfl rfl ml_L_35 im_M_turn se_M_turn d_L_law_205 rfl rfl (Nat.le_of_ble_eq_true rfl) ?_
    rintro _ M2 ⟨rfl, hn⟩
    refine jx_eq (st2 := [.inl v, .inl v]) rfl rfl rfl ?_
    refine jx_icmp_eq 483 d_L_law_208 (by decide) (fun _ => ?_) (fun h => absurd rfl h)
    exact p1_end g2 ⟨by rw [hn.1, hk.2.2.2.2.1]; exact ma_r.1, by rw [hn.2, hk.2.2.2.2.2]; exact ma_r.2⟩
  · skip
    refine jx_of (fun _ _ kz => jw_tabIn 213 d_L_law_32 (by decide) (by decide) rfl (by decide) kz) ?_
    obtain ⟨v, hc, hm⟩ := q_run (G := G) (M := ma_4) d (G.2.2.2.2.2.2 (Int32.toNatClampNeg 1)) ma_c ma_m
    refine jx_of (fun _ _ kz => jw_aload_n 1 d_L_law_213 rfl rfl kz) ?_
    refine jx_of (fun _ _ kz => jw_aload_n 0 d_L_law_214 rfl rfl kz) ?_
    refine jx_of (fun _ _ kz => jw_iload_n 3 d_L_law_215 rfl rfl kz) ?_
    refine jx_of (fun _ _ kz => jw_iconst 1 d_L_law_216 (by decide) kz) ?_
    refine jx_of (fun _ _ kz => jw_iadd d_L_law_217 kz) ?_
    rw [show (0 + 1 : Int32) = 1 from by decide]
    refine jx_of (fun _ _ kz => jw_sld d_L_law_218 (by rw [g2]; unfold vp_in; decide) kz) ?_
    refine jx_callV hc mt_Y_run cf_Y rfl rfl ml_L_36 im_Y_run se_Y_run d_L_law_219 rfl rfl (Nat.le_of_ble_eq_true rfl) ?_
    rintro _ M1 ⟨rfl, hk⟩
    refine jx_eq (st2 := [.inl v]) rfl rfl rfl ?_
    refine jx_of (fun _ _ kz => jw_aload_n 2 d_L_law_222 rfl rfl kz) ?_
    refine jx_of (fun _ _ kz => jw_aload_n 0 d_L_law_223 rfl rfl kz) ?_
    refine jx_of (fun _ _ kz => jw_iload_n 3 d_L_law_224 rfl rfl kz) ?_
    refine jx_of (fun _ _ kz => jw_iconst 1 d_L_law_225 (by decide) kz) ?_
    refine jx_of (fun _ _ kz => jw_iadd d_L_law_226 kz) ?_
    rw [show (0 + 1 : Int32) = 1 from by decide]
    refine jx_of (fun _ _ kz => jw_sld d_L_law_227 (by rw [g2]; unfold vp_in; decide) kz) ?_
    refine jx_callV (hm M1 hk) mt_M_run cf_M rfl rfl ml_L_39 im_M_run se_M_run d_L_law_228 rfl rfl (Nat.le_of_ble_eq_true rfl) ?_
    rintro _ M2 ⟨rfl, hn⟩
    refine jx_eq (st2 := [.inl v, .inl v]) rfl rfl rfl ?_
    refine jx_icmp_eq 483 d_L_law_231 (by decide) (fun _ => ?_) (fun h => absurd rfl h)
    exact p1_end g2 ⟨by rw [hn.1, hk.2.2.2.2.1]; exact ma_r.1, by rw [hn.2, hk.2.2.2.2.2]; exact ma_r.2⟩
  · skip
    refine jx_of (fun _ _ kz => jw_tabIn 236 d_L_law_32 (by decide) (by decide) rfl (by decide) kz) ?_
    obtain ⟨v, hc, hm⟩ := q_tick (G := G) (M := ma_4) d (G.2.2.2.2.2.2 (Int32.toNatClampNeg 1)) ma_c ma_m
    refine jx_of (fun _ _ kz => jw_aload_n 1 d_L_law_236 rfl rfl kz) ?_
    refine jx_of (fun _ _ kz => jw_aload_n 0 d_L_law_237 rfl rfl kz) ?_
    refine jx_of (fun _ _ kz => jw_iload_n 3 d_L_law_238 rfl rfl kz) ?_
    refine jx_of (fun _ _ kz => jw_iconst 1 d_L_law_239 (by decide) kz) ?_
    refine jx_of (fun _ _ kz => jw_iadd d_L_law_240 kz) ?_
    rw [show (0 + 1 : Int32) = 1 from by decide]
    refine jx_of (fun _ _ kz => jw_sld d_L_law_241 (by rw [g2]; unfold vp_in; decide) kz) ?_
    refine jx_callV hc mt_Y_tick cf_Y rfl rfl ml_L_40 im_Y_tick se_Y_tick d_L_law_242 rfl rfl (Nat.le_of_ble_eq_true rfl) ?_
    rintro _ M1 ⟨rfl, hk⟩
    refine jx_eq (st2 := [.inl v]) rfl rfl rfl ?_
    refine jx_of (fun _ _ kz => jw_aload_n 2 d_L_law_245 rfl rfl kz) ?_
    refine jx_of (fun _ _ kz => jw_aload_n 0 d_L_law_246 rfl rfl kz) ?_
    refine jx_of (fun _ _ kz => jw_iload_n 3 d_L_law_247 rfl rfl kz) ?_
    refine jx_of (fun _ _ kz => jw_iconst 1 d_L_law_248 (by decide) kz) ?_
    refine jx_of (fun _ _ kz => jw_iadd d_L_law_249 kz) ?_
    rw [show (0 + 1 : Int32) = 1 from by decide]
    refine jx_of (fun _ _ kz => jw_sld d_L_law_250 (by rw [g2]; unfold vp_in; decide) kz) ?_
    refine jx_callV (hm M1 hk) mt_M_tick cf_M rfl rfl ml_L_43 im_M_tick se_M_tick d_L_law_251 rfl rfl (Nat.le_of_ble_eq_true rfl) ?_
    rintro _ M2 ⟨rfl, hn⟩
    refine jx_eq (st2 := [.inl v, .inl v]) rfl rfl rfl ?_
    refine jx_icmp_eq 483 d_L_law_254 (by decide) (fun _ => ?_) (fun h => absurd rfl h)
    exact p1_end g2 ⟨by rw [hn.1, hk.2.2.2.2.1]; exact ma_r.1, by rw [hn.2, hk.2.2.2.2.2]; exact ma_r.2⟩
  · skip
    refine jx_of (fun _ _ kz => jw_tabIn 259 d_L_law_32 (by decide) (by decide) rfl (by decide) kz) ?_
    obtain ⟨v, hc, hm⟩ := q_abort (G := G) (M := ma_4) d (G.2.2.2.2.2.2 (Int32.toNatClampNeg 1)) ma_c ma_m
    refine jx_of (fun _ _ kz => jw_aload_n 1 d_L_law_259 rfl rfl kz) ?_
    refine jx_of (fun _ _ kz => jw_aload_n 0 d_L_law_260 rfl rfl kz) ?_
    refine jx_of (fun _ _ kz => jw_iload_n 3 d_L_law_261 rfl rfl kz) ?_
    refine jx_of (fun _ _ kz => jw_iconst 1 d_L_law_262 (by decide) kz) ?_
    refine jx_of (fun _ _ kz => jw_iadd d_L_law_263 kz) ?_
    rw [show (0 + 1 : Int32) = 1 from by decide]
    refine jx_of (fun _ _ kz => jw_sld d_L_law_264 (by rw [g2]; unfold vp_in; decide) kz) ?_
    refine jx_callV hc mt_Y_abort cf_Y rfl rfl ml_L_44 im_Y_abort se_Y_abort d_L_law_265 rfl rfl (Nat.le_of_ble_eq_true rfl) ?_
    rintro _ M1 ⟨rfl, hk⟩
    refine jx_eq (st2 := [.inl v]) rfl rfl rfl ?_
    refine jx_of (fun _ _ kz => jw_aload_n 2 d_L_law_268 rfl rfl kz) ?_
    refine jx_of (fun _ _ kz => jw_aload_n 0 d_L_law_269 rfl rfl kz) ?_
    refine jx_of (fun _ _ kz => jw_iload_n 3 d_L_law_270 rfl rfl kz) ?_
    refine jx_of (fun _ _ kz => jw_iconst 1 d_L_law_271 (by decide) kz) ?_
    refine jx_of (fun _ _ kz => jw_iadd d_L_law_272 kz) ?_
    rw [show (0 + 1 : Int32) = 1 from by decide]
    refine jx_of (fun _ _ kz => jw_sld d_L_law_273 (by rw [g2]; unfold vp_in; decide) kz) ?_
    refine jx_callV (hm M1 hk) mt_M_abort cf_M rfl rfl ml_L_48 im_M_abort se_M_abort d_L_law_274 rfl rfl (Nat.le_of_ble_eq_true rfl) ?_
    rintro _ M2 ⟨rfl, hn⟩
    refine jx_eq (st2 := [.inl v, .inl v]) rfl rfl rfl ?_
    refine jx_icmp_eq 483 d_L_law_277 (by decide) (fun _ => ?_) (fun h => absurd rfl h)
    exact p1_end g2 ⟨by rw [hn.1, hk.2.2.2.2.1]; exact ma_r.1, by rw [hn.2, hk.2.2.2.2.2]; exact ma_r.2⟩
  · skip
    refine jx_of (fun _ _ kz => jw_tabIn 282 d_L_law_32 (by decide) (by decide) rfl (by decide) kz) ?_
    obtain ⟨v, hc, hm⟩ := q_put (G := G) (M := ma_4) d (G.2.2.2.2.2.2 (Int32.toNatClampNeg 1)) (G.2.2.2.2.2.2 (Int32.toNatClampNeg 2)) ma_c ma_m
    refine jx_of (fun _ _ kz => jw_aload_n 1 d_L_law_282 rfl rfl kz) ?_
    refine jx_of (fun _ _ kz => jw_aload_n 0 d_L_law_283 rfl rfl kz) ?_
    refine jx_of (fun _ _ kz => jw_iload_n 3 d_L_law_284 rfl rfl kz) ?_
    refine jx_of (fun _ _ kz => jw_iconst 1 d_L_law_285 (by decide) kz) ?_
    refine jx_of (fun _ _ kz => jw_iadd d_L_law_286 kz) ?_
    rw [show (0 + 1 : Int32) = 1 from by decide]
    refine jx_of (fun _ _ kz => jw_sld d_L_law_287 (by rw [g2]; unfold vp_in; decide) kz) ?_
    refine jx_of (fun _ _ kz => jw_aload_n 0 d_L_law_288 rfl rfl kz) ?_
    refine jx_of (fun _ _ kz => jw_iload_n 3 d_L_law_289 rfl rfl kz) ?_
    refine jx_of (fun _ _ kz => jw_iconst 2 d_L_law_290 (by decide) kz) ?_
    refine jx_of (fun _ _ kz => jw_iadd d_L_law_291 kz) ?_
    rw [show (0 + 2 : Int32) = 2 from by decide]
    refine jx_of (fun _ _ kz => jw_sld d_L_law_292 (by rw [g2]; unfold vp_in; decide) kz) ?_
    refine jx_callV hc mt_Y_put cf_Y rfl rfl ml_L_49 im_Y_put se_Y_put d_L_law_293 rfl rfl (Nat.le_of_ble_eq_true rfl) ?_
    rintro _ M1 ⟨rfl, hk⟩
    refine jx_eq (st2 := [.inl v]) rfl rfl rfl ?_
    refine jx_of (fun _ _ kz => jw_aload_n 2 d_L_law_296 rfl rfl kz) ?_
    refine jx_of (fun _ _ kz => jw_aload_n 0 d_L_law_297 rfl rfl kz) ?_
    refine jx_of (fun _ _ kz => jw_iload_n 3 d_L_law_298 rfl rfl kz) ?_
    refine jx_of (fun _ _ kz => jw_iconst 1 d_L_law_299 (by decide) kz) ?_
    refine jx_of (fun _ _ kz => jw_iadd d_L_law_300 kz) ?_
    rw [show (0 + 1 : Int32) = 1 from by decide]
    refine jx_of (fun _ _ kz => jw_sld d_L_law_301 (by rw [g2]; unfold vp_in; decide) kz) ?_
    refine jx_of (fun _ _ kz => jw_aload_n 0 d_L_law_302 rfl rfl kz) ?_
    refine jx_of (fun _ _ kz => jw_iload_n 3 d_L_law_303 rfl rfl kz) ?_
    refine jx_of (fun _ _ kz => jw_iconst 2 d_L_law_304 (by decide) kz) ?_
    refine jx_of (fun _ _ kz => jw_iadd d_L_law_305 kz) ?_
    rw [show (0 + 2 : Int32) = 2 from by decide]
    refine jx_of (fun _ _ kz => jw_sld d_L_law_306 (by rw [g2]; unfold vp_in; decide) kz) ?_
    refine jx_callV (hm M1 hk) mt_M_put cf_M rfl rfl ml_L_52 im_M_put se_M_put d_L_law_307 rfl rfl (Nat.le_of_ble_eq_true rfl) ?_
    rintro _ M2 ⟨rfl, hn⟩
    refine jx_eq (st2 := [.inl v, .inl v]) rfl rfl rfl ?_
    refine jx_icmp_eq 483 d_L_law_310 (by decide) (fun _ => ?_) (fun h => absurd rfl h)
    exact p1_end g2 ⟨by rw [hn.1, hk.2.2.2.2.1]; exact ma_r.1, by rw [hn.2, hk.2.2.2.2.2]; exact ma_r.2⟩
  · skip
    refine jx_of (fun _ _ kz => jw_tabIn 315 d_L_law_32 (by decide) (by decide) rfl (by decide) kz) ?_
    obtain ⟨v, hc, hm⟩ := q_wake (G := G) (M := ma_4) d (G.2.2.2.2.2.2 (Int32.toNatClampNeg 1)) ma_c ma_m
    refine jx_of (fun _ _ kz => jw_aload_n 1 d_L_law_315 rfl rfl kz) ?_
    refine jx_of (fun _ _ kz => jw_aload_n 0 d_L_law_316 rfl rfl kz) ?_
    refine jx_of (fun _ _ kz => jw_iload_n 3 d_L_law_317 rfl rfl kz) ?_
    refine jx_of (fun _ _ kz => jw_iconst 1 d_L_law_318 (by decide) kz) ?_
    refine jx_of (fun _ _ kz => jw_iadd d_L_law_319 kz) ?_
    rw [show (0 + 1 : Int32) = 1 from by decide]
    refine jx_of (fun _ _ kz => jw_sld d_L_law_320 (by rw [g2]; unfold vp_in; decide) kz) ?_
    refine jx_callV hc mt_Y_wake cf_Y rfl rfl ml_L_53 im_Y_wake se_Y_wake d_L_law_321 rfl rfl (Nat.le_of_ble_eq_true rfl) ?_
    rintro _ M1 ⟨rfl, hk⟩
    refine jx_eq (st2 := [.inl v]) rfl rfl rfl ?_
    refine jx_of (fun _ _ kz => jw_aload_n 2 d_L_law_324 rfl rfl kz) ?_
    refine jx_of (fun _ _ kz => jw_aload_n 0 d_L_law_325 rfl rfl kz) ?_
    refine jx_of (fun _ _ kz => jw_iload_n 3 d_L_law_326 rfl rfl kz) ?_
    refine jx_of (fun _ _ kz => jw_iconst 1 d_L_law_327 (by decide) kz) ?_
    refine jx_of (fun _ _ kz => jw_iadd d_L_law_328 kz) ?_
    rw [show (0 + 1 : Int32) = 1 from by decide]
    refine jx_of (fun _ _ kz => jw_sld d_L_law_329 (by rw [g2]; unfold vp_in; decide) kz) ?_
    refine jx_callV (hm M1 hk) mt_M_wake cf_M rfl rfl ml_L_56 im_M_wake se_M_wake d_L_law_330 rfl rfl (Nat.le_of_ble_eq_true rfl) ?_
    rintro _ M2 ⟨rfl, hn⟩
    refine jx_eq (st2 := [.inl v, .inl v]) rfl rfl rfl ?_
    refine jx_icmp_eq 483 d_L_law_333 (by decide) (fun _ => ?_) (fun h => absurd rfl h)
    exact p1_end g2 ⟨by rw [hn.1, hk.2.2.2.2.1]; exact ma_r.1, by rw [hn.2, hk.2.2.2.2.2]; exact ma_r.2⟩
  · skip
    refine jx_of (fun _ _ kz => jw_tabIn 338 d_L_law_32 (by decide) (by decide) rfl (by decide) kz) ?_
    obtain ⟨v, hc, hm⟩ := q_task (G := G) (M := ma_4) d (G.2.2.2.2.2.2 (Int32.toNatClampNeg 1)) (G.2.2.2.2.2.2 (Int32.toNatClampNeg 2)) ma_c ma_m
    refine jx_of (fun _ _ kz => jw_aload_n 1 d_L_law_338 rfl rfl kz) ?_
    refine jx_of (fun _ _ kz => jw_aload_n 0 d_L_law_339 rfl rfl kz) ?_
    refine jx_of (fun _ _ kz => jw_iload_n 3 d_L_law_340 rfl rfl kz) ?_
    refine jx_of (fun _ _ kz => jw_iconst 1 d_L_law_341 (by decide) kz) ?_
    refine jx_of (fun _ _ kz => jw_iadd d_L_law_342 kz) ?_
    rw [show (0 + 1 : Int32) = 1 from by decide]
    refine jx_of (fun _ _ kz => jw_sld d_L_law_343 (by rw [g2]; unfold vp_in; decide) kz) ?_
    refine jx_of (fun _ _ kz => jw_aload_n 0 d_L_law_344 rfl rfl kz) ?_
    refine jx_of (fun _ _ kz => jw_iload_n 3 d_L_law_345 rfl rfl kz) ?_
    refine jx_of (fun _ _ kz => jw_iconst 2 d_L_law_346 (by decide) kz) ?_
    refine jx_of (fun _ _ kz => jw_iadd d_L_law_347 kz) ?_
    rw [show (0 + 2 : Int32) = 2 from by decide]
    refine jx_of (fun _ _ kz => jw_sld d_L_law_348 (by rw [g2]; unfold vp_in; decide) kz) ?_
    refine jx_callV hc mt_Y_task cf_Y rfl rfl ml_L_57 im_Y_task se_Y_task d_L_law_349 rfl rfl (Nat.le_of_ble_eq_true rfl) ?_
    rintro _ M1 ⟨rfl, hk⟩
    refine jx_eq (st2 := [.inl v]) rfl rfl rfl ?_
    refine jx_of (fun _ _ kz => jw_aload_n 2 d_L_law_352 rfl rfl kz) ?_
    refine jx_of (fun _ _ kz => jw_aload_n 0 d_L_law_353 rfl rfl kz) ?_
    refine jx_of (fun _ _ kz => jw_iload_n 3 d_L_law_354 rfl rfl kz) ?_
    refine jx_of (fun _ _ kz => jw_iconst 1 d_L_law_355 (by decide) kz) ?_
    refine jx_of (fun _ _ kz => jw_iadd d_L_law_356 kz) ?_
    rw [show (0 + 1 : Int32) = 1 from by decide]
    refine jx_of (fun _ _ kz => jw_sld d_L_law_357 (by rw [g2]; unfold vp_in; decide) kz) ?_
    refine jx_of (fun _ _ kz => jw_aload_n 0 d_L_law_358 rfl rfl kz) ?_
    refine jx_of (fun _ _ kz => jw_iload_n 3 d_L_law_359 rfl rfl kz) ?_
    refine jx_of (fun _ _ kz => jw_iconst 2 d_L_law_360 (by decide) kz) ?_
    refine jx_of (fun _ _ kz => jw_iadd d_L_law_361 kz) ?_
    rw [show (0 + 2 : Int32) = 2 from by decide]
    refine jx_of (fun _ _ kz => jw_sld d_L_law_362 (by rw [g2]; unfold vp_in; decide) kz) ?_
    refine jx_callV (hm M1 hk) mt_M_task cf_M rfl rfl ml_L_60 im_M_task se_M_task d_L_law_363 rfl rfl (Nat.le_of_ble_eq_true rfl) ?_
    rintro _ M2 ⟨rfl, hn⟩
    refine jx_eq (st2 := [.inl v, .inl v]) rfl rfl rfl ?_
    refine jx_icmp_eq 483 d_L_law_366 (by decide) (fun _ => ?_) (fun h => absurd rfl h)
    exact p1_end g2 ⟨by rw [hn.1, hk.2.2.2.2.1]; exact ma_r.1, by rw [hn.2, hk.2.2.2.2.2]; exact ma_r.2⟩
  · skip
    refine jx_of (fun _ _ kz => jw_tabIn 371 d_L_law_32 (by decide) (by decide) rfl (by decide) kz) ?_
    obtain ⟨v, hc, hm⟩ := q_worker (G := G) (M := ma_4) d (G.2.2.2.2.2.2 (Int32.toNatClampNeg 1)) (G.2.2.2.2.2.2 (Int32.toNatClampNeg 2)) ma_c ma_m
    refine jx_of (fun _ _ kz => jw_aload_n 1 d_L_law_371 rfl rfl kz) ?_
    refine jx_of (fun _ _ kz => jw_aload_n 0 d_L_law_372 rfl rfl kz) ?_
    refine jx_of (fun _ _ kz => jw_iload_n 3 d_L_law_373 rfl rfl kz) ?_
    refine jx_of (fun _ _ kz => jw_iconst 1 d_L_law_374 (by decide) kz) ?_
    refine jx_of (fun _ _ kz => jw_iadd d_L_law_375 kz) ?_
    rw [show (0 + 1 : Int32) = 1 from by decide]
    refine jx_of (fun _ _ kz => jw_sld d_L_law_376 (by rw [g2]; unfold vp_in; decide) kz) ?_
    refine jx_of (fun _ _ kz => jw_aload_n 0 d_L_law_377 rfl rfl kz) ?_
    refine jx_of (fun _ _ kz => jw_iload_n 3 d_L_law_378 rfl rfl kz) ?_
    refine jx_of (fun _ _ kz => jw_iconst 2 d_L_law_379 (by decide) kz) ?_
    refine jx_of (fun _ _ kz => jw_iadd d_L_law_380 kz) ?_
    rw [show (0 + 2 : Int32) = 2 from by decide]
    refine jx_of (fun _ _ kz => jw_sld d_L_law_381 (by rw [g2]; unfold vp_in; decide) kz) ?_
    refine jx_callV hc mt_Y_worker cf_Y rfl rfl ml_L_61 im_Y_worker se_Y_worker d_L_law_382 rfl rfl (Nat.le_of_ble_eq_true rfl) ?_
    rintro _ M1 ⟨rfl, hk⟩
    refine jx_eq (st2 := [.inl v]) rfl rfl rfl ?_
    refine jx_of (fun _ _ kz => jw_aload_n 2 d_L_law_385 rfl rfl kz) ?_
    refine jx_of (fun _ _ kz => jw_aload_n 0 d_L_law_386 rfl rfl kz) ?_
    refine jx_of (fun _ _ kz => jw_iload_n 3 d_L_law_387 rfl rfl kz) ?_
    refine jx_of (fun _ _ kz => jw_iconst 1 d_L_law_388 (by decide) kz) ?_
    refine jx_of (fun _ _ kz => jw_iadd d_L_law_389 kz) ?_
    rw [show (0 + 1 : Int32) = 1 from by decide]
    refine jx_of (fun _ _ kz => jw_sld d_L_law_390 (by rw [g2]; unfold vp_in; decide) kz) ?_
    refine jx_of (fun _ _ kz => jw_aload_n 0 d_L_law_391 rfl rfl kz) ?_
    refine jx_of (fun _ _ kz => jw_iload_n 3 d_L_law_392 rfl rfl kz) ?_
    refine jx_of (fun _ _ kz => jw_iconst 2 d_L_law_393 (by decide) kz) ?_
    refine jx_of (fun _ _ kz => jw_iadd d_L_law_394 kz) ?_
    rw [show (0 + 2 : Int32) = 2 from by decide]
    refine jx_of (fun _ _ kz => jw_sld d_L_law_395 (by rw [g2]; unfold vp_in; decide) kz) ?_
    refine jx_callV (hm M1 hk) mt_M_worker cf_M rfl rfl ml_L_64 im_M_worker se_M_worker d_L_law_396 rfl rfl (Nat.le_of_ble_eq_true rfl) ?_
    rintro _ M2 ⟨rfl, hn⟩
    refine jx_eq (st2 := [.inl v, .inl v]) rfl rfl rfl ?_
    refine jx_icmp_eq 483 d_L_law_399 (by decide) (fun _ => ?_) (fun h => absurd rfl h)
    exact p1_end g2 ⟨by rw [hn.1, hk.2.2.2.2.1]; exact ma_r.1, by rw [hn.2, hk.2.2.2.2.2]; exact ma_r.2⟩
  · skip
    refine jx_of (fun _ _ kz => jw_tabIn 404 d_L_law_32 (by decide) (by decide) rfl (by decide) kz) ?_
    obtain ⟨v, hc, hm⟩ := q_injected (G := G) (M := ma_4) d (G.2.2.2.2.2.2 (Int32.toNatClampNeg 1)) ma_c ma_m
    refine jx_of (fun _ _ kz => jw_aload_n 1 d_L_law_404 rfl rfl kz) ?_
    refine jx_of (fun _ _ kz => jw_aload_n 0 d_L_law_405 rfl rfl kz) ?_
    refine jx_of (fun _ _ kz => jw_iload_n 3 d_L_law_406 rfl rfl kz) ?_
    refine jx_of (fun _ _ kz => jw_iconst 1 d_L_law_407 (by decide) kz) ?_
    refine jx_of (fun _ _ kz => jw_iadd d_L_law_408 kz) ?_
    rw [show (0 + 1 : Int32) = 1 from by decide]
    refine jx_of (fun _ _ kz => jw_sld d_L_law_409 (by rw [g2]; unfold vp_in; decide) kz) ?_
    refine jx_callV hc mt_Y_injected cf_Y rfl rfl ml_L_65 im_Y_injected se_Y_injected d_L_law_410 rfl rfl (Nat.le_of_ble_eq_true rfl) ?_
    rintro _ M1 ⟨rfl, hk⟩
    refine jx_eq (st2 := [.inl v]) rfl rfl rfl ?_
    refine jx_of (fun _ _ kz => jw_aload_n 2 d_L_law_413 rfl rfl kz) ?_
    refine jx_of (fun _ _ kz => jw_aload_n 0 d_L_law_414 rfl rfl kz) ?_
    refine jx_of (fun _ _ kz => jw_iload_n 3 d_L_law_415 rfl rfl kz) ?_
    refine jx_of (fun _ _ kz => jw_iconst 1 d_L_law_416 (by decide) kz) ?_
    refine jx_of (fun _ _ kz => jw_iadd d_L_law_417 kz) ?_
    rw [show (0 + 1 : Int32) = 1 from by decide]
    refine jx_of (fun _ _ kz => jw_sld d_L_law_418 (by rw [g2]; unfold vp_in; decide) kz) ?_
    refine jx_callV (hm M1 hk) mt_M_injected cf_M rfl rfl ml_L_68 im_M_injected se_M_injected d_L_law_419 rfl rfl (Nat.le_of_ble_eq_true rfl) ?_
    rintro _ M2 ⟨rfl, hn⟩
    refine jx_eq (st2 := [.inl v, .inl v]) rfl rfl rfl ?_
    refine jx_icmp_eq 483 d_L_law_422 (by decide) (fun _ => ?_) (fun h => absurd rfl h)
    exact p1_end g2 ⟨by rw [hn.1, hk.2.2.2.2.1]; exact ma_r.1, by rw [hn.2, hk.2.2.2.2.2]; exact ma_r.2⟩
  · skip
    refine jx_of (fun _ _ kz => jw_tabIn 427 d_L_law_32 (by decide) (by decide) rfl (by decide) kz) ?_
    obtain ⟨v, hc, hm⟩ := q_gate (G := G) (M := ma_4) d (G.2.2.2.2.2.2 (Int32.toNatClampNeg 1)) (G.2.2.2.2.2.2 (Int32.toNatClampNeg 2)) ma_c ma_m
    refine jx_of (fun _ _ kz => jw_aload_n 1 d_L_law_427 rfl rfl kz) ?_
    refine jx_of (fun _ _ kz => jw_aload_n 0 d_L_law_428 rfl rfl kz) ?_
    refine jx_of (fun _ _ kz => jw_iload_n 3 d_L_law_429 rfl rfl kz) ?_
    refine jx_of (fun _ _ kz => jw_iconst 1 d_L_law_430 (by decide) kz) ?_
    refine jx_of (fun _ _ kz => jw_iadd d_L_law_431 kz) ?_
    rw [show (0 + 1 : Int32) = 1 from by decide]
    refine jx_of (fun _ _ kz => jw_sld d_L_law_432 (by rw [g2]; unfold vp_in; decide) kz) ?_
    refine jx_of (fun _ _ kz => jw_aload_n 0 d_L_law_433 rfl rfl kz) ?_
    refine jx_of (fun _ _ kz => jw_iload_n 3 d_L_law_434 rfl rfl kz) ?_
    refine jx_of (fun _ _ kz => jw_iconst 2 d_L_law_435 (by decide) kz) ?_
    refine jx_of (fun _ _ kz => jw_iadd d_L_law_436 kz) ?_
    rw [show (0 + 2 : Int32) = 2 from by decide]
    refine jx_of (fun _ _ kz => jw_sld d_L_law_437 (by rw [g2]; unfold vp_in; decide) kz) ?_
    refine jx_callV hc mt_Y_gate cf_Y rfl rfl ml_L_69 im_Y_gate se_Y_gate d_L_law_438 rfl rfl (Nat.le_of_ble_eq_true rfl) ?_
    rintro _ M1 ⟨rfl, hk⟩
    refine jx_eq (st2 := [.inl v]) rfl rfl rfl ?_
    refine jx_of (fun _ _ kz => jw_aload_n 2 d_L_law_441 rfl rfl kz) ?_
    refine jx_of (fun _ _ kz => jw_aload_n 0 d_L_law_442 rfl rfl kz) ?_
    refine jx_of (fun _ _ kz => jw_iload_n 3 d_L_law_443 rfl rfl kz) ?_
    refine jx_of (fun _ _ kz => jw_iconst 1 d_L_law_444 (by decide) kz) ?_
    refine jx_of (fun _ _ kz => jw_iadd d_L_law_445 kz) ?_
    rw [show (0 + 1 : Int32) = 1 from by decide]
    refine jx_of (fun _ _ kz => jw_sld d_L_law_446 (by rw [g2]; unfold vp_in; decide) kz) ?_
    refine jx_of (fun _ _ kz => jw_aload_n 0 d_L_law_447 rfl rfl kz) ?_
    refine jx_of (fun _ _ kz => jw_iload_n 3 d_L_law_448 rfl rfl kz) ?_
    refine jx_of (fun _ _ kz => jw_iconst 2 d_L_law_449 (by decide) kz) ?_
    refine jx_of (fun _ _ kz => jw_iadd d_L_law_450 kz) ?_
    rw [show (0 + 2 : Int32) = 2 from by decide]
    refine jx_of (fun _ _ kz => jw_sld d_L_law_451 (by rw [g2]; unfold vp_in; decide) kz) ?_
    refine jx_callV (hm M1 hk) mt_M_gate cf_M rfl rfl ml_L_72 im_M_gate se_M_gate d_L_law_452 rfl rfl (Nat.le_of_ble_eq_true rfl) ?_
    rintro _ M2 ⟨rfl, hn⟩
    refine jx_eq (st2 := [.inl v, .inl v]) rfl rfl rfl ?_
    refine jx_icmp_eq 483 d_L_law_455 (by decide) (fun _ => ?_) (fun h => absurd rfl h)
    exact p1_end g2 ⟨by rw [hn.1, hk.2.2.2.2.1]; exact ma_r.1, by rw [hn.2, hk.2.2.2.2.2]; exact ma_r.2⟩
  · skip
    refine jx_of (fun _ _ kz => jw_tabIn 460 d_L_law_32 (by decide) (by decide) rfl (by decide) kz) ?_
    obtain ⟨v, hc, hm⟩ := q_count (G := G) (M := ma_4) d (G.2.2.2.2.2.2 (Int32.toNatClampNeg 1)) ma_c ma_m
    refine jx_of (fun _ _ kz => jw_aload_n 1 d_L_law_460 rfl rfl kz) ?_
    refine jx_of (fun _ _ kz => jw_aload_n 0 d_L_law_461 rfl rfl kz) ?_
    refine jx_of (fun _ _ kz => jw_iload_n 3 d_L_law_462 rfl rfl kz) ?_
    refine jx_of (fun _ _ kz => jw_iconst 1 d_L_law_463 (by decide) kz) ?_
    refine jx_of (fun _ _ kz => jw_iadd d_L_law_464 kz) ?_
    rw [show (0 + 1 : Int32) = 1 from by decide]
    refine jx_of (fun _ _ kz => jw_sld d_L_law_465 (by rw [g2]; unfold vp_in; decide) kz) ?_
    refine jx_callV hc mt_Y_count cf_Y rfl rfl ml_L_73 im_Y_count se_Y_count d_L_law_466 rfl rfl (Nat.le_of_ble_eq_true rfl) ?_
    rintro _ M1 ⟨rfl, hk⟩
    refine jx_eq (st2 := [.inl v]) rfl rfl rfl ?_
    refine jx_of (fun _ _ kz => jw_aload_n 2 d_L_law_469 rfl rfl kz) ?_
    refine jx_of (fun _ _ kz => jw_aload_n 0 d_L_law_470 rfl rfl kz) ?_
    refine jx_of (fun _ _ kz => jw_iload_n 3 d_L_law_471 rfl rfl kz) ?_
    refine jx_of (fun _ _ kz => jw_iconst 1 d_L_law_472 (by decide) kz) ?_
    refine jx_of (fun _ _ kz => jw_iadd d_L_law_473 kz) ?_
    rw [show (0 + 1 : Int32) = 1 from by decide]
    refine jx_of (fun _ _ kz => jw_sld d_L_law_474 (by rw [g2]; unfold vp_in; decide) kz) ?_
    refine jx_callV (hm M1 hk) mt_M_count cf_M rfl rfl ml_L_76 im_M_count se_M_count d_L_law_475 rfl rfl (Nat.le_of_ble_eq_true rfl) ?_
    rintro _ M2 ⟨rfl, hn⟩
    refine jx_eq (st2 := [.inl v, .inl v]) rfl rfl rfl ?_
    refine jx_icmp_eq 483 d_L_law_478 (by decide) (fun _ => ?_) (fun h => absurd rfl h)
    exact p1_end g2 ⟨by rw [hn.1, hk.2.2.2.2.1]; exact ma_r.1, by rw [hn.2, hk.2.2.2.2.2]; exact ma_r.2⟩
  · skip
    refine jx_of (fun _ _ kz => jw_tabOut 483 d_L_law_32 (by decide) (by decide) kz) ?_
    exact p1_end g2 ma_r
set_option maxRecDepth 20000 in
set_option maxHeartbeats 4000000 in
theorem p1_law {G : Gt} {nm : String} (d L : Nat) (hL : L ≤ 3) (g2 : G.2.2.2.2.2.1 = L) : jx G (yt_L nm) (d + 10) 0 0 ma_0 0 [some (.inr (some (25, 0))), none, none, none] [] (fun r M' => r = some (.inl 1) ∧ me_C M' ≤ 600000 ∧ me_S M' ≤ 7302250) := by
  refine jx_of (fun _ _ kz => jw_newe (s := 0) 0 cf_Y df_Y cl_L_7 it_Y ii_Y d_L_law_0 rfl rfl (by decide) kz) ?_
  refine jx_eq (M2 := ma_1) rfl rfl rfl ?_
  refine jx_of (fun _ _ kz => jw_dup d_L_law_3 kz) ?_
  refine jx_callI (ma_Y (d + 6)) mt_Y_init rfl rfl ml_L_9 im_Y_init d_L_law_4 rfl rfl (Nat.le_of_ble_eq_true rfl) (fun _ _ h => h.1) ?_
  rintro _ ⟨_, rfl⟩
  refine jx_of (fun _ _ kz => jw_astore_n 1 d_L_law_7 rfl (Nat.le_of_ble_eq_true rfl) kz) ?_
  dsimp only [List.set]
  refine jx_of (fun _ _ kz => jw_newe (s := 7) 0 cf_M df_M cl_L_10 it_M ii_M d_L_law_8 rfl rfl (by decide +kernel) kz) ?_
  refine jx_eq (M2 := ma_3) rfl rfl rfl ?_
  refine jx_of (fun _ _ kz => jw_dup d_L_law_11 kz) ?_
  refine jx_callI (ma_M (d + 8)) mt_M_init rfl rfl ml_L_12 im_M_init d_L_law_12 rfl rfl (Nat.le_of_ble_eq_true rfl) (fun _ _ h => h.1) ?_
  rintro _ ⟨_, rfl⟩
  refine jx_of (fun _ _ kz => jw_astore_n 2 d_L_law_15 rfl (Nat.le_of_ble_eq_true rfl) kz) ?_
  dsimp only [List.set]
  refine jx_of (fun _ _ kz => jw_iconst 0 d_L_law_16 (by decide) kz) ?_
  refine jx_of (fun _ _ kz => jw_istore_n 3 d_L_law_17 rfl (Nat.le_of_ble_eq_true rfl) kz) ?_
  dsimp only [List.set]
  rcases (show L = 0 ∨ L = 1 ∨ L = 2 ∨ L = 3 by omega) with rfl | rfl | rfl | rfl
  · skip
    refine jx_of (fun _ _ kz => jw_iload_n 3 d_L_law_18 rfl rfl kz) ?_
    refine jx_of (fun _ _ kz => jw_aload_n 0 d_L_law_19 rfl rfl kz) ?_
    refine jx_of (fun _ _ kz => jw_slen d_L_law_20 kz) ?_
    rw [g2]
    refine jx_of (fun _ _ kz => jw_iconst 3 d_L_law_21 (by decide) kz) ?_
    refine jx_of (fun _ _ kz => jw_isub d_L_law_22 kz) ?_
    refine jx_icmp_gt 489 d_L_law_23 (by decide) (fun _ => ?_) (fun h => absurd (by decide) h)
    refine jx_of (fun _ _ kz => jw_iconst 1 d_L_law_489 (by decide) kz) ?_
    refine jx_zret d_L_law_490 rfl (by decide) ?_
    exact ⟨rfl, by have := ma_r; omega, by have := ma_r; omega⟩
  · skip
    refine jx_of (fun _ _ kz => jw_iload_n 3 d_L_law_18 rfl rfl kz) ?_
    refine jx_of (fun _ _ kz => jw_aload_n 0 d_L_law_19 rfl rfl kz) ?_
    refine jx_of (fun _ _ kz => jw_slen d_L_law_20 kz) ?_
    rw [g2]
    refine jx_of (fun _ _ kz => jw_iconst 3 d_L_law_21 (by decide) kz) ?_
    refine jx_of (fun _ _ kz => jw_isub d_L_law_22 kz) ?_
    refine jx_icmp_gt 489 d_L_law_23 (by decide) (fun _ => ?_) (fun h => absurd (by decide) h)
    refine jx_of (fun _ _ kz => jw_iconst 1 d_L_law_489 (by decide) kz) ?_
    refine jx_zret d_L_law_490 rfl (by decide) ?_
    exact ⟨rfl, by have := ma_r; omega, by have := ma_r; omega⟩
  · skip
    refine jx_of (fun _ _ kz => jw_iload_n 3 d_L_law_18 rfl rfl kz) ?_
    refine jx_of (fun _ _ kz => jw_aload_n 0 d_L_law_19 rfl rfl kz) ?_
    refine jx_of (fun _ _ kz => jw_slen d_L_law_20 kz) ?_
    rw [g2]
    refine jx_of (fun _ _ kz => jw_iconst 3 d_L_law_21 (by decide) kz) ?_
    refine jx_of (fun _ _ kz => jw_isub d_L_law_22 kz) ?_
    refine jx_icmp_gt 489 d_L_law_23 (by decide) (fun _ => ?_) (fun h => absurd (by decide) h)
    refine jx_of (fun _ _ kz => jw_iconst 1 d_L_law_489 (by decide) kz) ?_
    refine jx_zret d_L_law_490 rfl (by decide) ?_
    exact ⟨rfl, by have := ma_r; omega, by have := ma_r; omega⟩
  · exact p1_body d g2
