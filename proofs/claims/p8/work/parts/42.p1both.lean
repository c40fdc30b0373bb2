def ma_1 : Me := me_nx ma_0 0 0 0 14
def ma_2 : Me := (me_sI (me_sI (me_sI (me_sI (me_sP (me_sP (me_sI (me_sP (me_sP (me_nx (me_sI (me_nx (me_nx (me_sP (me_sI (me_sP (me_sP (me_nx (me_sI (me_nx (me_nx (me_nx (me_sP (me_sP (me_sI (me_sP (me_sP (me_nx (me_sI (me_nx (me_nx (me_sP (me_sI (me_sP (me_sP (me_nx (me_sI (me_nx (me_nx (me_nx (me_sP (me_sP (me_nx (me_sI (me_nx (me_sP (me_sP (me_nx (me_sI (me_nx (me_sP (me_sP (me_sI (me_sI (me_sI (me_sI (me_sP (me_sP (me_nx (me_sI (me_nx (me_nx (me_sP (me_sI (me_sI (me_sI (me_sI (me_sP (me_sP (me_nx (me_sI (me_nx (me_nx (me_sP (me_sI (me_sI (me_sI (me_sI (me_sP (me_sP (me_nx (me_sI (me_nx (me_nx (me_nx (me_sI (me_sP (me_nx (me_sI (me_sP (me_nx (me_sP (me_sI (me_sP (me_nx (me_sP (me_nx (me_sP (me_nx (me_nx ma_1 1 0 0 4) 11 0 12 12) 1 0 0 (some (11, 0))) 12 0 12 12) 1 0 1 (some (12, 0))) 13 0 12 12) 1 0 2 (some (13, 0))) 1 0 3 (0)) 0 0 0 (some (1, 0))) 17 0 6 6) 0 0 1 (some (17, 0))) 0 0 2 (0)) 18 0 12 12) 0 0 3 (some (18, 0))) 0 0 4 (0)) 19 0 3 3) 3 0 0 5) 4 0 0 2) 4 0 1 (0)) 10 0 4 4) 4 0 0 (some (10, 0))) 3 0 1 (some (4, 0))) 3 0 2 ((-1))) 3 0 3 (0)) 3 0 4 (0)) 3 0 0 (0)) 19 0 0 (some (3, 0))) 3 1 0 5) 4 1 0 2) 4 1 1 (0)) 10 1 4 4) 4 1 0 (some (10, 1))) 3 1 1 (some (4, 1))) 3 1 2 ((-1))) 3 1 3 (0)) 3 1 4 (0)) 3 1 0 (1)) 19 0 1 (some (3, 1))) 3 2 0 5) 4 2 0 2) 4 2 1 (0)) 10 2 4 4) 4 2 0 (some (10, 2))) 3 2 1 (some (4, 2))) 3 2 2 ((-1))) 3 2 3 (0)) 3 2 4 (0)) 3 2 0 (2)) 19 0 2 (some (3, 2))) 0 0 5 (some (19, 0))) 4 3 0 2) 4 3 1 (0)) 10 3 12 12) 4 3 0 (some (10, 3))) 0 0 6 (some (4, 3))) 4 4 0 2) 4 4 1 (0)) 10 4 12 12) 4 4 0 (some (10, 4))) 0 0 7 (some (4, 4))) 20 0 2 2) 5 0 0 2) 4 5 0 2) 4 5 1 (0)) 10 5 72 72) 4 5 0 (some (10, 5))) 5 0 0 (some (4, 5))) 5 0 1 (1)) 20 0 0 (some (5, 0))) 5 1 0 2) 4 6 0 2) 4 6 1 (0)) 10 6 72 72) 4 6 0 (some (10, 6))) 5 1 0 (some (4, 6))) 5 1 1 (1)) 20 0 1 (some (5, 1))) 0 0 8 (some (20, 0))) 21 0 2 2) 6 0 0 2) 4 7 0 2) 4 7 1 (0)) 10 7 72 72) 4 7 0 (some (10, 7))) 6 0 0 (some (4, 7))) 6 0 1 (0)) 21 0 0 (some (6, 0))) 6 1 0 2) 4 8 0 2) 4 8 1 (0)) 10 8 72 72) 4 8 0 (some (10, 8))) 6 1 0 (some (4, 8))) 6 1 1 (0)) 21 0 1 (some (6, 1))) 0 0 9 (some (21, 0))) 0 0 10 (0)) 0 0 11 (0)) 0 0 12 (0)) 0 0 13 (0))
def ma_3 : Me := me_nx ma_2 7 0 0 36
def ma_4 : Me := (me_sI (me_sP (me_nx (me_sP (me_sI (me_sI (me_nx (me_sP (me_nx (me_sP (me_nx (me_sP (me_nx (me_sP (me_nx (me_sP (me_nx (me_sP (me_sI (me_sI (me_sI (me_nx (me_sP (me_nx (me_sP (me_nx (me_sP (me_nx (me_sP (me_nx (me_sP (me_nx (me_sP (me_nx (me_sP (me_nx (me_sP (me_nx (me_sP (me_nx (me_sP (me_nx (me_sP (me_nx (me_sP (me_nx (me_sP (me_nx (me_sP (me_nx (me_sP (me_nx (me_sP (me_nx (me_sP (me_nx (me_sP (me_nx ma_3 30 0 84 84) 7 0 0 (some (30, 0))) 31 0 84 84) 7 0 1 (some (31, 0))) 32 0 7 7) 7 0 2 (some (32, 0))) 33 0 12 12) 7 0 4 (some (33, 0))) 34 0 12 12) 7 0 5 (some (34, 0))) 35 0 12 12) 7 0 6 (some (35, 0))) 36 0 12 12) 7 0 7 (some (36, 0))) 37 0 12 12) 7 0 8 (some (37, 0))) 38 0 12 12) 7 0 9 (some (38, 0))) 39 0 12 12) 7 0 10 (some (39, 0))) 40 0 144 144) 7 0 11 (some (40, 0))) 41 0 144 144) 7 0 12 (some (41, 0))) 42 0 144 144) 7 0 13 (some (42, 0))) 43 0 144 144) 7 0 14 (some (43, 0))) 44 0 144 144) 7 0 15 (some (44, 0))) 45 0 144 144) 7 0 16 (some (45, 0))) 46 0 13 13) 7 0 17 (some (46, 0))) 47 0 13 13) 7 0 18 (some (47, 0))) 48 0 3 3) 48 0 0 ((-1))) 48 0 1 ((-1))) 48 0 2 ((-1))) 7 0 19 (some (48, 0))) 49 0 3 3) 7 0 20 (some (49, 0))) 50 0 3 3) 7 0 21 (some (50, 0))) 51 0 12 12) 7 0 22 (some (51, 0))) 52 0 3 3) 7 0 23 (some (52, 0))) 53 0 12 12) 7 0 24 (some (53, 0))) 54 0 2 2) 54 0 0 (1)) 54 0 1 (1)) 7 0 25 (some (54, 0))) 55 0 2 2) 7 0 26 (some (55, 0))) 7 0 35 ((-1)))
theorem ma_Y {G : Gt} (d : Nat) : sx G yt_Y_init yn_Y_init (d + 3) [.inr (some (0, 0))] ma_1 (fun r M' => r = none ∧ ma_2 = M') := x_Y_init d (by decide) (by decide) (by decide) (by decide) (by decide) (by decide) (by decide) (by decide) (by decide) (by decide) (by decide) (by decide) (by decide) (by decide)
theorem ma_M {G : Gt} (d : Nat) : sx G yt_M_init yn_M_init (d + 1) [.inr (some (7, 0))] ma_3 (fun r M' => r = none ∧ ma_4 = M') := x_M_init d (by decide +kernel) (by decide +kernel) (by decide +kernel) (by decide +kernel) (by decide +kernel) (by decide +kernel) (by decide +kernel) (by decide +kernel) (by decide +kernel) (by decide +kernel) (by decide +kernel) (by decide +kernel) (by decide +kernel) (by decide +kernel) (by decide +kernel) (by decide +kernel) (by decide +kernel) (by decide +kernel) (by decide +kernel) (by decide +kernel) (by decide +kernel) (by decide +kernel) (by decide +kernel) (by decide +kernel) (by decide +kernel) (by decide +kernel)
theorem ma_c : cfr ma_4 := ⟨by decide +kernel, by decide +kernel, by decide +kernel⟩
theorem ma_m : mfr ma_4 := ⟨by decide +kernel, by decide +kernel, by decide +kernel⟩
theorem ma_r : me_C ma_4 ≤ 1000 ∧ me_S ma_4 ≤ 10000 := by decide +kernel
theorem mfr_kp {M M1 : Me} (h : mfr M) (k : kpM M M1) : mfr M1 := by
  refine ⟨fun q hq => ?_, fun q hq => ?_, fun q hq => ?_⟩
  · have e := (by decide : ∀ q ∈ mq_P, q.1 = 7 ∧ q.2.1 = 0) q hq
    have h0 := h.1 q hq
    rw [e.1, e.2] at h0 ⊢
    rw [k.2.2.1]; exact h0
  · have e := (by decide : ∀ q ∈ mq_L, 30 ≤ q.1 ∧ q.2.1 = 0) q hq
    have h0 := h.2.1 q hq
    rw [e.2] at h0 ⊢
    rw [k.2.2.2.1 _ e.1]; exact h0
  · have e := (by decide : ∀ q ∈ mq_I, (q.1 = 7 ∨ 30 ≤ q.1) ∧ q.2.1 = 0) q hq
    have h0 := h.2.2 q hq
    rw [e.2] at h0 ⊢
    rcases e.1 with e1 | e1
    · rw [e1] at h0 ⊢
      rw [k.1]; exact h0
    · rw [k.2.1 _ _ e1]; exact h0
def both (G : Gt) (M : Me) (Yc : Yt) (yc : MethodName) (Ym : Yt) (ym : MethodName) (d : Nat) (as : List AV) : Prop := ∃ v : Int32, sx G Yc yc d (.inr (some (0, 0)) :: as) M (fun r M' => r = some (.inl v) ∧ kpM M M') ∧ ∀ M1, kpM M M1 → sx G Ym ym d (.inr (some (7, 0)) :: as) M1 (fun r M' => r = some (.inl v) ∧ nC M1 M')
theorem q_token {G : Gt} {M : Me} (d : Nat) (x : Int32) (y : Int32) (hc : cfr M) (hm : mfr M) : both G M yt_Y_token yn_Y_token yt_M_token yn_M_token (d + 9) [.inl x, .inl y] := by
  rcases tkv_one (x := x) (y := y) with h | h
  · exact ⟨tkv x y, x_Y_token (d + 7) x y hc, fun M1 k => by rw [h]; exact x_M_token_t (d + 6) x y (mfr_kp hm k) h⟩
  · exact ⟨tkv x y, x_Y_token (d + 7) x y hc, fun M1 k => by rw [h]; exact x_M_token_f (d + 6) x y (mfr_kp hm k) (by rw [h]; decide)⟩
theorem q_define {G : Gt} {M : Me} (d : Nat) (hc : cfr M) (hm : mfr M) : both G M yt_Y_define yn_Y_define yt_M_define yn_M_define (d + 9) [] := by
  exact ⟨-1, sx_mono (x_Y_define (d + 7) hc) (fun r M2 h => ⟨h.1, by rw [← h.2]; exact kp_rf⟩), fun M1 k => sx_mono (x_M_define (d + 8) (mfr_kp hm k)) (fun r M2 h => ⟨h.1, by rw [← h.2]; exact ⟨rfl, rfl⟩⟩)⟩
theorem q_clear {G : Gt} {M : Me} (d : Nat) (hc : cfr M) (hm : mfr M) : both G M yt_Y_clear yn_Y_clear yt_M_clear yn_M_clear (d + 9) [] := by
  exact ⟨0, sx_mono (x_Y_clear (d + 8) hc) (fun r M2 h => ⟨h.1, by rw [← h.2]; exact kp_sI kp_rf (by decide)⟩), fun M1 k => sx_mono (x_M_clear (d + 8) (mfr_kp hm k)) (fun r M2 h => ⟨h.1, by rw [← h.2]; exact ⟨rfl, rfl⟩⟩)⟩
theorem q_spawn {G : Gt} {M : Me} (d : Nat) (x : Int32) (hc : cfr M) (hm : mfr M) : both G M yt_Y_spawn yn_Y_spawn yt_M_spawn yn_M_spawn (d + 9) [.inl x] := by
  exact ⟨-1, sx_mono (x_Y_spawn (d + 8) x hc) (fun r M2 h => ⟨h.1, by rw [← h.2]; exact kp_rf⟩), fun M1 k => sx_mono (x_M_spawn (d + 7) x (mfr_kp hm k)) (fun r M2 h => ⟨h.1, by rw [← h.2]; exact ⟨rfl, rfl⟩⟩)⟩
theorem q_task {G : Gt} {M : Me} (d : Nat) (x : Int32) (y : Int32) (hc : cfr M) (hm : mfr M) : both G M yt_Y_task yn_Y_task yt_M_task yn_M_task (d + 9) [.inl x, .inl y] := by
  exact ⟨-1, sx_mono (x_Y_task (d + 7) x y hc) (fun r M2 h => ⟨h.1, by rw [← h.2]; exact kp_rf⟩), fun M1 k => sx_mono (x_M_task (d + 7) x y (mfr_kp hm k)) (fun r M2 h => ⟨h.1, by rw [← h.2]; exact ⟨rfl, rfl⟩⟩)⟩
theorem q_abort {G : Gt} {M : Me} (d : Nat) (x : Int32) (hc : cfr M) (hm : mfr M) : both G M yt_Y_abort yn_Y_abort yt_M_abort yn_M_abort (d + 9) [.inl x] := by
  exact ⟨0, sx_mono (x_Y_abort (d + 7) x hc) (fun r M2 h => ⟨h.1, by rw [← h.2]; exact kp_rf⟩), fun M1 k => sx_mono (x_M_abort (d + 7) x (mfr_kp hm k)) (fun r M2 h => ⟨h.1, by rw [← h.2]; exact ⟨rfl, rfl⟩⟩)⟩
theorem q_injected {G : Gt} {M : Me} (d : Nat) (x : Int32) (hc : cfr M) (hm : mfr M) : both G M yt_Y_injected yn_Y_injected yt_M_injected yn_M_injected (d + 9) [.inl x] := by
  exact ⟨-1, sx_mono (x_Y_injected (d + 7) x hc) (fun r M2 h => ⟨h.1, by rw [← h.2]; exact kp_rf⟩), fun M1 k => sx_mono (x_M_injected (d + 7) x (mfr_kp hm k)) (fun r M2 h => ⟨h.1, by rw [← h.2]; exact ⟨rfl, rfl⟩⟩)⟩
theorem q_count {G : Gt} {M : Me} (d : Nat) (x : Int32) (hc : cfr M) (hm : mfr M) : both G M yt_Y_count yn_Y_count yt_M_count yn_M_count (d + 9) [.inl x] := by
  exact ⟨_, x_Y_count (d + 7) x hc, fun M1 k => x_M_count (d + 7) x (mfr_kp hm k)⟩
theorem in_gt {x c : Int32} {n : Nat} (h : nI n ≤ x) (hc : c.toInt = (n : Int) - 1 ∧ n < 2 ^ 31) : c < x := by
  refine Int32.lt_iff_toInt_lt.mpr ?_
  have := Int32.le_iff_toInt_le.mp h
  rw [nI_toInt hc.2] at this
  rw [hc.1]; omega
theorem em2 (y a b : Int32) : (¬ y < a ∧ ¬ b < y) ∨ (y < a ∨ b < y) := by
  rcases Classical.em (y < a) with h | h
  · exact Or.inr (Or.inl h)
  · rcases Classical.em (b < y) with h2 | h2
    · exact Or.inr (Or.inr h2)
    · exact Or.inl ⟨h, h2⟩
theorem q_turn {G : Gt} {M : Me} (d : Nat) (x : Int32) (hc : cfr M) (hm : mfr M) : both G M yt_Y_turn yn_Y_turn yt_M_turn yn_M_turn (d + 9) [.inl x] := by
  rcases pk_ix x (n := 3) (by decide) with h | h | ⟨j, hj, rfl⟩
  · exact ⟨-1, x_Y_turn_x (d + 4) x hc (Or.inl h), fun M1 k => x_M_turn_x (d + 7) x (mfr_kp hm k) (Or.inl h)⟩
  · exact ⟨-1, x_Y_turn_x (d + 4) x hc (Or.inr (by exact h)), fun M1 k => x_M_turn_x (d + 7) x (mfr_kp hm k) (Or.inr (by exact in_gt h (by decide)))⟩
  · rcases (show j = 0 ∨ j = 1 ∨ j = 2 by omega) with rfl | rfl | rfl
    · rw [show nI 0 = 0 from by decide]
      exact ⟨-2, x_Y_turn_0 (d + 4) hc, fun M1 k => sx_mono (x_M_turn_0 (d + 7) (mid_of (mfr_kp hm k))) (fun r M2 h => ⟨h.1, h.2.2.2⟩)⟩
    · rw [show nI 1 = 1 from by decide]
      exact ⟨-2, x_Y_turn_1 (d + 4) hc, fun M1 k => sx_mono (x_M_turn_1 (d + 7) (mid_of (mfr_kp hm k))) (fun r M2 h => ⟨h.1, h.2.2.2⟩)⟩
    · rw [show nI 2 = 2 from by decide]
      exact ⟨-2, x_Y_turn_2 (d + 4) hc, fun M1 k => sx_mono (x_M_turn_2 (d + 7) (mid_of (mfr_kp hm k))) (fun r M2 h => ⟨h.1, h.2.2.2⟩)⟩
theorem q_run {G : Gt} {M : Me} (d : Nat) (x : Int32) (hc : cfr M) (hm : mfr M) : both G M yt_Y_run yn_Y_run yt_M_run yn_M_run (d + 9) [.inl x] := by
  rcases em2 x 1 30 with ⟨h1, h2⟩ | h
  · exact ⟨_, x_Y_run (d + 4) x hc, fun M1 k => by rw [if_neg h1, if_neg h2]; exact x_M_run_t (d + 6) x (mfr_kp hm k) h1 h2⟩
  · refine ⟨_, x_Y_run (d + 4) x hc, fun M1 k => ?_⟩
    rw [show (if x < 1 then -1 else if 30 < x then -1 else 0 : Int32) = -1 from by rcases h with h | h <;> simp [h]]
    exact x_M_run_f (d + 6) x (mfr_kp hm k) h
theorem q_tick {G : Gt} {M : Me} (d : Nat) (x : Int32) (hc : cfr M) (hm : mfr M) : both G M yt_Y_tick yn_Y_tick yt_M_tick yn_M_tick (d + 9) [.inl x] := by
  rcases em2 x 1 20 with ⟨h1, h2⟩ | h
  · exact ⟨_, x_Y_tick (d + 7) x hc, fun M1 k => by rw [if_neg h1, if_neg h2]; exact x_M_tick_t (d + 7) x (mfr_kp hm k) h1 h2⟩
  · refine ⟨_, x_Y_tick (d + 7) x hc, fun M1 k => ?_⟩
    rw [show (if x < 1 then -1 else if 20 < x then -1 else x : Int32) = -1 from by rcases h with h | h <;> simp [h]]
    exact x_M_tick_f (d + 7) x (mfr_kp hm k) h
theorem q_put {G : Gt} {M : Me} (d : Nat) (x : Int32) (y : Int32) (hc : cfr M) (hm : mfr M) : both G M yt_Y_put yn_Y_put yt_M_put yn_M_put (d + 9) [.inl x, .inl y] := by
  rcases pk_ix x (n := 2) (by decide) with h | h | ⟨j, hj, rfl⟩
  · exact ⟨-1, x_Y_put_x (d + 7) x y hc (Or.inl h), fun M1 k => x_M_put_x (d + 7) x y (mfr_kp hm k) (Or.inl h)⟩
  · exact ⟨-1, x_Y_put_x (d + 7) x y hc (Or.inr (by exact in_gt h (by decide))), fun M1 k => x_M_put_x (d + 7) x y (mfr_kp hm k) (Or.inr (by exact in_gt h (by decide)))⟩
  · rcases (show j = 0 ∨ j = 1 by omega) with rfl | rfl
    · rw [show nI 0 = 0 from by decide]
      rcases em2 y 1 9 with ⟨h1, h2⟩ | h
      · exact ⟨_, x_Y_put_0 (d + 7) y hc, fun M1 k => by rw [if_neg h1, if_neg h2]; exact x_M_put_0 (d + 6) y (mfr_kp hm k) h1 h2⟩
      · refine ⟨_, x_Y_put_0 (d + 7) y hc, fun M1 k => ?_⟩
        rw [show (if y < 1 then -1 else if 9 < y then -1 else 1 + y : Int32) = -1 from by rcases h with h | h <;> simp [h]]
        exact x_M_put_0_x (d + 6) y (mfr_kp hm k) h
    · rw [show nI 1 = 1 from by decide]
      rcases em2 y 1 9 with ⟨h1, h2⟩ | h
      · exact ⟨_, x_Y_put_1 (d + 7) y hc, fun M1 k => by rw [if_neg h1, if_neg h2]; exact x_M_put_1 (d + 6) y (mfr_kp hm k) h1 h2⟩
      · refine ⟨_, x_Y_put_1 (d + 7) y hc, fun M1 k => ?_⟩
        rw [show (if y < 1 then -1 else if 9 < y then -1 else 1 + y : Int32) = -1 from by rcases h with h | h <;> simp [h]]
        exact x_M_put_1_x (d + 6) y (mfr_kp hm k) h
theorem q_wake {G : Gt} {M : Me} (d : Nat) (x : Int32) (hc : cfr M) (hm : mfr M) : both G M yt_Y_wake yn_Y_wake yt_M_wake yn_M_wake (d + 9) [.inl x] := by
  rcases pk_ix x (n := 2) (by decide) with h | h | ⟨j, hj, rfl⟩
  · exact ⟨-1, x_Y_wake_x (d + 6) x hc (Or.inl h), fun M1 k => x_M_wake_x (d + 7) x (mfr_kp hm k) (Or.inl h)⟩
  · exact ⟨-1, x_Y_wake_x (d + 6) x hc (Or.inr (by exact in_gt h (by decide))), fun M1 k => x_M_wake_x (d + 7) x (mfr_kp hm k) (Or.inr (by exact in_gt h (by decide)))⟩
  · rcases (show j = 0 ∨ j = 1 by omega) with rfl | rfl
    · rw [show nI 0 = 0 from by decide]
      exact ⟨0, x_Y_wake_0 (d + 6) hc, fun M1 k => x_M_wake_0 (d + 6) (mfr_kp hm k)⟩
    · rw [show nI 1 = 1 from by decide]
      exact ⟨0, x_Y_wake_1 (d + 6) hc, fun M1 k => x_M_wake_1 (d + 6) (mfr_kp hm k)⟩
theorem ge_of_gt {y b c : Int32} (h : b < y) (hc : c.toInt = b.toInt + 1) : c ≤ y := by
  refine Int32.le_iff_toInt_le.mpr ?_
  have := Int32.lt_iff_toInt_lt.mp h
  rw [hc]; omega
theorem not_ge_of {y b c : Int32} (h : ¬ b < y) (hc : c.toInt = b.toInt + 1) : ¬ c ≤ y := by
  intro q
  refine h (Int32.lt_iff_toInt_lt.mpr ?_)
  have := Int32.le_iff_toInt_le.mp q
  rw [hc] at this; omega
theorem q_worker {G : Gt} {M : Me} (d : Nat) (x : Int32) (y : Int32) (hc : cfr M) (hm : mfr M) : both G M yt_Y_worker yn_Y_worker yt_M_worker yn_M_worker (d + 9) [.inl x, .inl y] := by
  rcases pk_ix x (n := 3) (by decide) with h | h | ⟨j, hj, rfl⟩
  · exact ⟨-1, x_Y_worker_x (d + 7) x y hc (Or.inl h), fun M1 k => x_M_worker_x (d + 7) x y (mfr_kp hm k) (Or.inl h)⟩
  · exact ⟨-1, x_Y_worker_x (d + 7) x y hc (Or.inr (by exact h)), fun M1 k => x_M_worker_x (d + 7) x y (mfr_kp hm k) (Or.inr (by exact in_gt h (by decide)))⟩
  · rcases (show j = 0 ∨ j = 1 ∨ j = 2 by omega) with rfl | rfl | rfl
    · rw [show nI 0 = 0 from by decide]
      rcases em2 y 0 7 with ⟨h1, h2⟩ | h
      · exact ⟨_, x_Y_worker_0 (d + 7) y hc, fun M1 k => by rw [if_neg h1, if_neg (not_ge_of h2 (by decide))]; exact x_M_worker_0 (d + 7) y (mfr_kp hm k) h1 h2⟩
      · refine ⟨_, x_Y_worker_0 (d + 7) y hc, fun M1 k => ?_⟩
        rw [sw_res (h.imp id (fun q => ge_of_gt q (by decide)))]
        exact x_M_worker_0_x (d + 7) y (mfr_kp hm k) h
    · rw [show nI 1 = 1 from by decide]
      rcases em2 y 0 7 with ⟨h1, h2⟩ | h
      · exact ⟨_, x_Y_worker_1 (d + 7) y hc, fun M1 k => by rw [if_neg h1, if_neg (not_ge_of h2 (by decide))]; exact x_M_worker_1 (d + 7) y (mfr_kp hm k) h1 h2⟩
      · refine ⟨_, x_Y_worker_1 (d + 7) y hc, fun M1 k => ?_⟩
        rw [sw_res (h.imp id (fun q => ge_of_gt q (by decide)))]
        exact x_M_worker_1_x (d + 7) y (mfr_kp hm k) h
    · rw [show nI 2 = 2 from by decide]
      rcases em2 y 0 7 with ⟨h1, h2⟩ | h
      · exact ⟨_, x_Y_worker_2 (d + 7) y hc, fun M1 k => by rw [if_neg h1, if_neg (not_ge_of h2 (by decide))]; exact x_M_worker_2 (d + 7) y (mfr_kp hm k) h1 h2⟩
      · refine ⟨_, x_Y_worker_2 (d + 7) y hc, fun M1 k => ?_⟩
        rw [sw_res (h.imp id (fun q => ge_of_gt q (by decide)))]
        exact x_M_worker_2_x (d + 7) y (mfr_kp hm k) h
theorem q_gate {G : Gt} {M : Me} (d : Nat) (x : Int32) (y : Int32) (hc : cfr M) (hm : mfr M) : both G M yt_Y_gate yn_Y_gate yt_M_gate yn_M_gate (d + 9) [.inl x, .inl y] := by
  rcases pk_ix x (n := 2) (by decide) with h | h | ⟨j, hj, rfl⟩
  · exact ⟨-1, x_Y_gate_x (d + 6) x y hc (Or.inl h), fun M1 k => x_M_gate_x (d + 7) x y (mfr_kp hm k) (Or.inl h)⟩
  · exact ⟨-1, x_Y_gate_x (d + 6) x y hc (Or.inr (by exact in_gt h (by decide))), fun M1 k => x_M_gate_x (d + 7) x y (mfr_kp hm k) (Or.inr (by exact in_gt h (by decide)))⟩
  · rcases (show j = 0 ∨ j = 1 by omega) with rfl | rfl
    · rw [show nI 0 = 0 from by decide]
      rcases em2 y 0 4 with ⟨h1, h2⟩ | h
      · exact ⟨_, x_Y_gate_0 (d + 6) y hc, fun M1 k => by rw [if_neg h1, if_neg (not_ge_of h2 (by decide))]; exact x_M_gate_0 (d + 7) y (mfr_kp hm k) h1 h2⟩
      · refine ⟨_, x_Y_gate_0 (d + 6) y hc, fun M1 k => ?_⟩
        rw [sw_res (h.imp id (fun q => ge_of_gt q (by decide)))]
        exact x_M_gate_0_x (d + 7) y (mfr_kp hm k) h
    · rw [show nI 1 = 1 from by decide]
      rcases em2 y 0 4 with ⟨h1, h2⟩ | h
      · exact ⟨_, x_Y_gate_1 (d + 6) y hc, fun M1 k => by rw [if_neg h1, if_neg (not_ge_of h2 (by decide))]; exact x_M_gate_1 (d + 7) y (mfr_kp hm k) h1 h2⟩
      · refine ⟨_, x_Y_gate_1 (d + 6) y hc, fun M1 k => ?_⟩
        rw [sw_res (h.imp id (fun q => ge_of_gt q (by decide)))]
        exact x_M_gate_1_x (d + 7) y (mfr_kp hm k) h
