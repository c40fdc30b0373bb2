/-- what a call of the reference leaves alone of the class -/
def mo (M M' : Me) : Prop := sq M M' ∧ ∀ s j k, (s < 7 ∨ (8 ≤ s ∧ s < 30)) → me_I M' s j k = me_I M s j k
theorem yo_rf {M : Me} : yo M M := ⟨fun _ _ _ _ => rfl, fun _ _ _ _ => rfl, fun _ _ _ => rfl⟩
theorem mo_rf {M : Me} : mo M M := ⟨sq_rf, fun _ _ _ _ => rfl⟩
theorem yo_yf {nt : Nat} {M M1 : Me} (k : yf nt M M1) : yo M M1 := ⟨fun s j q h => k.1 s j q (by omega), fun s j q h => k.2.1 s j q (by omega) (by omega), fun s j h => k.2.2.1 s j (by omega)⟩
theorem yo_yj {M M1 : Me} (k : yj M M1) : yo M M1 := ⟨fun s j q h => k.2 s j q (by omega), fun s j q h => by rw [k.1.1], fun s j h => by rw [k.1.2.1]⟩
theorem mo_pf {M M1 : Me} (k : pf M M1) : mo M M1 := ⟨k.1, fun s j q h => k.2 s j q (by unfold pk7; omega)⟩
theorem mo_pg {M M1 : Me} (k : pg M M1) : mo M M1 := ⟨k.1, fun s j q h => k.2 s j q (by unfold pk8; omega)⟩
theorem mo_sI {M M1 : Me} {s i k : Nat} {v : Int32} (h : mo M M1) (hs : s = 7 ∨ 30 ≤ s) : mo M (me_sI M1 s i k v) := ⟨sq_sI h.1, fun s' j q z => by rw [me_I_sI, if_neg (by omega)]; exact h.2 s' j q z⟩
theorem mSh_yo {M M1 : Me} (h : mSh M) (k : yo M M1) : mSh M1 := by
  refine ⟨fun q hq => ?_, fun q hq => ?_⟩
  · have hs := (by decide : ∀ q ∈ mq_P, q.1 = 7 ∨ 30 ≤ q.1) q hq
    rw [k.2.1 _ _ _ hs]; exact h.1 q hq
  · have hs := (by decide : ∀ q ∈ mq_L, 30 ≤ q.1) q hq
    rw [k.2.2 _ _ hs]; exact h.2 q hq
theorem mJ_yo {M M1 : Me} {np nt : Nat} (h : mJ M np nt) (k : yo M M1) : mJ M1 np nt := by
  have e : ∀ s j q, (s = 7 ∨ 30 ≤ s) → me_I M1 s j q = me_I M s j q := fun s j q hs => k.1 s j q (by omega)
  have e7 := fun j q => e 7 j q (by omega)
  have e30 := fun j q => e 30 j q (by omega)
  have e31 := fun j q => e 31 j q (by omega)
  have e32 := fun j q => e 32 j q (by omega)
  have e33 := fun j q => e 33 j q (by omega)
  have e36 := fun j q => e 36 j q (by omega)
  have e38 := fun j q => e 38 j q (by omega)
  have e48 := fun j q => e 48 j q (by omega)
  have e51 := fun j q => e 51 j q (by omega)
  have e52 := fun j q => e 52 j q (by omega)
  have e53 := fun j q => e 53 j q (by omega)
  obtain ⟨⟨a1, a2, a3, a4, a5⟩, b, c⟩ := h
  refine ⟨⟨mSh_yo a1 k, ?_, ?_, ?_, ?_⟩, ?_, ?_⟩
  · unfold mPr mP1 at *
    simp only [e7, e30, e31, e32]; exact a2
  · unfold mTk at *
    simp only [e7, e36]; exact a3
  · unfold mQ qX at *
    simp only [e7, e33, e38, e48, e51, e52, e53]; exact a4
  · unfold wV at *
    simp only [e7]; exact a5
  · rw [e7]; exact b
  · rw [e7]; exact c
theorem mD_eq {M M1 : Me} {dl : Nat} {o : Nat → Nat} (h : mD M dl o) (e : ∀ s j q, (s = 30 ∨ s = 31 ∨ s = 32) → me_I M1 s j q = me_I M s j q) : mD M1 dl o := by
  have e30 := fun j q => e 30 j q (by omega)
  have e31 := fun j q => e 31 j q (by omega)
  have e32 := fun j q => e 32 j q (by omega)
  unfold mD at *
  simp only [e30, e31, e32]; exact h
theorem pO_mo {M M1 : Me} {i n : Nat} {o : Nat → Nat} (h : pO M i n o) (k : mo M M1) : pO M1 i n o := pO_o h k.1 (fun s j q => k.2 s i j (by omega))
theorem yI_mo {M M1 : Me} {np nt : Nat} (h : yI M np nt) (k : mo M M1) : yI M1 np nt := by
  obtain ⟨⟨a, b, c⟩, ⟨c1, c2, c3, c4, c5, c6, c7⟩, e1, e2, e3⟩ := h
  refine ⟨⟨by rw [k.1.1]; exact a, by rw [k.1.2.1]; exact b, fun i hi => ⟨by rw [k.1.1]; exact (c i hi).1, by rw [k.1.2.1]; exact (c i hi).2.1, by rw [k.1.2.1, k.2 4 i 1 (by omega)]; exact (c i hi).2.2⟩⟩, ⟨c1, by rw [k.2 0 0 2 (by omega)]; exact c2, by rw [k.1.1]; exact c3, by rw [k.1.1]; exact c4, fun i hi => ?_, fun w hw => by rw [k.2 3 w 0 (by omega)]; exact c6 w hw, by rw [k.2 0 0 13 (by omega)]; exact c7⟩, e1, by rw [k.2 0 0 4 (by omega)]; exact e2, fun t ht => ⟨by rw [k.1.1]; exact (e3 t ht).1, ?_⟩⟩
  · obtain ⟨n, o, g⟩ := c5 i hi
    exact ⟨n, o, pO_mo g k⟩
  · obtain ⟨p, n, o, g1, g2, g3⟩ := (e3 t ht).2
    refine ⟨p, n, o, g1, ?_, pO_mo g3 k⟩
    unfold tS; rw [k.1.1, k.1.2.1]; exact g2
theorem pO_yf {nt i n : Nat} {o : Nat → Nat} {M M' : Me} (h : pO M i n o) (k : yf nt M M') : pO M' i n o := by
  obtain ⟨⟨b1, b2, b3, b4, b5, b6⟩, c1, c2, c3, c4⟩ := h
  have f : ∀ q, me_P M' 1 i q = me_P M 1 i q := fun q => k.2.1 1 i q (by omega) (by omega)
  have m : ∀ s, 11 ≤ s ∧ s < 14 → me_L M' s i = me_L M s i := fun s q => k.2.2.1 s i (by omega)
  exact ⟨⟨by rw [f]; exact b1, by rw [f]; exact b2, by rw [f]; exact b3, by rw [m _ (by omega)]; exact b4, by rw [m _ (by omega)]; exact b5, by rw [m _ (by omega)]; exact b6⟩, c1, by rw [k.1 1 i 3 (by omega)]; exact c2, fun j hj => by rw [k.1 11 i j (by omega)]; exact c3 j hj, fun j hj => by rw [k.1 13 i j (by omega)]; exact c4 j hj⟩
/-- both sides between two calls: the drafts' ops are the same, as many programs, the same clock; room -/
def rr (M : Me) (np nt nt2 dl : Nat) (o : Nat → Nat) : Prop := yI M np nt ∧ yN M np nt ∧ pO M np dl o ∧ mJ M np nt2 ∧ mD M dl o ∧ me_I M 0 0 10 = me_I M 7 0 29 ∧ me_C M ≤ 1000 + 4 * nt + 4 * np ∧ me_S M ≤ 10000 + 47 * nt + 40 * np
def rl (M : Me) : Prop := ∃ np nt nt2 dl o, rr M np nt nt2 dl o
/-- one call on both sides, the answers the same where E says so -/
def bp (G : Gt) (M : Me) (Yc : Yt) (yc : MethodName) (Ym : Yt) (ym : MethodName) (d : Nat) (as : List AV) (E : Prop) : Prop := sx G Yc yc d (.inr (some (0, 0)) :: as) M (fun r M1 => ∃ v : Int32, r = some (.inl v) ∧ sx G Ym ym d (.inr (some (7, 0)) :: as) M1 (fun r2 M2 => ∃ v2 : Int32, r2 = some (.inl v2) ∧ (E → v = v2) ∧ rl M2))
theorem bp_l {G : Gt} {M : Me} {Yc : Yt} {yc : MethodName} {Ym : Yt} {ym : MethodName} {d : Nat} {as : List AV} {np nt nt2 dl : Nat} {o : Nat → Nat} (h : rr M np nt nt2 dl o) (hc : sx G Yc yc d (.inr (some (0, 0)) :: as) M (fun r M' => (∃ v : Int32, r = some (.inl v)) ∧ ∃ nt', yv np nt nt' M M'))
    (hm : ∀ M1, mJ M1 np nt2 → sx G Ym ym d (.inr (some (7, 0)) :: as) M1 (fun r M' => ∃ (v : Int32) (nt' : Nat), r = some (.inl v) ∧ mJ M' np nt' ∧ pf M1 M')) : bp G M Yc yc Ym ym d as False := by
  obtain ⟨h1, h2, h3, h4, h5, h6, h7, h8⟩ := h
  refine sx_mono hc ?_
  rintro r M1 ⟨⟨v, rfl⟩, nt', w⟩
  obtain ⟨w1, w2, w3, w4, w5, w6⟩ := w
  refine ⟨v, rfl, sx_mono (hm M1 (mJ_yo h4 (yo_yf w4))) ?_⟩
  rintro r2 M2 ⟨v2, nt3, rfl, j2, p2⟩
  refine ⟨v2, rfl, False.elim, np, nt', nt3, dl, o, yI_mo w2 (mo_pf p2), yN_sq w3 p2.1, pO_mo (pO_yf h3 w4) (mo_pf p2), j2, ?_, ?_, ?_, ?_⟩
  · exact mD_eq h5 (fun s j q z => (p2.2 s j q (by unfold pk7; omega)).trans (w4.1 s j q (by omega)))
  · rw [p2.2 0 0 10 (by unfold pk7; omega), w4.1 0 0 10 (by omega), p2.2 7 0 29 (by unfold pk7; omega), w4.1 7 0 29 (by omega)]; exact h6
  · rw [p2.1.2.2.2.1]; omega
  · rw [p2.1.2.2.2.2]; omega
theorem b_spawn {G : Gt} {M : Me} (d : Nat) (x : Int32) (h : rl M) : bp G M yt_Y_spawn yn_Y_spawn yt_M_spawn yn_M_spawn (d + 32) [.inl x] False := by
  obtain ⟨np, nt, nt2, dl, o, h⟩ := h
  exact bp_l h (y_Y_spawn (d + 29) x np nt h.1 h.2.1) (fun M1 j => z_M_spawn (d + 26) x np nt2 j)
theorem b_turn {G : Gt} {M : Me} (d : Nat) (x : Int32) (h : rl M) : bp G M yt_Y_turn yn_Y_turn yt_M_turn yn_M_turn (d + 32) [.inl x] False := by
  obtain ⟨np, nt, nt2, dl, o, h⟩ := h
  exact bp_l h (y_Y_turn (d + 0) x np nt h.1 h.2.1) (fun M1 j => z_M_turn (d + 22) x np nt2 j)
theorem b_run {G : Gt} {M : Me} (d : Nat) (x : Int32) (h : rl M) : bp G M yt_Y_run yn_Y_run yt_M_run yn_M_run (d + 32) [.inl x] False := by
  obtain ⟨np, nt, nt2, dl, o, h⟩ := h
  exact bp_l h (y_Y_run (d + 0) x np nt h.1 h.2.1) (fun M1 j => z_M_run (d + 21) x np nt2 j)
theorem b_abort {G : Gt} {M : Me} (d : Nat) (x : Int32) (h : rl M) : bp G M yt_Y_abort yn_Y_abort yt_M_abort yn_M_abort (d + 32) [.inl x] False := by
  obtain ⟨np, nt, nt2, dl, o, h⟩ := h
  exact bp_l h (y_Y_abort (d + 27) x np nt h.1 h.2.1) (fun M1 j => z_M_abort (d + 25) x np nt2 j)
theorem b_put {G : Gt} {M : Me} (d : Nat) (x : Int32) (y : Int32) (h : rl M) : bp G M yt_Y_put yn_Y_put yt_M_put yn_M_put (d + 32) [.inl x, .inl y] False := by
  obtain ⟨np, nt, nt2, dl, o, h⟩ := h
  exact bp_l h (y_Y_put (d + 28) x y np nt h.1 h.2.1) (fun M1 j => z_M_put (d + 26) x y np nt2 j)
theorem b_wake {G : Gt} {M : Me} (d : Nat) (x : Int32) (h : rl M) : bp G M yt_Y_wake yn_Y_wake yt_M_wake yn_M_wake (d + 32) [.inl x] False := by
  obtain ⟨np, nt, nt2, dl, o, h⟩ := h
  exact bp_l h (y_Y_wake (d + 28) x np nt h.1 h.2.1) (fun M1 j => z_M_wake (d + 26) x np nt2 j)
theorem b_task {G : Gt} {M : Me} (d : Nat) (x : Int32) (y : Int32) (h : rl M) : bp G M yt_Y_task yn_Y_task yt_M_task yn_M_task (d + 32) [.inl x, .inl y] False := by
  obtain ⟨np, nt, nt2, dl, o, h⟩ := h
  exact bp_l h (sx_mono (y_Y_task (d + 28) x y np nt h.1) (fun r M2 q => ⟨q.1, nt, by rw [← q.2]; exact yv_rf h.1 h.2.1⟩)) (fun M1 j => sx_mono (z_M_task (d + 30) x y np nt2 j) (fun r M2 q => by obtain ⟨⟨v, e⟩, rfl⟩ := q; exact ⟨v, nt2, e, j, pf_rf⟩))
theorem b_worker {G : Gt} {M : Me} (d : Nat) (x : Int32) (y : Int32) (h : rl M) : bp G M yt_Y_worker yn_Y_worker yt_M_worker yn_M_worker (d + 32) [.inl x, .inl y] False := by
  obtain ⟨np, nt, nt2, dl, o, h⟩ := h
  exact bp_l h (sx_mono (y_Y_worker (d + 30) x y np nt h.1) (fun r M2 q => ⟨q.1, nt, by rw [← q.2]; exact yv_rf h.1 h.2.1⟩)) (fun M1 j => sx_mono (z_M_worker (d + 30) x y np nt2 j) (fun r M2 q => by obtain ⟨⟨v, e⟩, rfl⟩ := q; exact ⟨v, nt2, e, j, pf_rf⟩))
theorem b_injected {G : Gt} {M : Me} (d : Nat) (x : Int32) (h : rl M) : bp G M yt_Y_injected yn_Y_injected yt_M_injected yn_M_injected (d + 32) [.inl x] False := by
  obtain ⟨np, nt, nt2, dl, o, h⟩ := h
  exact bp_l h (sx_mono (y_Y_injected (d + 30) x np nt h.1) (fun r M2 q => ⟨q.1, nt, by rw [← q.2]; exact yv_rf h.1 h.2.1⟩)) (fun M1 j => sx_mono (z_M_injected (d + 30) x np nt2 j) (fun r M2 q => by obtain ⟨⟨v, e⟩, rfl⟩ := q; exact ⟨v, nt2, e, j, pf_rf⟩))
theorem b_gate {G : Gt} {M : Me} (d : Nat) (x : Int32) (y : Int32) (h : rl M) : bp G M yt_Y_gate yn_Y_gate yt_M_gate yn_M_gate (d + 32) [.inl x, .inl y] False := by
  obtain ⟨np, nt, nt2, dl, o, h⟩ := h
  exact bp_l h (sx_mono (y_Y_gate (d + 28) x y np nt h.1) (fun r M2 q => ⟨q.1, nt, by rw [← q.2]; exact yv_rf h.1 h.2.1⟩)) (fun M1 j => sx_mono (z_M_gate (d + 29) x y np nt2 j) (fun r M2 q => by obtain ⟨⟨v, e⟩, rfl⟩ := q; exact ⟨v, nt2, e, j, pf_rf⟩))
theorem b_count {G : Gt} {M : Me} (d : Nat) (x : Int32) (h : rl M) : bp G M yt_Y_count yn_Y_count yt_M_count yn_M_count (d + 32) [.inl x] False := by
  obtain ⟨np, nt, nt2, dl, o, h⟩ := h
  exact bp_l h (sx_mono (y_Y_count (d + 29) x np nt h.1) (fun r M2 q => ⟨q.1, nt, by rw [← q.2]; exact yv_rf h.1 h.2.1⟩)) (fun M1 j => sx_mono (z_M_count (d + 30) x np nt2 j) (fun r M2 q => by obtain ⟨⟨v, e⟩, rfl⟩ := q; exact ⟨v, nt2, e, j, pf_rf⟩))
theorem nI_ofR {x : Int32} (h1 : ¬ x < 0) (h2 : ¬ 16 ≤ x) : ∃ j, j < 16 ∧ x = nI j := by
  obtain ⟨j, hj, rfl⟩ := nI_of h1
  exact ⟨j, Nat.lt_of_not_le (fun q => h2 (nI_le (a := 16) q hj)), rfl⟩
theorem tk_op {x y : Int32} (h : tkv x y = 1) : ∃ j, j < 16 ∧ x = nI j := nI_ofR (fun q => tk_no (Or.inl q) h) (fun q => tk_no (Or.inr (Or.inl q)) h)
def ou (o : Nat → Nat) (n j : Nat) : Nat → Nat := fun k => if k = n then j else o k
theorem yI_pO {M M1 : Me} {np nt n : Nat} {o : Nat → Nat} (h : yI M np nt) (k : sq M M1) (e : ∀ s j q, ¬ ((s = 1 ∨ s = 11 ∨ s = 12) ∧ j = np) → me_I M1 s j q = me_I M s j q) (hp : pO M1 np n o) : yI M1 np nt := by
  obtain ⟨⟨a, b, c⟩, ⟨c1, c2, c3, c4, c5, c6, c7⟩, e1, e2, e3⟩ := h
  refine ⟨⟨by rw [k.1]; exact a, by rw [k.2.1]; exact b, fun i hi => ⟨by rw [k.1]; exact (c i hi).1, by rw [k.2.1]; exact (c i hi).2.1, by rw [k.2.1, e 4 i 1 (by omega)]; exact (c i hi).2.2⟩⟩, ⟨c1, by rw [e 0 0 2 (by omega)]; exact c2, by rw [k.1]; exact c3, by rw [k.1]; exact c4, fun i hi => ?_, fun w hw => by rw [e 3 w 0 (by omega)]; exact c6 w hw, by rw [e 0 0 13 (by omega)]; exact c7⟩, e1, by rw [e 0 0 4 (by omega)]; exact e2, fun t ht => ⟨by rw [k.1]; exact (e3 t ht).1, ?_⟩⟩
  · rcases Nat.lt_or_ge i np with q | q
    · obtain ⟨n, o, g⟩ := c5 i hi
      exact ⟨n, o, pO_o g k (fun s j z => e s i j (by omega))⟩
    · rw [show i = np by omega]; exact ⟨n, o, hp⟩
  · obtain ⟨p, n, o, g1, g2, g3⟩ := (e3 t ht).2
    refine ⟨p, n, o, g1, ?_, pO_o g3 k (fun s j z => e s p j (by omega))⟩
    unfold tS; rw [k.1, k.2.1]; exact g2
theorem pO_tok {M : Me} {np n j : Nat} {y : Int32} {o : Nat → Nat} (h : pO M np n o) (hn : n < 12) (hj : j < 16) : pO (me_sI (me_sI (me_sI M 11 np n (nI j)) 12 np n y) 1 np 3 (nI (n + 1))) np (n + 1) (ou o n j) := by
  obtain ⟨a, b, c, f, g⟩ := h
  refine ⟨a, by omega, by simp [me_I_sI], fun k hk => ?_, fun k hk => ?_⟩
  · by_cases e : k = n
    · subst e
      simp [ou, me_I_sI]
      exact hj
    · simp only [ou, if_neg e]
      rw [me_I_sI, if_neg (by omega), me_I_sI, if_neg (by omega), me_I_sI, if_neg (by omega)]; exact f k (by omega)
  · rw [me_I_sI, if_neg (by omega), me_I_sI, if_neg (by omega), me_I_sI, if_neg (by omega)]; exact g k hk
theorem mD_tok {M : Me} {n j : Nat} {y : Int32} {o : Nat → Nat} (h : mD M n o) (hn : n < 12) (hj : j < 16) (ht : tkv (nI j) y = 1) : mD (me_sI (me_sI (me_sI M 30 0 (72 + n) (nI j)) 31 0 (72 + n) y) 32 0 6 (nI (n + 1))) (n + 1) (ou o n j) := by
  obtain ⟨a, b, c⟩ := h
  refine ⟨by simp [me_I_sI], by omega, fun k hk => ?_⟩
  by_cases e : k = n
  · subst e
    rw [show ou o k j k = j by simp [ou]]
    refine ⟨hj, ?_, ?_⟩
    · rw [me_I_sI, if_neg (by omega), me_I_sI, if_neg (by omega), me_I_sI, if_pos ⟨rfl, rfl, rfl⟩]
    · rw [me_I_sI, if_neg (by omega), me_I_sI, if_pos ⟨rfl, rfl, rfl⟩]; exact ht
  · simp only [ou, if_neg e]
    have q := c k (by omega)
    refine ⟨q.1, ?_, ?_⟩
    · rw [me_I_sI, if_neg (by omega), me_I_sI, if_neg (by omega), me_I_sI, if_neg (by omega)]; exact q.2.1
    · rw [me_I_sI, if_neg (by omega), me_I_sI, if_neg (by omega), me_I_sI, if_neg (by omega)]; exact q.2.2
theorem mJ_dr {M M1 : Me} {np nt : Nat} (h : mJ M np nt) (k : sq M M1) (e : ∀ s j q, ¬ (((s = 30 ∨ s = 31) ∧ 72 ≤ q) ∨ (s = 32 ∧ q = 6)) → me_I M1 s j q = me_I M s j q) : mJ M1 np nt := by
  have e7 := fun j q => e 7 j q (by omega)
  have e33 := fun j q => e 33 j q (by omega)
  have e36 := fun j q => e 36 j q (by omega)
  have e38 := fun j q => e 38 j q (by omega)
  have e48 := fun j q => e 48 j q (by omega)
  have e51 := fun j q => e 51 j q (by omega)
  have e52 := fun j q => e 52 j q (by omega)
  have e53 := fun j q => e 53 j q (by omega)
  obtain ⟨⟨a1, a2, a3, a4, a5⟩, b, c⟩ := h
  refine ⟨⟨?_, ⟨?_, a2.2.1, fun p hp => ?_⟩, ?_, ?_, ?_⟩, ?_, ?_⟩
  · unfold mSh; rw [k.1, k.2.1]; exact a1
  · rw [e7]; exact a2.1
  · have h6 := a2.2.1
    obtain ⟨len, o, g1, g2, g3, g4⟩ := a2.2.2 p hp
    exact ⟨len, o, g1, by rw [e 32 0 p (by omega)]; exact g2, fun q hq => by rw [e 30 0 (12 * p + q) (by omega), e 31 0 (12 * p + q) (by omega)]; exact g3 q hq, g4⟩
  · unfold mTk at *
    simp only [e7, e36]; exact a3
  · unfold mQ qX at *
    simp only [e7, e33, e38, e48, e51, e52, e53]; exact a4
  · unfold wV at *
    simp only [e7]; exact a5
  · rw [e7]; exact b
  · rw [e7]; exact c
theorem mx3 {M : Me} {a b c i j k i' j' k' s p q : Nat} {u v w : Int32} (h1 : ¬ (s = a ∧ p = i ∧ q = i')) (h2 : ¬ (s = b ∧ p = j ∧ q = j')) (h3 : ¬ (s = c ∧ p = k ∧ q = k')) : me_I (me_sI (me_sI (me_sI M a i i' u) b j j' v) c k k' w) s p q = me_I M s p q := by
  rw [me_I_sI, if_neg h3, me_I_sI, if_neg h2, me_I_sI, if_neg h1]
theorem b_token {G : Gt} {M : Me} (d : Nat) (x y : Int32) (h : rl M) : bp G M yt_Y_token yn_Y_token yt_M_token yn_M_token (d + 32) [.inl x, .inl y] True := by
  obtain ⟨np, nt, nt2, dl, o, h⟩ := h
  have hh := h
  obtain ⟨h1, h2, h3, h4, h5, h6, h7, h8⟩ := h
  rcases Classical.em (tkv x y = 1) with ht | ht
  · rcases Nat.lt_or_ge dl 12 with hd | hd
    · refine sx_mono (y_Y_token_a (d + 30) x y np nt dl o h1 h3 ht hd) ?_
      rintro r M1 ⟨rfl, rfl⟩
      obtain ⟨j, hj, rfl⟩ := tk_op ht
      have kk : yo M (me_sI (me_sI (me_sI M 11 np dl (nI j)) 12 np dl y) 1 np 3 (nI (dl + 1))) := ⟨fun s a q z => mx3 (by omega) (by omega) (by omega), fun s a q z => rfl, fun s a z => rfl⟩
      have sk : sq M (me_sI (me_sI (me_sI M 11 np dl (nI j)) 12 np dl y) 1 np 3 (nI (dl + 1))) := sq_sI (sq_sI (sq_sI sq_rf))
      have hp := pO_tok (y := y) h3 hd hj
      have hI := yI_pO h1 sk (fun s a q z => mx3 (by omega) (by omega) (by omega)) hp
      refine ⟨_, rfl, sx_mono (z_M_token_a (d + 29) (nI j) y dl (mSh_yo h4.1.1 kk) ht (by rw [kk.1 32 0 6 (by omega)]; exact h5.1) hd) ?_⟩
      rintro r2 M2 ⟨rfl, rfl⟩
      refine ⟨_, rfl, fun _ => rfl, np, nt, nt2, dl + 1, ou o dl j, yI_mo hI (mo_sI (mo_sI (mo_sI mo_rf (by omega)) (by omega)) (by omega)), yN_sq h2 (sq_sI (sq_sI (sq_sI sk))), pO_mo hp (mo_sI (mo_sI (mo_sI mo_rf (by omega)) (by omega)) (by omega)), mJ_dr (mJ_yo h4 kk) (sq_sI (sq_sI (sq_sI sq_rf))) (fun s a q z => mx3 (by omega) (by omega) (by omega)), mD_tok (mD_eq h5 (fun s a q z => kk.1 s a q (by omega))) hd hj ht, ?_, h7, h8⟩
      rw [mx3 (by omega) (by omega) (by omega), mx3 (by omega) (by omega) (by omega), mx3 (by omega) (by omega) (by omega), mx3 (by omega) (by omega) (by omega)]; exact h6
    · have hd2 : dl = 12 := by have := h3.2.1; omega
      refine sx_mono (y_Y_token_u (d + 30) x y np nt dl o h1 h3 ht hd2) ?_
      rintro r M1 ⟨rfl, rfl⟩
      refine ⟨_, rfl, sx_mono (z_M_token_u (d + 29) x y h4.1.1 ht (by rw [h5.1, hd2])) ?_⟩
      rintro r2 M2 ⟨rfl, rfl⟩
      exact ⟨_, rfl, fun _ => rfl, np, nt, nt2, dl, o, hh⟩
  · refine sx_mono (y_Y_token_r (d + 30) x y np nt dl o h1 h3 ht) ?_
    rintro r M1 ⟨rfl, rfl⟩
    refine ⟨_, rfl, sx_mono (z_M_token_r (d + 29) x y h4.1.1 ht) ?_⟩
    rintro r2 M2 ⟨rfl, rfl⟩
    exact ⟨_, rfl, fun _ => rfl, np, nt, nt2, dl, o, hh⟩
theorem b_clear {G : Gt} {M : Me} (d : Nat) (h : rl M) : bp G M yt_Y_clear yn_Y_clear yt_M_clear yn_M_clear (d + 32) [] True := by
  obtain ⟨np, nt, nt2, dl, o, h1, h2, h3, h4, h5, h6, h7, h8⟩ := h
  refine sx_mono (y_Y_clear (d + 31) np nt dl o h1 h3) ?_
  rintro r M1 ⟨rfl, rfl⟩
  have kk : yo M (me_sI M 1 np 3 0) := ⟨fun s a q z => by rw [me_I_sI, if_neg (by omega)], fun s a q z => rfl, fun s a z => rfl⟩
  have sk : sq M (me_sI M 1 np 3 0) := sq_sI sq_rf
  have hp : pO (me_sI M 1 np 3 0) np 0 o := ⟨h3.1, by omega, by simp [me_I_sI, nI_0], fun k hk => by omega, fun k hk => by rw [me_I_sI, if_neg (by omega)]; exact h3.2.2.2.2 k hk⟩
  have hI := yI_pO h1 sk (fun s a q z => by rw [me_I_sI, if_neg (by omega)]) hp
  refine ⟨_, rfl, sx_mono (z_M_clear (d + 31) (mSh_yo h4.1.1 kk)) ?_⟩
  rintro r2 M2 ⟨rfl, rfl⟩
  refine ⟨_, rfl, fun _ => by rw [kk.1 32 0 6 (by omega), h5.1], np, nt, nt2, 0, o, yI_mo hI (mo_sI mo_rf (by omega)), yN_sq h2 (sq_sI sk), pO_mo hp (mo_sI mo_rf (by omega)), mJ_dr (mJ_yo h4 kk) (sq_sI sq_rf) (fun s a q z => by rw [me_I_sI, if_neg (by omega)]), ⟨by simp [me_I_sI, nI_0], by omega, fun k hk => by omega⟩, ?_, h7, h8⟩
  rw [me_I_sI, if_neg (by omega), me_I_sI, if_neg (by omega), me_I_sI, if_neg (by omega), me_I_sI, if_neg (by omega)]; exact h6
theorem b_define {G : Gt} {M : Me} (d : Nat) (h : rl M) : bp G M yt_Y_define yn_Y_define yt_M_define yn_M_define (d + 32) [] True := by
  obtain ⟨np, nt, nt2, dl, o, h⟩ := h
  have hh := h
  obtain ⟨h1, h2, h3, h4, h5, h6, h7, h8⟩ := h
  refine sx_mono (y_Y_define (d + 28) np nt dl o h1 h3 h2) ?_
  rintro r M1 (⟨hv, rfl, rfl⟩ | ⟨hv, hn, rfl, rfl⟩ | ⟨hv, hn, rfl, g1, g2, g3, g4, g5, g6, g7⟩)
  · refine ⟨_, rfl, sx_mono (z_M_define (d + 28) np nt2 dl o h4 h5) ?_⟩
    rintro r2 M2 (⟨hw, rfl, rfl⟩ | ⟨hw, hn, rfl, rfl⟩ | ⟨hw, hn, rfl, q⟩)
    · exact ⟨_, rfl, fun _ => rfl, np, nt, nt2, dl, o, hh⟩
    · exact absurd hw hv
    · exact absurd hw hv
  · refine ⟨_, rfl, sx_mono (z_M_define (d + 28) np nt2 dl o h4 h5) ?_⟩
    rintro r2 M2 (⟨hw, rfl, rfl⟩ | ⟨hw, hn2, rfl, rfl⟩ | ⟨hw, hn2, rfl, q⟩)
    · exact absurd hv hw
    · exact ⟨_, rfl, fun _ => rfl, np, nt, nt2, dl, o, hh⟩
    · omega
  · refine ⟨_, rfl, sx_mono (z_M_define (d + 28) np nt2 dl o (mJ_yo h4 g4) (mD_eq h5 (fun s a q z => g4.1 s a q (by omega)))) ?_⟩
    rintro r2 M2 (⟨hw, rfl, rfl⟩ | ⟨hw, hn2, rfl, rfl⟩ | ⟨hw, hn2, rfl, q1, q2, q3, q4, q5⟩)
    · exact absurd hv hw
    · omega
    · refine ⟨_, rfl, fun _ => rfl, np + 1, nt, nt2, 0, o, yI_mo g1 ⟨q4, q5⟩, yN_sq g2 q4, pO_mo g3 ⟨q4, q5⟩, q1, ⟨by rw [q2, nI_0], by omega, fun k hk => by omega⟩, ?_, ?_, ?_⟩
      · rw [q5 0 0 10 (by omega), g5, q3, g4.1 7 0 29 (by omega)]; exact h6
      · rw [q4.2.2.2.1]; omega
      · rw [q4.2.2.2.2]; omega
theorem b_tick {G : Gt} {M : Me} (d : Nat) (x : Int32) (h : rl M) : bp G M yt_Y_tick yn_Y_tick yt_M_tick yn_M_tick (d + 32) [.inl x] True := by
  obtain ⟨np, nt, nt2, dl, o, h⟩ := h
  have hh := h
  obtain ⟨h1, h2, h3, h4, h5, h6, h7, h8⟩ := h
  rcases em2 x 1 20 with ⟨q1, q2⟩ | hq
  · obtain ⟨c, hc, rfl⟩ := nI_of2 (n := 20) (by decide) (fun q => q1 (Int32.lt_trans q (by decide))) (Int32.not_lt.mp q2)
    refine sx_mono (y_Y_tick_t (d + 27) c np nt h1 hc q1) ?_
    rintro r M1 ⟨rfl, g1, g2, g3⟩
    refine ⟨_, rfl, sx_mono (z_M_tick_t (d + 27) c np nt2 (mJ_yo h4 (yo_yj g2)) hc q1 q2) ?_⟩
    rintro r2 M2 ⟨rfl, j2, p2, e2⟩
    refine ⟨_, rfl, fun _ => by rw [g2.2 7 0 29 (by omega), h6], np, nt, nt2, dl, o, yI_mo g1 (mo_pg p2), yN_sq (yN_sq h2 g2.1) p2.1, pO_mo (pO_o h3 g2.1 (fun s a q => g2.2 s np a (by omega))) (mo_pg p2), j2, mD_eq h5 (fun s a q z => (p2.2 s a q (by unfold pk8; omega)).trans (g2.2 s a q (by omega))), ?_, ?_, ?_⟩
    · rw [p2.2 0 0 10 (by unfold pk8; omega), g3, e2, g2.2 7 0 29 (by omega), h6]
    · rw [p2.1.2.2.2.1, g2.1.2.2.2.1]; exact h7
    · rw [p2.1.2.2.2.2, g2.1.2.2.2.2]; exact h8
  · refine sx_mono (y_Y_tick_f (d + 27) x np nt h1 hq) ?_
    rintro r M1 ⟨rfl, rfl⟩
    refine ⟨_, rfl, sx_mono (z_M_tick_f (d + 27) x np nt2 h4 hq) ?_⟩
    rintro r2 M2 ⟨rfl, rfl⟩
    exact ⟨_, rfl, fun _ => rfl, np, nt, nt2, dl, o, hh⟩
