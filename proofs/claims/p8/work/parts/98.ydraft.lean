theorem tk_no {x y : Int32} (h : x < 0 ∨ 16 ≤ x ∨ y < sv_LOWEST.getD x.toNatClampNeg 0 ∨ ¬ y ≤ sv_HIGHEST.getD x.toNatClampNeg 0) : ¬ tkv x y = 1 := by
  unfold tkv
  split
  · decide
  · split
    · decide
    · split
      · decide
      · split
        · rename_i h1 h2 h3 h4
          rcases h with h | h | h | h
          · exact absurd h h1
          · exact absurd h h2
          · exact absurd h h3
          · exact absurd h4 h
        · decide
/-- only what belongs to the new Program i is changed -/
def zp (i : Nat) (M M' : Me) : Prop := (∀ s j k, ¬ ((s = 1 ∨ s = 11 ∨ s = 12 ∨ s = 13) ∧ j = i) → me_I M' s j k = me_I M s j k) ∧ (∀ s j k, ¬ ((s = 1 ∨ s = 11 ∨ s = 12 ∨ s = 13) ∧ j = i) → me_P M' s j k = me_P M s j k) ∧ ∀ s j, ¬ ((s = 1 ∨ s = 11 ∨ s = 12 ∨ s = 13) ∧ j = i) → me_L M' s j = me_L M s j
theorem zp_rf {i : Nat} {M : Me} : zp i M M := ⟨fun _ _ _ _ => rfl, fun _ _ _ _ => rfl, fun _ _ _ => rfl⟩
theorem zp_sI {i s k : Nat} {v : Int32} {M M1 : Me} (h : zp i M M1) (hs : (s = 1 ∨ s = 11 ∨ s = 12 ∨ s = 13)) : zp i M (me_sI M1 s i k v) := ⟨fun s' j k' q => by rw [me_I_sI, if_neg (fun e => q ⟨by rw [e.1]; exact hs, e.2.1⟩)]; exact h.1 s' j k' q, h.2.1, h.2.2⟩
theorem zp_sP {i s k : Nat} {v : Option (Nat × Nat)} {M M1 : Me} (h : zp i M M1) (hs : (s = 1 ∨ s = 11 ∨ s = 12 ∨ s = 13)) : zp i M (me_sP M1 s i k v) := ⟨h.1, fun s' j k' q => by rw [me_P_sP, if_neg (fun e => q ⟨by rw [e.1]; exact hs, e.2.1⟩)]; exact h.2.1 s' j k' q, h.2.2⟩
theorem zp_nx {i s len sl : Nat} {M M1 : Me} (h : zp i M M1) (hs : (s = 1 ∨ s = 11 ∨ s = 12 ∨ s = 13)) : zp i M (me_nx M1 s i len sl) := ⟨fun s' j k' q => by rw [me_I_nx, if_neg (fun e => q ⟨by rw [e.1]; exact hs, e.2⟩)]; exact h.1 s' j k' q, fun s' j k' q => by rw [me_P_nx, if_neg (fun e => q ⟨by rw [e.1]; exact hs, e.2⟩)]; exact h.2.1 s' j k' q, fun s' j q => by rw [me_L_nx, if_neg (fun e => q ⟨by rw [e.1]; exact hs, e.2⟩)]; exact h.2.2 s' j q⟩
def zn4 (i : Nat) (M M' : Me) : Prop := (∀ s, me_N M' s = if (s = 1 ∨ s = 11 ∨ s = 12 ∨ s = 13) then i + 1 else me_N M s) ∧ me_C M' = me_C M + 4 ∧ me_S M' = me_S M + 40
theorem rO_zp {i t : Nat} {M M' : Me} (h : rO M i) (k : zp t M M') : rO M' i := by
  refine ⟨by rw [k.2.1 4 i 0 (by omega)]; exact h.1, by rw [k.2.2 10 i (by omega)]; exact h.2.1, ?_⟩
  rw [k.2.2 10 i (by omega), k.1 4 i 1 (by omega)]; exact h.2.2
theorem pO_zp {i t n : Nat} {o : Nat → Nat} {M M' : Me} (h : pO M i n o) (hi : i ≠ t) (k : zp t M M') : pO M' i n o := by
  obtain ⟨⟨b1, b2, b3, b4, b5, b6⟩, c1, c2, c3, c4⟩ := h
  refine ⟨⟨by rw [k.2.1 1 i 0 (by omega)]; exact b1, by rw [k.2.1 1 i 1 (by omega)]; exact b2, by rw [k.2.1 1 i 2 (by omega)]; exact b3, by rw [k.2.2 11 i (by omega)]; exact b4, by rw [k.2.2 12 i (by omega)]; exact b5, by rw [k.2.2 13 i (by omega)]; exact b6⟩, c1, by rw [k.1 1 i 3 (by omega)]; exact c2, fun j hj => by rw [k.1 11 i j (by omega)]; exact c3 j hj, fun j hj => by rw [k.1 13 i j (by omega)]; exact c4 j hj⟩
theorem tO_zp {i t p n : Nat} {o : Nat → Nat} {M M' : Me} (h : tO M i p n o) (hi : p ≠ t) (k : zp t M M') : tO M' i p n o := by
  obtain ⟨⟨a1, a2, a3, a4, a5, a6, a7⟩, c⟩ := h
  have e : ∀ q, me_P M' 2 i q = me_P M 2 i q := fun q => k.2.1 2 i q (by omega)
  have l : ∀ s, 14 ≤ s → me_L M' s i = me_L M s i := fun s hs => k.2.2 s i (by omega)
  exact ⟨⟨by rw [e]; exact a1, by rw [e]; exact a2, by rw [e]; exact a3, by rw [e]; exact a4, by rw [l _ (by omega)]; exact a5, by rw [l _ (by omega)]; exact a6, by rw [l _ (by omega)]; exact a7⟩, pO_zp c hi k⟩
theorem yI_ec {np nt n : Nat} {o : Nat → Nat} {M M1 : Me} (h : yI M np nt) (k : ec np M M1) (hp : pO M1 np n o) : yI M1 np nt := by
  obtain ⟨⟨a, b, c⟩, ⟨c1, c2, c3, c4, c5, c6, c7⟩, e1, e2, e3⟩ := h
  refine ⟨⟨by rw [k.1.1]; exact a, by rw [k.1.2.1]; exact b, fun i hi => ⟨by rw [k.1.1]; exact (c i hi).1, by rw [k.1.2.1]; exact (c i hi).2.1, by rw [k.1.2.1, k.2 4 i 1 (by omega)]; exact (c i hi).2.2⟩⟩, ⟨c1, by rw [k.2 0 0 2 (by omega)]; exact c2, by rw [k.1.1]; exact c3, by rw [k.1.1]; exact c4, fun i hi => ?_, fun w hw => by rw [k.2 3 w 0 (by omega)]; exact c6 w hw, by rw [k.2 0 0 13 (by omega)]; exact c7⟩, e1, by rw [k.2 0 0 4 (by omega)]; exact e2, fun t ht => ⟨by rw [k.1.1]; exact (e3 t ht).1, ?_⟩⟩
  · rcases Nat.lt_or_ge i np with q | q
    · obtain ⟨n, o, g⟩ := c5 i hi
      exact ⟨n, o, pO_o g k.1 (fun s j q => k.2 s i j (by omega))⟩
    · rw [show i = np by omega]; exact ⟨n, o, hp⟩
  · obtain ⟨p, n, o, g1, g2, g3⟩ := (e3 t ht).2
    refine ⟨p, n, o, g1, ?_, pO_o g3 k.1 (fun s j q => k.2 s p j (by omega))⟩
    unfold tS; rw [k.1.1, k.1.2.1]; exact g2
/-- what a call of the class leaves alone of the other side -/
def yo (M M' : Me) : Prop := (∀ s j k, (s = 7 ∨ 17 ≤ s) → me_I M' s j k = me_I M s j k) ∧ (∀ s j k, (s = 7 ∨ 30 ≤ s) → me_P M' s j k = me_P M s j k) ∧ ∀ s j, 30 ≤ s → me_L M' s j = me_L M s j
/-- the draft stands in the row of programs, a new draft is made -/
theorem yd_new {np nt : Nat} {M M1 M2 : Me} (h : yI M1 np nt) (hN : yN M1 np nt) (hnp : np < 6) (o : Nat → Nat) (ho : ec np M M1) (k : zp (np + 1) (me_sP M1 17 0 np (some (1, np))) M2) (hS : pS M2 (np + 1)) (hz : me_I M2 1 (np + 1) 3 = 0) (he : ∀ q, me_I M2 13 (np + 1) q = 0) (h4 : zn4 (np + 1) (me_sP M1 17 0 np (some (1, np))) M2) : ∀ M', me_sI (me_sP M2 0 0 0 (some (1, np + 1))) 0 0 2 (nI (np + 1)) = M' → yI M' (np + 1) nt ∧ yN M' (np + 1) nt ∧ pO M' (np + 1) 0 o ∧ yo M M' ∧ me_I M' 0 0 10 = me_I M 0 0 10 ∧ me_C M' = me_C M + 4 ∧ me_S M' = me_S M + 40 := by
  rintro M' rfl
  obtain ⟨⟨a, b, c⟩, ⟨c1, c2, c3, c4, c5, c6, c7⟩, e1, e2, e3⟩ := h
  have hpN : pO (me_sI (me_sP M2 0 0 0 (some (1, np + 1))) 0 0 2 (nI (np + 1))) (np + 1) 0 o := by
    obtain ⟨s1, s2, s3, s4⟩ := hS
    refine ⟨⟨by rw [me_P_sI, me_P_sP, if_neg (by omega)]; exact s1, by rw [me_P_sI, me_P_sP, if_neg (by omega)]; exact s2, by rw [me_P_sI, me_P_sP, if_neg (by omega)]; exact s3, s4⟩, by omega, ?_, fun j hj => by omega, fun j hj => ⟨0, by omega, ?_⟩⟩
    · rw [me_I_sI, if_neg (by omega)]; exact hz
    · rw [me_I_sI, if_neg (by omega)]; exact he j
  have hpO : ∀ i n o, i ≤ np → pO M1 i n o → pO (me_sI (me_sP M2 0 0 0 (some (1, np + 1))) 0 0 2 (nI (np + 1))) i n o := by
    intro i n o hi g
    have g0 : pO (me_sP M1 17 0 np (some (1, np))) i n o := by
      obtain ⟨⟨b1, b2, b3, b4⟩, g⟩ := g
      exact ⟨⟨by rw [me_P_sP, if_neg (by omega)]; exact b1, by rw [me_P_sP, if_neg (by omega)]; exact b2, by rw [me_P_sP, if_neg (by omega)]; exact b3, b4⟩, g⟩
    obtain ⟨⟨b1, b2, b3, b4⟩, g1, g2, g3, g4⟩ := pO_zp g0 (by omega) k
    exact ⟨⟨by rw [me_P_sI, me_P_sP, if_neg (by omega)]; exact b1, by rw [me_P_sI, me_P_sP, if_neg (by omega)]; exact b2, by rw [me_P_sI, me_P_sP, if_neg (by omega)]; exact b3, b4⟩, g1, by rw [me_I_sI, if_neg (by omega)]; exact g2, fun j hj => by rw [me_I_sI, if_neg (by omega)]; exact g3 j hj, fun j hj => by rw [me_I_sI, if_neg (by omega)]; exact g4 j hj⟩
  have hI : ∀ s j q, s ≠ 1 → s ≠ 11 → s ≠ 12 → s ≠ 13 → ¬ (s = 0 ∧ q = 2) → me_I (me_sI (me_sP M2 0 0 0 (some (1, np + 1))) 0 0 2 (nI (np + 1))) s j q = me_I M1 s j q := by
    intro s j q q1 q2 q3 q4 q5
    rw [me_I_sI, if_neg (by omega), me_I_sP, k.1 s j q (by omega), me_I_sP]
  have hP : ∀ s j q, s ≠ 1 → s ≠ 11 → s ≠ 12 → s ≠ 13 → s ≠ 17 → ¬ (s = 0 ∧ q = 0) → me_P (me_sI (me_sP M2 0 0 0 (some (1, np + 1))) 0 0 2 (nI (np + 1))) s j q = me_P M1 s j q := by
    intro s j q q1 q2 q3 q4 q5 q6
    rw [me_P_sI, me_P_sP, if_neg (by omega), k.2.1 s j q (by omega), me_P_sP, if_neg (by omega)]
  have hL : ∀ s j, s ≠ 1 → s ≠ 11 → s ≠ 12 → s ≠ 13 → me_L (me_sI (me_sP M2 0 0 0 (some (1, np + 1))) 0 0 2 (nI (np + 1))) s j = me_L M1 s j := by
    intro s j q1 q2 q3 q4
    show me_L M2 s j = _
    rw [k.2.2 s j (by omega)]; rfl
  refine ⟨⟨⟨fun q hq => ?_, fun q hq => ?_, fun i hi => ⟨by rw [hP 4 i 0 (by omega) (by omega) (by omega) (by omega) (by omega) (by omega)]; exact (c i hi).1, by rw [hL 10 i (by omega) (by omega) (by omega) (by omega)]; exact (c i hi).2.1, by rw [hL 10 i (by omega) (by omega) (by omega) (by omega), hI 4 i 1 (by omega) (by omega) (by omega) (by omega) (by omega)]; exact (c i hi).2.2⟩⟩, ⟨by omega, by simp [me_I_sI], by simp [me_P_sI, me_P_sP], fun p hp => ?_, fun i hi => ?_, fun w hw => by rw [hI 3 w 0 (by omega) (by omega) (by omega) (by omega) (by omega)]; exact c6 w hw, by rw [hI 0 0 13 (by omega) (by omega) (by omega) (by omega) (by omega)]; exact c7⟩, e1, by rw [hI 0 0 4 (by omega) (by omega) (by omega) (by omega) (by omega)]; exact e2, fun t ht => ⟨by rw [hP 18 0 t (by omega) (by omega) (by omega) (by omega) (by omega) (by omega)]; exact (e3 t ht).1, ?_⟩⟩, ⟨fun s hs => ?_, fun s hs => ?_⟩, hpN, ⟨fun s j q hs => ?_, fun s j q hs => ?_, fun s j hs => ?_⟩, ?_, ?_, ?_⟩
  · have hs := (by decide : ∀ q ∈ yq_P, q.1 ≠ 1 ∧ q.1 ≠ 11 ∧ q.1 ≠ 12 ∧ q.1 ≠ 13 ∧ q.1 ≠ 17 ∧ ¬ (q.1 = 0 ∧ q.2.2.1 = 0)) q hq
    rw [hP _ _ _ hs.1 hs.2.1 hs.2.2.1 hs.2.2.2.1 hs.2.2.2.2.1 hs.2.2.2.2.2]; exact a q hq
  · have hs := (by decide : ∀ q ∈ yq_L, q.1 ≠ 1 ∧ q.1 ≠ 11 ∧ q.1 ≠ 12 ∧ q.1 ≠ 13) q hq
    rw [hL _ _ hs.1 hs.2.1 hs.2.2.1 hs.2.2.2]; exact b q hq
  · rw [me_P_sI, me_P_sP, if_neg (by omega), k.2.1 17 0 p (by omega), me_P_sP]
    split
    · rename_i hh; rw [hh.2.2]
    · exact c4 p (by omega)
  · rcases Nat.lt_or_ge np i with q | q
    · rw [show i = np + 1 by omega]; exact ⟨0, o, hpN⟩
    · obtain ⟨n, o, g⟩ := c5 i q
      exact ⟨n, o, hpO i n o q g⟩
  · obtain ⟨p, n, o, g1, g2, g3⟩ := (e3 t ht).2
    refine ⟨p, n, o, by omega, ?_, hpO p n o (by omega) g3⟩
    obtain ⟨a1, a2, a3, a4, a5, a6, a7⟩ := g2
    have hp2 : ∀ q, me_P (me_sI (me_sP M2 0 0 0 (some (1, np + 1))) 0 0 2 (nI (np + 1))) 2 t q = me_P M1 2 t q := fun q => hP 2 t q (by omega) (by omega) (by omega) (by omega) (by omega) (by omega)
    have hl2 : ∀ s, 14 ≤ s → me_L (me_sI (me_sP M2 0 0 0 (some (1, np + 1))) 0 0 2 (nI (np + 1))) s t = me_L M1 s t := fun s hs => hL s t (by omega) (by omega) (by omega) (by omega)
    exact ⟨by rw [hp2]; exact a1, by rw [hp2]; exact a2, by rw [hp2]; exact a3, by rw [hp2]; exact a4, by rw [hl2 _ (by omega)]; exact a5, by rw [hl2 _ (by omega)]; exact a6, by rw [hl2 _ (by omega)]; exact a7⟩
  · show me_N M2 s = nt
    rw [h4.1, if_neg (by omega)]; exact hN.1 s hs
  · show me_N M2 s = np + 1 + 1
    rw [h4.1, if_pos hs]
  · rw [hI s j q (by omega) (by omega) (by omega) (by omega) (by omega)]; exact ho.2 s j q (by omega)
  · rw [hP s j q (by omega) (by omega) (by omega) (by omega) (by omega) (by omega), ho.1.1]
  · rw [hL s j (by omega) (by omega) (by omega) (by omega), ho.1.2.1]
  · rw [hI 0 0 10 (by omega) (by omega) (by omega) (by omega) (by omega)]; exact ho.2 0 0 10 (by omega)
  · show me_C M2 = _
    rw [h4.2.1, ← ho.1.2.2.2.1]; rfl
  · show me_S M2 = _
    rw [h4.2.2, ← ho.1.2.2.2.2]; rfl
theorem yI_10 {np nt : Nat} {v : Int32} {M : Me} (h : yI M np nt) : yI (me_sI M 0 0 10 v) np nt := by
  obtain ⟨⟨a, b, c⟩, ⟨c1, c2, c3, c4, c5, c6, c7⟩, e1, e2, e3⟩ := h
  refine ⟨⟨a, b, fun i hi => rO_k (c i hi) (by omega)⟩, ⟨c1, by rw [me_I_sI, if_neg (by omega)]; exact c2, c3, c4, fun i hi => ?_, fun w hw => by rw [me_I_sI, if_neg (by omega)]; exact c6 w hw, by rw [me_I_sI, if_neg (by omega)]; exact c7⟩, e1, by rw [me_I_sI, if_neg (by omega)]; exact e2, fun t ht => ⟨(e3 t ht).1, ?_⟩⟩
  · obtain ⟨n, o, g⟩ := c5 i hi
    exact ⟨n, o, g.1, g.2.1, by rw [me_I_sI, if_neg (by omega)]; exact g.2.2.1, fun j hj => by rw [me_I_sI, if_neg (by omega)]; exact g.2.2.2.1 j hj, fun j hj => by rw [me_I_sI, if_neg (by omega)]; exact g.2.2.2.2 j hj⟩
  · obtain ⟨p, n, o, g1, g2, g⟩ := (e3 t ht).2
    exact ⟨p, n, o, g1, g2, g.1, g.2.1, by rw [me_I_sI, if_neg (by omega)]; exact g.2.2.1, fun j hj => by rw [me_I_sI, if_neg (by omega)]; exact g.2.2.2.1 j hj, fun j hj => by rw [me_I_sI, if_neg (by omega)]; exact g.2.2.2.2 j hj⟩
/-- what tick leaves alone -/
def yj (M M' : Me) : Prop := sq M M' ∧ ∀ s j k, (s = 1 ∨ s = 11 ∨ s = 12 ∨ s = 13 ∨ (s = 0 ∧ k = 2) ∨ s = 7 ∨ 17 ≤ s) → me_I M' s j k = me_I M s j k
theorem yj_rf {M : Me} : yj M M := ⟨sq_rf, fun _ _ _ _ => rfl⟩
theorem yj_yk {M M1 M2 : Me} (h : yj M M1) (k : yk M1 M2) : yj M M2 := ⟨sq_tr h.1 k.1, fun s j q z => (k.2 s j q (by omega)).trans (h.2 s j q z)⟩
theorem yj_10 {M M1 : Me} {v : Int32} (h : yj M M1) : yj M (me_sI M1 0 0 10 v) := ⟨sq_sI h.1, fun s j q z => by rw [me_I_sI, if_neg (by omega)]; exact h.2 s j q z⟩
set_option maxRecDepth 20000 in
set_option maxHeartbeats 4000000 in
theorem y_Y_clear {G : Gt} {M : Me} (d : Nat) (np : Nat) (nt : Nat) (n : Nat) (o : Nat → Nat) (hY : yI M np nt) (hP : pO M np n o) : sx G yt_Y_clear yn_Y_clear (d + 1) [.inr (some (0, 0))] M (fun r M' => r = some (.inl (nI n)) ∧ me_sI M 1 np 3 0 = M') := by
  refine sx_of (k := 1) (lc := [some (.inr (some (0, 0))), none]) mt_Y_clear (Nat.le_of_ble_eq_true rfl) rfl ?_
  refine jx_of (fun _ _ kz => jw_aload_n 0 d_Y_clear_0 rfl rfl kz) ?_
  refine jx_of (fun _ _ kz => jw_getPe (some (1, np)) fl_Y_12 d_Y_clear_1 rfl rfl (by simp [me_I_sI, me_I_sP, me_I_nx, me_P_sI, me_P_sP, me_P_nx, me_N_sI, me_N_sP, me_N_nx, me_L_sI, me_L_sP, me_L_nx, show me_P M 0 0 0 = some (1, np) from hY.2.1.2.2.1]) kz) ?_
  refine jx_of (fun _ _ kz => jw_getIe (nI n) fl_Y_89 d_Y_clear_4 rfl rfl hP.2.2.1 kz) ?_
  refine jx_of (fun _ _ kz => jw_istore_n 1 d_Y_clear_7 rfl (Nat.le_of_ble_eq_true rfl) kz) ?_
  dsimp only [List.set]
  refine jx_of (fun _ _ kz => jw_aload_n 0 d_Y_clear_8 rfl rfl kz) ?_
  refine jx_of (fun _ _ kz => jw_getPe (some (1, np)) fl_Y_12 d_Y_clear_9 rfl rfl (by simp [me_I_sI, me_I_sP, me_I_nx, me_P_sI, me_P_sP, me_P_nx, me_N_sI, me_N_sP, me_N_nx, me_L_sI, me_L_sP, me_L_nx, show me_P M 0 0 0 = some (1, np) from hY.2.1.2.2.1]) kz) ?_
  refine jx_of (fun _ _ kz => jw_iconst 0 d_Y_clear_12 (by decide) kz) ?_
  refine jx_of (fun _ _ kz => jw_putI fl_Y_89 (Or.inl rfl) rfl rfl d_Y_clear_13 rfl rfl kz) ?_
  refine jx_of (fun _ _ kz => jw_iload_n 1 d_Y_clear_16 rfl rfl kz) ?_
  refine jx_iret d_Y_clear_17 rfl ?_
  exact ⟨rfl, rfl⟩
set_option maxRecDepth 20000 in
set_option maxHeartbeats 4000000 in
theorem y_Y_token_r {G : Gt} {M : Me} (d : Nat) (x : Int32) (y : Int32) (np : Nat) (nt : Nat) (n : Nat) (o : Nat → Nat) (hY : yI M np nt) (hP : pO M np n o) (ht : ¬ tkv x y = 1) : sx G yt_Y_token yn_Y_token (d + 2) [.inr (some (0, 0)), .inl x, .inl y] M (fun r M' => r = some (.inl (-1)) ∧ M = M') := by
  refine sx_of (k := 0) (lc := [some (.inr (some (0, 0))), some (.inl x), some (.inl y)]) mt_Y_token (Nat.le_of_ble_eq_true rfl) rfl ?_
  refine jx_of (fun _ _ kz => jw_iload_n 1 d_Y_token_0 rfl rfl kz) ?_
  refine jx_if_lt 28 d_Y_token_1 (by decide) (fun b_1 => ?_) (fun b_1 => ?_)
  · skip
    refine jx_of (fun _ _ kz => jw_iconst (-1) d_Y_token_28 (by decide) kz) ?_
    refine jx_iret d_Y_token_29 rfl ?_
    exact ⟨rfl, rfl⟩
  · skip
    refine jx_of (fun _ _ kz => jw_iload_n 1 d_Y_token_4 rfl rfl kz) ?_
    refine jx_of (fun _ _ kz => jw_bipush 16 d_Y_token_5 (by decide) kz) ?_
    refine jx_icmp_ge 28 d_Y_token_7 (by decide) (fun b_7 => ?_) (fun b_7 => ?_)
    · skip
      refine jx_of (fun _ _ kz => jw_iconst (-1) d_Y_token_28 (by decide) kz) ?_
      refine jx_iret d_Y_token_29 rfl ?_
      exact ⟨rfl, rfl⟩
    · skip
      refine jx_of (fun _ _ kz => jw_iload_n 2 d_Y_token_10 rfl rfl kz) ?_
      refine jx_of (fun _ _ kz => jw_gets (q := (23, "LOWEST", sv_LOWEST)) (by decide) fs_Y_78 d_Y_token_11 kz) ?_
      refine jx_of (fun _ _ kz => jw_iload_n 1 d_Y_token_14 rfl rfl kz) ?_
      refine jx_of (fun _ _ kz => jw_ialdS (q := (23, "LOWEST", sv_LOWEST)) (by decide) d_Y_token_15 (tk_in b_1 b_7) kz) ?_
      refine jx_icmp_lt 28 d_Y_token_16 (by decide) (fun b_16 => ?_) (fun b_16 => ?_)
      · skip
        refine jx_of (fun _ _ kz => jw_iconst (-1) d_Y_token_28 (by decide) kz) ?_
        refine jx_iret d_Y_token_29 rfl ?_
        exact ⟨rfl, rfl⟩
      · skip
        refine jx_of (fun _ _ kz => jw_iload_n 2 d_Y_token_19 rfl rfl kz) ?_
        refine jx_of (fun _ _ kz => jw_gets (q := (24, "HIGHEST", sv_HIGHEST)) (by decide) fs_Y_82 d_Y_token_20 kz) ?_
        refine jx_of (fun _ _ kz => jw_iload_n 1 d_Y_token_23 rfl rfl kz) ?_
        refine jx_of (fun _ _ kz => jw_ialdS (q := (24, "HIGHEST", sv_HIGHEST)) (by decide) d_Y_token_24 (tk_in b_1 b_7) kz) ?_
        refine jx_icmp_le 30 d_Y_token_25 (by decide) (fun b_25 => ?_) (fun b_25 => ?_)
        · skip
          exact absurd (by rw [tkv, if_neg b_1, if_neg b_7, if_neg b_16, if_pos b_25]) ht
        · skip
          refine jx_of (fun _ _ kz => jw_iconst (-1) d_Y_token_28 (by decide) kz) ?_
          refine jx_iret d_Y_token_29 rfl ?_
          exact ⟨rfl, rfl⟩
set_option maxRecDepth 20000 in
set_option maxHeartbeats 4000000 in
theorem y_Y_token_u {G : Gt} {M : Me} (d : Nat) (x : Int32) (y : Int32) (np : Nat) (nt : Nat) (n : Nat) (o : Nat → Nat) (hY : yI M np nt) (hP : pO M np n o) (ht : tkv x y = 1) (h12 : n = 12) : sx G yt_Y_token yn_Y_token (d + 2) [.inr (some (0, 0)), .inl x, .inl y] M (fun r M' => r = some (.inl (-2)) ∧ M = M') := by
  refine sx_of (k := 0) (lc := [some (.inr (some (0, 0))), some (.inl x), some (.inl y)]) mt_Y_token (Nat.le_of_ble_eq_true rfl) rfl ?_
  refine jx_of (fun _ _ kz => jw_iload_n 1 d_Y_token_0 rfl rfl kz) ?_
  refine jx_if_lt 28 d_Y_token_1 (by decide) (fun b_1 => ?_) (fun b_1 => ?_)
  · skip
    exact absurd ht (tk_no (by first | exact Or.inl b_1 | exact Or.inr (Or.inl b_7) | exact Or.inr (Or.inr (Or.inl b_16)) | exact Or.inr (Or.inr (Or.inr b_25))))
  · skip
    refine jx_of (fun _ _ kz => jw_iload_n 1 d_Y_token_4 rfl rfl kz) ?_
    refine jx_of (fun _ _ kz => jw_bipush 16 d_Y_token_5 (by decide) kz) ?_
    refine jx_icmp_ge 28 d_Y_token_7 (by decide) (fun b_7 => ?_) (fun b_7 => ?_)
    · skip
      exact absurd ht (tk_no (by first | exact Or.inl b_1 | exact Or.inr (Or.inl b_7) | exact Or.inr (Or.inr (Or.inl b_16)) | exact Or.inr (Or.inr (Or.inr b_25))))
    · skip
      refine jx_of (fun _ _ kz => jw_iload_n 2 d_Y_token_10 rfl rfl kz) ?_
      refine jx_of (fun _ _ kz => jw_gets (q := (23, "LOWEST", sv_LOWEST)) (by decide) fs_Y_78 d_Y_token_11 kz) ?_
      refine jx_of (fun _ _ kz => jw_iload_n 1 d_Y_token_14 rfl rfl kz) ?_
      refine jx_of (fun _ _ kz => jw_ialdS (q := (23, "LOWEST", sv_LOWEST)) (by decide) d_Y_token_15 (tk_in b_1 b_7) kz) ?_
      refine jx_icmp_lt 28 d_Y_token_16 (by decide) (fun b_16 => ?_) (fun b_16 => ?_)
      · skip
        exact absurd ht (tk_no (by first | exact Or.inl b_1 | exact Or.inr (Or.inl b_7) | exact Or.inr (Or.inr (Or.inl b_16)) | exact Or.inr (Or.inr (Or.inr b_25))))
      · skip
        refine jx_of (fun _ _ kz => jw_iload_n 2 d_Y_token_19 rfl rfl kz) ?_
        refine jx_of (fun _ _ kz => jw_gets (q := (24, "HIGHEST", sv_HIGHEST)) (by decide) fs_Y_82 d_Y_token_20 kz) ?_
        refine jx_of (fun _ _ kz => jw_iload_n 1 d_Y_token_23 rfl rfl kz) ?_
        refine jx_of (fun _ _ kz => jw_ialdS (q := (24, "HIGHEST", sv_HIGHEST)) (by decide) d_Y_token_24 (tk_in b_1 b_7) kz) ?_
        refine jx_icmp_le 30 d_Y_token_25 (by decide) (fun b_25 => ?_) (fun b_25 => ?_)
        · skip
          refine jx_of (fun _ _ kz => jw_aload_n 0 d_Y_token_30 rfl rfl kz) ?_
          refine jx_of (fun _ _ kz => jw_getPe (some (1, np)) fl_Y_12 d_Y_token_31 rfl rfl (by simp [me_I_sI, me_I_sP, me_I_nx, me_P_sI, me_P_sP, me_P_nx, me_N_sI, me_N_sP, me_N_nx, me_L_sI, me_L_sP, me_L_nx, show me_P M 0 0 0 = some (1, np) from hY.2.1.2.2.1]) kz) ?_
          refine jx_of (fun _ _ kz => jw_iload_n 1 d_Y_token_34 rfl rfl kz) ?_
          refine jx_of (fun _ _ kz => jw_iload_n 2 d_Y_token_35 rfl rfl kz) ?_
          refine jx_callV (y_P_append_f d np n o x y hP  h12) mt_P_append cf_P rfl rfl ml_Y_85 im_P_append se_P_append d_Y_token_36 rfl rfl (Nat.le_of_ble_eq_true rfl) ?_
          rintro _ _ ⟨rfl, rfl⟩
          refine jx_eq (st2 := [.inl 0]) rfl rfl rfl ?_
          refine jx_if_eq 52 d_Y_token_39 (by decide) (fun _ => ?_) (fun h => absurd h (by decide))
          refine jx_of (fun _ _ kz => jw_bipush (-2) d_Y_token_52 (by decide) kz) ?_
          refine jx_iret d_Y_token_54 rfl ?_
          exact ⟨rfl, rfl⟩
        · skip
          exact absurd ht (tk_no (by first | exact Or.inl b_1 | exact Or.inr (Or.inl b_7) | exact Or.inr (Or.inr (Or.inl b_16)) | exact Or.inr (Or.inr (Or.inr b_25))))
set_option maxRecDepth 20000 in
set_option maxHeartbeats 4000000 in
theorem y_Y_token_a {G : Gt} {M : Me} (d : Nat) (x : Int32) (y : Int32) (np : Nat) (nt : Nat) (n : Nat) (o : Nat → Nat) (hY : yI M np nt) (hP : pO M np n o) (ht : tkv x y = 1) (h12 : n < 12) : sx G yt_Y_token yn_Y_token (d + 2) [.inr (some (0, 0)), .inl x, .inl y] M (fun r M' => r = some (.inl (nI (n + 1))) ∧ me_sI (me_sI (me_sI M 11 np n x) 12 np n y) 1 np 3 (nI (n + 1)) = M') := by
  refine sx_of (k := 0) (lc := [some (.inr (some (0, 0))), some (.inl x), some (.inl y)]) mt_Y_token (Nat.le_of_ble_eq_true rfl) rfl ?_
  refine jx_of (fun _ _ kz => jw_iload_n 1 d_Y_token_0 rfl rfl kz) ?_
  refine jx_if_lt 28 d_Y_token_1 (by decide) (fun b_1 => ?_) (fun b_1 => ?_)
  · skip
    exact absurd ht (tk_no (by first | exact Or.inl b_1 | exact Or.inr (Or.inl b_7) | exact Or.inr (Or.inr (Or.inl b_16)) | exact Or.inr (Or.inr (Or.inr b_25))))
  · skip
    refine jx_of (fun _ _ kz => jw_iload_n 1 d_Y_token_4 rfl rfl kz) ?_
    refine jx_of (fun _ _ kz => jw_bipush 16 d_Y_token_5 (by decide) kz) ?_
    refine jx_icmp_ge 28 d_Y_token_7 (by decide) (fun b_7 => ?_) (fun b_7 => ?_)
    · skip
      exact absurd ht (tk_no (by first | exact Or.inl b_1 | exact Or.inr (Or.inl b_7) | exact Or.inr (Or.inr (Or.inl b_16)) | exact Or.inr (Or.inr (Or.inr b_25))))
    · skip
      refine jx_of (fun _ _ kz => jw_iload_n 2 d_Y_token_10 rfl rfl kz) ?_
      refine jx_of (fun _ _ kz => jw_gets (q := (23, "LOWEST", sv_LOWEST)) (by decide) fs_Y_78 d_Y_token_11 kz) ?_
      refine jx_of (fun _ _ kz => jw_iload_n 1 d_Y_token_14 rfl rfl kz) ?_
      refine jx_of (fun _ _ kz => jw_ialdS (q := (23, "LOWEST", sv_LOWEST)) (by decide) d_Y_token_15 (tk_in b_1 b_7) kz) ?_
      refine jx_icmp_lt 28 d_Y_token_16 (by decide) (fun b_16 => ?_) (fun b_16 => ?_)
      · skip
        exact absurd ht (tk_no (by first | exact Or.inl b_1 | exact Or.inr (Or.inl b_7) | exact Or.inr (Or.inr (Or.inl b_16)) | exact Or.inr (Or.inr (Or.inr b_25))))
      · skip
        refine jx_of (fun _ _ kz => jw_iload_n 2 d_Y_token_19 rfl rfl kz) ?_
        refine jx_of (fun _ _ kz => jw_gets (q := (24, "HIGHEST", sv_HIGHEST)) (by decide) fs_Y_82 d_Y_token_20 kz) ?_
        refine jx_of (fun _ _ kz => jw_iload_n 1 d_Y_token_23 rfl rfl kz) ?_
        refine jx_of (fun _ _ kz => jw_ialdS (q := (24, "HIGHEST", sv_HIGHEST)) (by decide) d_Y_token_24 (tk_in b_1 b_7) kz) ?_
        refine jx_icmp_le 30 d_Y_token_25 (by decide) (fun b_25 => ?_) (fun b_25 => ?_)
        · skip
          refine jx_of (fun _ _ kz => jw_aload_n 0 d_Y_token_30 rfl rfl kz) ?_
          refine jx_of (fun _ _ kz => jw_getPe (some (1, np)) fl_Y_12 d_Y_token_31 rfl rfl (by simp [me_I_sI, me_I_sP, me_I_nx, me_P_sI, me_P_sP, me_P_nx, me_N_sI, me_N_sP, me_N_nx, me_L_sI, me_L_sP, me_L_nx, show me_P M 0 0 0 = some (1, np) from hY.2.1.2.2.1]) kz) ?_
          refine jx_of (fun _ _ kz => jw_iload_n 1 d_Y_token_34 rfl rfl kz) ?_
          refine jx_of (fun _ _ kz => jw_iload_n 2 d_Y_token_35 rfl rfl kz) ?_
          refine jx_callV (y_P_append_t d np n o x y hP  h12) mt_P_append cf_P rfl rfl ml_Y_85 im_P_append se_P_append d_Y_token_36 rfl rfl (Nat.le_of_ble_eq_true rfl) ?_
          rintro _ _ ⟨rfl, rfl⟩
          refine jx_eq (st2 := [.inl 1]) rfl rfl rfl ?_
          refine jx_if_eq 52 d_Y_token_39 (by decide) (fun h => absurd h (by decide)) (fun _ => ?_)
          refine jx_of (fun _ _ kz => jw_aload_n 0 d_Y_token_42 rfl rfl kz) ?_
          refine jx_of (fun _ _ kz => jw_getPe (some (1, np)) fl_Y_12 d_Y_token_43 rfl rfl (by simp [me_I_sI, me_I_sP, me_I_nx, me_P_sI, me_P_sP, me_P_nx, me_N_sI, me_N_sP, me_N_nx, me_L_sI, me_L_sP, me_L_nx, show me_P M 0 0 0 = some (1, np) from hY.2.1.2.2.1]) kz) ?_
          refine jx_of (fun _ _ kz => jw_getIe (nI (n + 1)) fl_Y_89 d_Y_token_46 rfl rfl (by simp [me_I_sI]) kz) ?_
          refine jx_of (fun _ _ kz => jw_goto 54 d_Y_token_49 (by decide) kz) ?_
          refine jx_iret d_Y_token_54 rfl ?_
          exact ⟨rfl, rfl⟩
        · skip
          exact absurd ht (tk_no (by first | exact Or.inl b_1 | exact Or.inr (Or.inl b_7) | exact Or.inr (Or.inr (Or.inl b_16)) | exact Or.inr (Or.inr (Or.inr b_25))))
set_option maxRecDepth 20000 in
set_option maxHeartbeats 4000000 in
theorem y_Y_define {G : Gt} {M : Me} (d : Nat) (np : Nat) (nt : Nat) (n : Nat) (o : Nat → Nat) (hY : yI M np nt) (hP : pO M np n o) (hN : yN M np nt) : sx G yt_Y_define yn_Y_define (d + 4) [.inr (some (0, 0))] M (fun r M' => (¬ vld o n ∧ r = some (.inl (-1)) ∧ M = M') ∨ (vld o n ∧ np = 6 ∧ r = some (.inl (-2)) ∧ M = M') ∨ (vld o n ∧ np < 6 ∧ r = some (.inl (nI np)) ∧ yI M' (np + 1) nt ∧ yN M' (np + 1) nt ∧ pO M' (np + 1) 0 o ∧ yo M M' ∧ me_I M' 0 0 10 = me_I M 0 0 10 ∧ me_C M' = me_C M + 4 ∧ me_S M' = me_S M + 40)) := by
  refine sx_of (k := 0) (lc := [some (.inr (some (0, 0)))]) mt_Y_define (Nat.le_of_ble_eq_true rfl) rfl ?_
  refine jx_of (fun _ _ kz => jw_aload_n 0 d_Y_define_0 rfl rfl kz) ?_
  refine jx_of (fun _ _ kz => jw_getPe (some (1, np)) fl_Y_12 d_Y_define_1 rfl rfl (by simp [me_I_sI, me_I_sP, me_I_nx, me_P_sI, me_P_sP, me_P_nx, me_N_sI, me_N_sP, me_N_nx, me_L_sI, me_L_sP, me_L_nx, show me_P M 0 0 0 = some (1, np) from hY.2.1.2.2.1]) kz) ?_
  refine jx_callV (y_P_isOneFuture (d + 2) np n o hP) mt_P_isOneFuture cf_P rfl rfl ml_Y_92 im_P_isOneFuture se_P_isOneFuture d_Y_define_4 rfl rfl (Nat.le_of_ble_eq_true rfl) ?_
  rintro r _ ⟨hr, rfl⟩
  rcases hr with ⟨hv, rfl⟩ | ⟨hv, rfl⟩
  · skip
    refine jx_eq (st2 := [.inl 0]) rfl rfl rfl ?_
    refine jx_if_ne 12 d_Y_define_7 (by decide) (fun h => absurd h (by decide)) (fun _ => ?_)
    refine jx_of (fun _ _ kz => jw_iconst (-1) d_Y_define_10 (by decide) kz) ?_
    refine jx_iret d_Y_define_11 rfl ?_
    exact Or.inl ⟨hv, rfl, rfl⟩
  · skip
    refine jx_eq (st2 := [.inl 1]) rfl rfl rfl ?_
    refine jx_if_ne 12 d_Y_define_7 (by decide) (fun _ => ?_) (fun h => absurd h (by decide))
    refine jx_of (fun _ _ kz => jw_aload_n 0 d_Y_define_12 rfl rfl kz) ?_
    refine jx_of (fun _ _ kz => jw_getIe (nI np) fl_Y_20 d_Y_define_13 rfl rfl hY.2.1.2.1 kz) ?_
    refine jx_of (fun _ _ kz => jw_bipush 6 d_Y_define_16 (by decide) kz) ?_
    refine jx_icmp_lt 24 d_Y_define_18 (by decide) (fun b_18 => ?_) (fun b_18 => ?_)
    · skip
      have hnp : np < 6 := (nI_ltI (b := 6) (by have := hY.2.1.1; omega) (by decide)).mp b_18
      refine jx_of (fun _ _ kz => jw_aload_n 0 d_Y_define_24 rfl rfl kz) ?_
      refine jx_of (fun _ _ kz => jw_getPe (some (1, np)) fl_Y_12 d_Y_define_25 rfl rfl (by simp [me_I_sI, me_I_sP, me_I_nx, me_P_sI, me_P_sP, me_P_nx, me_N_sI, me_N_sP, me_N_nx, me_L_sI, me_L_sP, me_L_nx, show me_P M 0 0 0 = some (1, np) from hY.2.1.2.2.1]) kz) ?_
      refine jx_callV (y_P_findEnds d np n o hP) mt_P_findEnds cf_P rfl rfl ml_Y_96 im_P_findEnds se_P_findEnds d_Y_define_28 rfl rfl (Nat.le_of_ble_eq_true rfl) ?_
      rintro _ M1 ⟨rfl, hP1, ec1⟩
      have h1 := yI_ec hY ec1 hP1
      have hN1 := yN_sq hN ec1.1
      refine jx_eq (st2 := []) rfl rfl rfl ?_
      refine jx_of (fun _ _ kz => jw_aload_n 0 d_Y_define_31 rfl rfl kz) ?_
      refine jx_of (fun _ _ kz => jw_getPe (some (17, 0)) fl_Y_16 d_Y_define_32 rfl rfl (by simp [me_I_sI, me_I_sP, me_I_nx, me_P_sI, me_P_sP, me_P_nx, me_N_sI, me_N_sP, me_N_nx, me_L_sI, me_L_sP, me_L_nx, show me_P M1 0 0 1 = some (17, 0) from h1.1.1 (0, 0, 1, 17, 0) (by decide)]) kz) ?_
      refine jx_of (fun _ _ kz => jw_aload_n 0 d_Y_define_35 rfl rfl kz) ?_
      refine jx_of (fun _ _ kz => jw_getIe (nI np) fl_Y_20 d_Y_define_36 rfl rfl h1.2.1.2.1 kz) ?_
      refine jx_of (fun _ _ kz => jw_aload_n 0 d_Y_define_39 rfl rfl kz) ?_
      refine jx_of (fun _ _ kz => jw_getPe (some (1, np)) fl_Y_12 d_Y_define_40 rfl rfl (by simp [me_I_sI, me_I_sP, me_I_nx, me_P_sI, me_P_sP, me_P_nx, me_N_sI, me_N_sP, me_N_nx, me_L_sI, me_L_sP, me_L_nx, show me_P M1 0 0 0 = some (1, np) from h1.2.1.2.2.1]) kz) ?_
      refine jx_of (fun _ _ kz => jw_aast cf_P d_Y_define_43 rfl rfl rfl rfl (by rw [show me_L _ 17 0 = 6 from (by simp [me_I_sI, me_I_sP, me_I_nx, me_P_sI, me_P_sP, me_P_nx, me_N_sI, me_N_sP, me_N_nx, me_L_sI, me_L_sP, me_L_nx, show me_L M1 17 0 = 6 from h1.1.2.1 (17, 0, 6) (by decide)])]; exact (vp_in_nI (by omega) (by omega))) kz) ?_
      rw [nI_clamp (by omega)]
      refine jx_of (fun _ _ kz => jw_aload_n 0 d_Y_define_44 rfl rfl kz) ?_
      refine jx_of (fun _ _ kz => jw_newe (s := 1) (np + 1) cf_P df_P cl_Y_9 it_P ii_P d_Y_define_45 rfl rfl (by simp [me_I_sI, me_I_sP, me_I_nx, me_P_sI, me_P_sP, me_P_nx, me_N_sI, me_N_sP, me_N_nx, me_L_sI, me_L_sP, me_L_nx, show me_N M1 1 = np + 1 from hN1.2 1 (by omega)]) kz) ?_
      refine jx_of (fun _ _ kz => jw_dup d_Y_define_48 kz) ?_
      refine jx_callIN (host := "PollYard") (x_P_init (d + 2) (((np + 1))) ((np + 1)) (by simp [me_I_sI, me_I_sP, me_I_nx, me_P_sI, me_P_sP, me_P_nx, me_N_sI, me_N_sP, me_N_nx, me_L_sI, me_L_sP, me_L_nx, show me_N M1 11 = np + 1 from hN1.2 11 (by omega)]) (by simp [me_I_sI, me_I_sP, me_I_nx, me_P_sI, me_P_sP, me_P_nx, me_N_sI, me_N_sP, me_N_nx, me_L_sI, me_L_sP, me_L_nx, show me_N M1 12 = np + 1 from hN1.2 12 (by omega)]) (by simp [me_I_sI, me_I_sP, me_I_nx, me_P_sI, me_P_sP, me_P_nx, me_N_sI, me_N_sP, me_N_nx, me_L_sI, me_L_sP, me_L_nx, show me_N M1 13 = np + 1 from hN1.2 13 (by omega)])) mt_P_init rfl rfl (by decide) im_P_init d_Y_define_49 rfl rfl (Nat.le_of_ble_eq_true rfl) (fun _ _ h => h.1) ?_
      rintro _ ⟨_, rfl⟩
      refine jx_of (fun _ _ kz => jw_putP fl_Y_12 (Or.inl rfl) (fun z => by cases z <;> rfl) (fun z => by cases z <;> rfl) d_Y_define_52 rfl rfl kz) ?_
      refine jx_of (fun _ _ kz => jw_aload_n 0 d_Y_define_55 rfl rfl kz) ?_
      refine jx_of (fun _ _ kz => jw_dup d_Y_define_56 kz) ?_
      refine jx_of (fun _ _ kz => jw_getIe (nI np) fl_Y_20 d_Y_define_57 rfl rfl (by simp [me_I_sI, me_I_sP, me_I_nx, me_P_sI, me_P_sP, me_P_nx, me_N_sI, me_N_sP, me_N_nx, me_L_sI, me_L_sP, me_L_nx, h1.2.1.2.1]) kz) ?_
      refine jx_of (fun _ _ kz => jw_dup_x1 d_Y_define_60 kz) ?_
      refine jx_of (fun _ _ kz => jw_iconst 1 d_Y_define_61 (by decide) kz) ?_
      refine jx_of (fun _ _ kz => jw_iadd d_Y_define_62 kz) ?_
      rw [show ((nI np) + 1 : Int32) = nI (np + 1) from nI_1 _]
      refine jx_of (fun _ _ kz => jw_putI fl_Y_20 (Or.inl rfl) rfl rfl d_Y_define_63 rfl rfl kz) ?_
      refine jx_iret d_Y_define_66 rfl ?_
      refine Or.inr (Or.inr ⟨hv, hnp, rfl, yd_new h1 hN1 hnp o ec1 (zp_sI (zp_sP (zp_nx (zp_sP (zp_nx (zp_sP (zp_nx (zp_nx zp_rf (by omega)) (by omega)) (by omega)) (by omega)) (by omega)) (by omega)) (by omega)) (by omega)) ?_ ?_ ?_ ?_ _ rfl⟩)
      · refine ⟨?_, ?_, ?_, ?_, ?_, ?_⟩ <;> simp [me_I_sI, me_I_sP, me_I_nx, me_P_sI, me_P_sP, me_P_nx, me_N_sI, me_N_sP, me_N_nx, me_L_sI, me_L_sP, me_L_nx]
      · simp [me_I_sI, me_I_sP, me_I_nx, me_P_sI, me_P_sP, me_P_nx, me_N_sI, me_N_sP, me_N_nx, me_L_sI, me_L_sP, me_L_nx]
      · intro q
        simp [me_I_sI, me_I_sP, me_I_nx, me_P_sI, me_P_sP, me_P_nx, me_N_sI, me_N_sP, me_N_nx, me_L_sI, me_L_sP, me_L_nx]
      · refine ⟨fun s => ?_, rfl, rfl⟩
        simp only [me_N_sI, me_N_sP, me_N_nx]
        by_cases q1 : s = 13 <;> by_cases q2 : s = 12 <;> by_cases q3 : s = 11 <;> by_cases q4 : s = 1 <;> simp [q1, q2, q3, q4]
    · skip
      refine jx_of (fun _ _ kz => jw_bipush (-2) d_Y_define_21 (by decide) kz) ?_
      refine jx_iret d_Y_define_23 rfl ?_
      exact Or.inr (Or.inl ⟨hv, by have := hY.2.1.1; rcases Nat.lt_or_ge np 6 with q | q; exact absurd (nI_lt (b := 6) q (by decide)) b_18; omega, rfl, rfl⟩)
set_option maxRecDepth 20000 in
set_option maxHeartbeats 4000000 in
theorem y_Y_tick_f {G : Gt} {M : Me} (d : Nat) (x : Int32) (np : Nat) (nt : Nat) (hY : yI M np nt) (hu : x < 1 ∨ 20 < x) : sx G yt_Y_tick yn_Y_tick (d + 5) [.inr (some (0, 0)), .inl x] M (fun r M' => r = some (.inl (-1)) ∧ M = M') := by
  refine sx_of (k := 1) (lc := [some (.inr (some (0, 0))), some (.inl x), none]) mt_Y_tick (Nat.le_of_ble_eq_true rfl) rfl ?_
  refine jx_of (fun _ _ kz => jw_iload_n 1 d_Y_tick_0 rfl rfl kz) ?_
  refine jx_of (fun _ _ kz => jw_iconst 1 d_Y_tick_1 (by decide) kz) ?_
  refine jx_icmp_lt 11 d_Y_tick_2 (by decide) (fun b_2 => ?_) (fun b_2 => ?_)
  · skip
    refine jx_of (fun _ _ kz => jw_iconst (-1) d_Y_tick_11 (by decide) kz) ?_
    refine jx_iret d_Y_tick_12 rfl ?_
    exact ⟨rfl, rfl⟩
  · skip
    refine jx_of (fun _ _ kz => jw_iload_n 1 d_Y_tick_5 rfl rfl kz) ?_
    refine jx_of (fun _ _ kz => jw_bipush 20 d_Y_tick_6 (by decide) kz) ?_
    refine jx_icmp_le 13 d_Y_tick_8 (by decide) (fun b_8 => ?_) (fun b_8 => ?_)
    · skip
      exact absurd (hu.resolve_left b_2) (Int32.not_lt.mpr b_8)
    · skip
      refine jx_of (fun _ _ kz => jw_iconst (-1) d_Y_tick_11 (by decide) kz) ?_
      refine jx_iret d_Y_tick_12 rfl ?_
      exact ⟨rfl, rfl⟩
set_option maxRecDepth 20000 in
set_option maxHeartbeats 4000000 in
theorem y_Y_tk_l {G : Gt} {M : Me} (d c np nt : Nat) (hc : c ≤ 20) (c0 s0 : Nat) : ∀ (m k : Nat) (M1 : Me), k + m = c → yI M1 np nt → yj M M1 → me_I M1 0 0 10 = me_I M 0 0 10 + nI k → jx G yt_Y_tick (d + 5) c0 s0 M1 15 [some (.inr (some (0, 0))), some (.inl (nI c)), some (.inl (nI k))] [] (fun r M' => r = some (.inl (me_I M 0 0 10 + nI c)) ∧ yI M' np nt ∧ yj M M' ∧ me_I M' 0 0 10 = me_I M 0 0 10 + nI c) := by
  intro m
  induction m with
  | zero =>
    intro k M1 hm h1 j1 e1
    refine jx_of (fun _ _ kz => jw_iload_n 2 d_Y_tick_15 rfl rfl kz) ?_
    refine jx_of (fun _ _ kz => jw_iload_n 1 d_Y_tick_16 rfl rfl kz) ?_
    refine jx_icmp_ge 40 d_Y_tick_17 (by decide) (fun _ => ?_) (fun h => absurd (nI_le (by omega) (by omega)) h)
    refine jx_of (fun _ _ kz => jw_aload_n 0 d_Y_tick_40 rfl rfl kz) ?_
    refine jx_callV (y_Y_injectWoken (d + 2) np nt h1) mt_Y_injectWoken cf_Y rfl rfl ml_Y_103 im_Y_injectWoken se_Y_injectWoken d_Y_tick_41 rfl rfl (Nat.le_of_ble_eq_true rfl) ?_
    rintro _ M2 ⟨rfl, h2, k2⟩
    refine jx_eq (st2 := []) rfl rfl rfl ?_
    refine jx_of (fun _ _ kz => jw_aload_n 0 d_Y_tick_44 rfl rfl kz) ?_
    refine jx_of (fun _ _ kz => jw_getIe (me_I M 0 0 10 + nI c) fl_Y_66 d_Y_tick_45 rfl rfl (by rw [k2.2 0 0 10 (by omega), e1, show k = c by omega]) kz) ?_
    refine jx_iret d_Y_tick_48 rfl ?_
    exact ⟨rfl, h2, yj_yk j1 k2, by rw [k2.2 0 0 10 (by omega), e1, show k = c by omega]⟩
  | succ m ih =>
    intro k M1 hm h1 j1 e1
    refine jx_of (fun _ _ kz => jw_iload_n 2 d_Y_tick_15 rfl rfl kz) ?_
    refine jx_of (fun _ _ kz => jw_iload_n 1 d_Y_tick_16 rfl rfl kz) ?_
    refine jx_icmp_ge 40 d_Y_tick_17 (by decide) (fun h => absurd h (nI_ge (by omega) (by omega))) (fun _ => ?_)
    refine jx_of (fun _ _ kz => jw_aload_n 0 d_Y_tick_20 rfl rfl kz) ?_
    refine jx_of (fun _ _ kz => jw_dup d_Y_tick_21 kz) ?_
    refine jx_of (fun _ _ kz => jw_getIe (me_I M 0 0 10 + nI k) fl_Y_66 d_Y_tick_22 rfl rfl e1 kz) ?_
    refine jx_of (fun _ _ kz => jw_iconst 1 d_Y_tick_25 (by decide) kz) ?_
    refine jx_of (fun _ _ kz => jw_iadd d_Y_tick_26 kz) ?_
    rw [show ((me_I M 0 0 10 + nI k) + 1 : Int32) = me_I M 0 0 10 + nI (k + 1) from (by rw [Int32.add_assoc, nI_1])]
    refine jx_of (fun _ _ kz => jw_putI fl_Y_66 (Or.inl rfl) rfl rfl d_Y_tick_27 rfl rfl kz) ?_
    refine jx_of (fun _ _ kz => jw_aload_n 0 d_Y_tick_30 rfl rfl kz) ?_
    refine jx_callV (y_Y_wakeTheDue d np nt (yI_10 h1)) mt_Y_wakeTheDue cf_Y rfl rfl ml_Y_110 im_Y_wakeTheDue se_Y_wakeTheDue d_Y_tick_31 rfl rfl (Nat.le_of_ble_eq_true rfl) ?_
    rintro _ M2 ⟨rfl, h2, k2⟩
    refine jx_eq (st2 := []) rfl rfl rfl ?_
    refine jx_of (fun _ _ kz => jw_iincc 1 d_Y_tick_34 (by decide) rfl (Nat.le_of_ble_eq_true rfl) kz) ?_
    dsimp only [List.set]
    refine jx_of (fun _ _ kz => jw_goto 15 d_Y_tick_37 (by decide) kz) ?_
    rw [nI_1]
    exact ih (k + 1) M2 (by omega) h2 (yj_yk (yj_10 j1) k2) (by rw [k2.2 0 0 10 (by omega)]; simp [me_I_sI])
set_option maxRecDepth 20000 in
set_option maxHeartbeats 4000000 in
theorem y_Y_tick_t {G : Gt} {M : Me} (d : Nat) (c : Nat) (np : Nat) (nt : Nat) (hY : yI M np nt) (hc : c ≤ 20) (h1 : ¬ nI c < 1) : sx G yt_Y_tick yn_Y_tick (d + 5) [.inr (some (0, 0)), .inl (nI c)] M (fun r M' => r = some (.inl (me_I M 0 0 10 + nI c)) ∧ yI M' np nt ∧ yj M M' ∧ me_I M' 0 0 10 = me_I M 0 0 10 + nI c) := by
  refine sx_of (k := 1) (lc := [some (.inr (some (0, 0))), some (.inl (nI c)), none]) mt_Y_tick (Nat.le_of_ble_eq_true rfl) rfl ?_
  refine jx_of (fun _ _ kz => jw_iload_n 1 d_Y_tick_0 rfl rfl kz) ?_
  refine jx_of (fun _ _ kz => jw_iconst 1 d_Y_tick_1 (by decide) kz) ?_
  refine jx_icmp_lt 11 d_Y_tick_2 (by decide) (fun h => absurd h h1) (fun _ => ?_)
  refine jx_of (fun _ _ kz => jw_iload_n 1 d_Y_tick_5 rfl rfl kz) ?_
  refine jx_of (fun _ _ kz => jw_bipush 20 d_Y_tick_6 (by decide) kz) ?_
  refine jx_icmp_le 13 d_Y_tick_8 (by decide) (fun _ => ?_) (fun h => absurd (nI_le (b := 20) hc (by decide)) h)
  refine jx_of (fun _ _ kz => jw_iconst 0 d_Y_tick_13 (by decide) kz) ?_
  refine jx_of (fun _ _ kz => jw_istore_n 2 d_Y_tick_14 rfl (Nat.le_of_ble_eq_true rfl) kz) ?_
  dsimp only [List.set]
  exact y_Y_tk_l d c np nt hc _ _ c 0 M (by omega) hY yj_rf (by rw [nI_0, Int32.add_zero])
