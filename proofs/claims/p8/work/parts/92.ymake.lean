/-- how many of each were made -/
def yN (M : Me) (np nt : Nat) : Prop := (∀ s, (s = 2 ∨ s = 14 ∨ s = 15 ∨ s = 16) → me_N M s = nt) ∧ ∀ s, (s = 1 ∨ s = 11 ∨ s = 12 ∨ s = 13) → me_N M s = np + 1
/-- what a polling leaves alone: programs, draft, clock, the rows of older tasks, and all that isn't the class's -/
def yf (nt : Nat) (M M' : Me) : Prop := (∀ s j k, (s = 1 ∨ s = 11 ∨ s = 12 ∨ s = 13 ∨ (s = 0 ∧ (k = 2 ∨ k = 10)) ∨ (s = 3 ∧ k = 0) ∨ s = 7 ∨ 17 ≤ s) → me_I M' s j k = me_I M s j k) ∧ (∀ s j k, s ≠ 18 → ((s ≠ 2 ∧ (s < 14 ∨ 16 < s)) ∨ j < nt) → me_P M' s j k = me_P M s j k) ∧ (∀ s j, ((s ≠ 2 ∧ (s < 14 ∨ 16 < s)) ∨ j < nt) → me_L M' s j = me_L M s j) ∧ ∀ s, ¬ (s = 2 ∨ s = 14 ∨ s = 15 ∨ s = 16) → me_N M' s = me_N M s
def yv (np nt nt' : Nat) (M M' : Me) : Prop := nt ≤ nt' ∧ yI M' np nt' ∧ yN M' np nt' ∧ yf nt M M' ∧ me_C M' + 4 * nt = me_C M + 4 * nt' ∧ me_S M' + 47 * nt = me_S M + 47 * nt'
theorem yf_tr {nt nt1 : Nat} {M M1 M2 : Me} (hn : nt ≤ nt1) (h : yf nt M M1) (h2 : yf nt1 M1 M2) : yf nt M M2 := ⟨fun s j k q => (h2.1 s j k q).trans (h.1 s j k q), fun s j k q r => (h2.2.1 s j k q (by omega)).trans (h.2.1 s j k q r), fun s j q => (h2.2.2.1 s j (by omega)).trans (h.2.2.1 s j q), fun s q => (h2.2.2.2 s q).trans (h.2.2.2 s q)⟩
theorem yf_yk {nt : Nat} {M M' : Me} (h : yk M M') : yf nt M M' := ⟨fun s j k q => h.2 s j k (by omega), fun s j k _ _ => by rw [h.1.1], fun s j _ => by rw [h.1.2.1], fun s _ => by rw [h.1.2.2.1]⟩
theorem yN_sq {np nt : Nat} {M M' : Me} (h : yN M np nt) (k : sq M M') : yN M' np nt := by unfold yN; rw [k.2.2.1]; exact h
theorem yv_rf {np nt : Nat} {M : Me} (h : yI M np nt) (hN : yN M np nt) : yv np nt nt M M := ⟨Nat.le_refl _, h, hN, yf_yk yk_rf, rfl, rfl⟩
theorem yv_tr {np nt nt1 nt2 : Nat} {M M1 M2 : Me} (h : yv np nt nt1 M M1) (h2 : yv np nt1 nt2 M1 M2) : yv np nt nt2 M M2 := by
  obtain ⟨a1, -, -, a4, a5, a6⟩ := h
  obtain ⟨b1, b2, b3, b4, b5, b6⟩ := h2
  exact ⟨by omega, b2, b3, yf_tr a1 a4 b4, by omega, by omega⟩
theorem yv_yk {np nt nt1 : Nat} {M M1 M2 : Me} (h : yv np nt nt1 M M1) (hY : yI M2 np nt1) (k : yk M1 M2) : yv np nt nt1 M M2 := by
  obtain ⟨a1, -, a3, a4, a5, a6⟩ := h
  exact ⟨a1, hY, yN_sq a3 k.1, yf_tr a1 a4 (yf_yk k), by rw [k.1.2.2.2.1]; exact a5, by rw [k.1.2.2.2.2]; exact a6⟩
theorem yv_tc {np nt nt1 t : Nat} {M M1 M2 : Me} (h : yv np nt nt1 M M1) (k : tc t M1 M2) : yv np nt nt1 M M2 := yv_yk h (yI_tc h.2.1 k) (yk_tc k)
theorem tO_yf {nt t p n : Nat} {o : Nat → Nat} {M M' : Me} (h : tO M t p n o) (ht : t < nt) (k : yf nt M M') : tO M' t p n o := by
  obtain ⟨⟨a1, a2, a3, a4, a5, a6, a7⟩, ⟨b1, b2, b3, b4, b5, b6⟩, c1, c2, c3, c4⟩ := h
  have e : ∀ q, me_P M' 2 t q = me_P M 2 t q := fun q => k.2.1 2 t q (by omega) (by omega)
  have f : ∀ q, me_P M' 1 p q = me_P M 1 p q := fun q => k.2.1 1 p q (by omega) (by omega)
  have l : ∀ s, me_L M' s t = me_L M s t := fun s => k.2.2.1 s t (by omega)
  have m : ∀ s, 11 ≤ s ∧ s < 14 → me_L M' s p = me_L M s p := fun s q => k.2.2.1 s p (by omega)
  refine ⟨⟨by rw [e]; exact a1, by rw [e]; exact a2, by rw [e]; exact a3, by rw [e]; exact a4, by rw [l]; exact a5, by rw [l]; exact a6, by rw [l]; exact a7⟩, ⟨by rw [f]; exact b1, by rw [f]; exact b2, by rw [f]; exact b3, by rw [m _ (by omega)]; exact b4, by rw [m _ (by omega)]; exact b5, by rw [m _ (by omega)]; exact b6⟩, c1, by rw [k.1 1 p 3 (by omega)]; exact c2, fun j hj => by rw [k.1 11 p j (by omega)]; exact c3 j hj, fun j hj => by rw [k.1 13 p j (by omega)]; exact c4 j hj⟩
theorem rO_z {i t : Nat} {M M' : Me} (h : rO M i) (k : nz t M M') : rO M' i := by
  refine ⟨by rw [k.2.1 4 i 0 (by omega)]; exact h.1, by rw [k.2.2 10 i (by omega)]; exact h.2.1, ?_⟩
  rw [k.2.2 10 i (by omega), k.1 4 i 1 (by omega)]; exact h.2.2
theorem pO_z {i t n : Nat} {o : Nat → Nat} {M M' : Me} (h : pO M i n o) (k : nz t M M') : pO M' i n o := by
  obtain ⟨⟨b1, b2, b3, b4, b5, b6⟩, c1, c2, c3, c4⟩ := h
  refine ⟨⟨by rw [k.2.1 1 i 0 (by omega)]; exact b1, by rw [k.2.1 1 i 1 (by omega)]; exact b2, by rw [k.2.1 1 i 2 (by omega)]; exact b3, by rw [k.2.2 11 i (by omega)]; exact b4, by rw [k.2.2 12 i (by omega)]; exact b5, by rw [k.2.2 13 i (by omega)]; exact b6⟩, c1, by rw [k.1 1 i 3 (by omega)]; exact c2, fun j hj => by rw [k.1 11 i j (by omega)]; exact c3 j hj, fun j hj => by rw [k.1 13 i j (by omega)]; exact c4 j hj⟩
theorem tO_z {i t p n : Nat} {o : Nat → Nat} {M M' : Me} (h : tO M i p n o) (hi : i ≠ t) (k : nz t M M') : tO M' i p n o := by
  obtain ⟨⟨a1, a2, a3, a4, a5, a6, a7⟩, c⟩ := h
  have e : ∀ q, me_P M' 2 i q = me_P M 2 i q := fun q => k.2.1 2 i q (by omega)
  have l : ∀ s, me_L M' s i = me_L M s i := fun s => k.2.2 s i (by omega)
  exact ⟨⟨by rw [e]; exact a1, by rw [e]; exact a2, by rw [e]; exact a3, by rw [e]; exact a4, by rw [l]; exact a5, by rw [l]; exact a6, by rw [l]; exact a7⟩, pO_z c k⟩
theorem yI_z {np nt : Nat} {M M' : Me} (h : yI M np nt) (k : nz nt M M') : yI M' np nt := by
  obtain ⟨⟨a, b, c⟩, ⟨c1, c2, c3, c4, c5, c6, c7⟩, e1, e2, e3⟩ := h
  refine ⟨⟨fun q hq => ?_, fun q hq => ?_, fun i hi => rO_z (c i hi) k⟩, ⟨c1, by rw [k.1 0 0 2 (by omega)]; exact c2, by rw [k.2.1 0 0 0 (by omega)]; exact c3, fun p hp => by rw [k.2.1 17 0 p (by omega)]; exact c4 p hp, fun i hi => ?_, fun w hw => by rw [k.1 3 w 0 (by omega)]; exact c6 w hw, by rw [k.1 0 0 13 (by omega)]; exact c7⟩, e1, by rw [k.1 0 0 4 (by omega)]; exact e2, fun t ht => ⟨by rw [k.2.1 18 0 t (by omega)]; exact (e3 t ht).1, ?_⟩⟩
  · have hs := (by decide : ∀ q ∈ yq_P, q.1 ≠ 2 ∧ q.1 ≠ 14 ∧ q.1 ≠ 15 ∧ q.1 ≠ 16) q hq
    rw [k.2.1 _ _ _ (by omega)]; exact a q hq
  · have hs := (by decide : ∀ q ∈ yq_L, q.1 ≠ 2 ∧ q.1 ≠ 14 ∧ q.1 ≠ 15 ∧ q.1 ≠ 16) q hq
    rw [k.2.2 _ _ (by omega)]; exact b q hq
  · obtain ⟨n, o, g⟩ := c5 i hi
    exact ⟨n, o, pO_z g k⟩
  · obtain ⟨p, n, o, g1, g2⟩ := (e3 t ht).2
    exact ⟨p, n, o, g1, tO_z g2 (by omega) k⟩
/-- the new Task stands in the row, the count is one more -/
theorem yv_new {np nt p : Nat} {M M1 : Me} (h : yI M np nt) (hN : yN M np nt) (hnt : nt < 12) (hp : p < np) (hS : tS M1 nt p) (k : nz nt (me_nx M 2 nt 0 11) M1) (h3 : n3 nt (me_nx M 2 nt 0 11) M1) : yv np nt (nt + 1) M (me_sI (me_sP M1 18 0 nt (some (2, nt))) 0 0 4 (nI (nt + 1))) := by
  have kk : nz nt M M1 := nz_tr (nz_nx nz_rf (by omega)) k
  obtain ⟨⟨a, b, c⟩, ⟨c1, c2, c3, c4, c5, c6, c7⟩, e1, e2, e3⟩ := yI_z h kk
  obtain ⟨n1, o1, hp1⟩ := c5 p (by omega)
  refine ⟨by omega, ⟨⟨fun q hq => ?_, b, fun i hi => ⟨(c i hi).1, (c i hi).2.1, ?_⟩⟩, ⟨c1, ?_, c3, c4, ?_, ?_, ?_⟩, by omega, by simp [me_I_sI], fun t ht => ⟨?_, ?_⟩⟩, ⟨fun s hs => ?_, fun s hs => ?_⟩, ⟨fun s j q hs => ?_, fun s j q hs hj => ?_, fun s j hs => ?_, fun s hs => ?_⟩, ?_, ?_⟩
  · have hs := (by decide : ∀ q ∈ yq_P, q.1 ≠ 18) q hq
    rw [me_P_sI, me_P_sP, if_neg (by omega)]; exact a q hq
  · rw [me_I_sI, if_neg (by omega)]; exact (c i hi).2.2
  · rw [me_I_sI, if_neg (by omega)]; exact c2
  · intro i hi
    obtain ⟨n, o, g⟩ := c5 i hi
    exact ⟨n, o, g.1, g.2.1, by rw [me_I_sI, if_neg (by omega)]; exact g.2.2.1, fun j hj => by rw [me_I_sI, if_neg (by omega)]; exact g.2.2.2.1 j hj, fun j hj => by rw [me_I_sI, if_neg (by omega)]; exact g.2.2.2.2 j hj⟩
  · intro w hw
    rw [me_I_sI, if_neg (by omega)]; exact c6 w hw
  · rw [me_I_sI, if_neg (by omega)]; exact c7
  · rw [me_P_sI, me_P_sP]
    split
    · rename_i hh; rw [hh.2.2]
    · exact (e3 t (by omega)).1
  · rcases Nat.lt_or_ge t nt with q | q
    · obtain ⟨p', n, o, g1, g2, g⟩ := (e3 t q).2
      refine ⟨p', n, o, g1, ?_, g.1, g.2.1, by rw [me_I_sI, if_neg (by omega)]; exact g.2.2.1, fun j hj => by rw [me_I_sI, if_neg (by omega)]; exact g.2.2.2.1 j hj, fun j hj => by rw [me_I_sI, if_neg (by omega)]; exact g.2.2.2.2 j hj⟩
      obtain ⟨a1, a2, a3, a4, a5⟩ := g2
      exact ⟨by rw [me_P_sI, me_P_sP, if_neg (by omega)]; exact a1, by rw [me_P_sI, me_P_sP, if_neg (by omega)]; exact a2, by rw [me_P_sI, me_P_sP, if_neg (by omega)]; exact a3, by rw [me_P_sI, me_P_sP, if_neg (by omega)]; exact a4, a5⟩
    · rw [show t = nt by omega]
      refine ⟨p, n1, o1, hp, ?_, hp1.1, hp1.2.1, by rw [me_I_sI, if_neg (by omega)]; exact hp1.2.2.1, fun j hj => by rw [me_I_sI, if_neg (by omega)]; exact hp1.2.2.2.1 j hj, fun j hj => by rw [me_I_sI, if_neg (by omega)]; exact hp1.2.2.2.2 j hj⟩
      obtain ⟨a1, a2, a3, a4, a5⟩ := hS
      exact ⟨by rw [me_P_sI, me_P_sP, if_neg (by omega)]; exact a1, by rw [me_P_sI, me_P_sP, if_neg (by omega)]; exact a2, by rw [me_P_sI, me_P_sP, if_neg (by omega)]; exact a3, by rw [me_P_sI, me_P_sP, if_neg (by omega)]; exact a4, a5⟩
  · show me_N M1 s = nt + 1
    rw [h3.1, me_N_nx]
    split
    · rfl
    · rw [if_pos (by omega)]
  · show me_N M1 s = np + 1
    rw [h3.1, me_N_nx, if_neg (by omega), if_neg (by omega)]
    exact hN.2 s hs
  · rw [me_I_sI, if_neg (by omega), me_I_sP]
    exact kk.1 s j q (by omega)
  · rw [me_P_sI, me_P_sP, if_neg (by omega)]
    exact kk.2.1 s j q (by omega)
  · show me_L M1 s j = _
    exact kk.2.2 s j (by omega)
  · show me_N M1 s = _
    rw [h3.1, me_N_nx, if_neg (by omega), if_neg (by omega)]
  · show me_C M1 + _ = _
    have e := h3.2.1
    have e2 : me_C (me_nx M 2 nt 0 11) = me_C M + 1 := rfl
    omega
  · show me_S M1 + _ = _
    have e := h3.2.2
    have e2 : me_S (me_nx M 2 nt 0 11) = me_S M + 11 := rfl
    omega
set_option maxRecDepth 20000 in
set_option maxHeartbeats 4000000 in
theorem y_Y_makeTask {G : Gt} {M : Me} (d : Nat) (x : Int32) (np : Nat) (nt : Nat) (hY : yI M np nt) (hN : yN M np nt) : sx G yt_Y_makeTask yn_Y_makeTask (d + 2) [.inr (some (0, 0)), .inl x] M (fun r M' => (∃ v : Int32, r = some (.inl v)) ∧ ∃ nt', yv np nt nt' M M') := by
  refine sx_of (k := 1) (lc := [some (.inr (some (0, 0))), some (.inl x), none]) mt_Y_makeTask (Nat.le_of_ble_eq_true rfl) rfl ?_
  refine jx_of (fun _ _ kz => jw_iload_n 1 d_Y_makeTask_0 rfl rfl kz) ?_
  refine jx_if_lt 21 d_Y_makeTask_1 (by decide) (fun b_1 => ?_) (fun b_1 => ?_)
  · skip
    refine jx_of (fun _ _ kz => jw_iconst (-1) d_Y_makeTask_21 (by decide) kz) ?_
    refine jx_iret d_Y_makeTask_22 rfl ?_
    exact ⟨⟨_, rfl⟩, nt, yv_rf hY hN⟩
  · skip
    refine jx_of (fun _ _ kz => jw_iload_n 1 d_Y_makeTask_4 rfl rfl kz) ?_
    refine jx_of (fun _ _ kz => jw_aload_n 0 d_Y_makeTask_5 rfl rfl kz) ?_
    refine jx_of (fun _ _ kz => jw_getIe (nI np) fl_Y_20 d_Y_makeTask_6 rfl rfl hY.2.1.2.1 kz) ?_
    refine jx_icmp_ge 21 d_Y_makeTask_9 (by decide) (fun b_9 => ?_) (fun b_9 => ?_)
    · skip
      refine jx_of (fun _ _ kz => jw_iconst (-1) d_Y_makeTask_21 (by decide) kz) ?_
      refine jx_iret d_Y_makeTask_22 rfl ?_
      exact ⟨⟨_, rfl⟩, nt, yv_rf hY hN⟩
    · skip
      refine jx_of (fun _ _ kz => jw_aload_n 0 d_Y_makeTask_12 rfl rfl kz) ?_
      refine jx_of (fun _ _ kz => jw_getIe (nI nt) fl_Y_30 d_Y_makeTask_13 rfl rfl hY.2.2.2.1 kz) ?_
      refine jx_of (fun _ _ kz => jw_bipush 12 d_Y_makeTask_16 (by decide) kz) ?_
      refine jx_icmp_lt 23 d_Y_makeTask_18 (by decide) (fun b_18 => ?_) (fun b_18 => ?_)
      · skip
        have hn12 := hY.2.2.1
        have hp6 := hY.2.1.1
        obtain ⟨q, hq0, rfl⟩ := nI_of b_1
        have hq : q < np := Nat.lt_of_not_le (fun z => b_9 (nI_le z hq0))
        have hnt : nt < 12 := (nI_ltI (b := 12) (by omega) (by decide)).mp b_18
        refine jx_of (fun _ _ kz => jw_aload_n 0 d_Y_makeTask_23 rfl rfl kz) ?_
        refine jx_of (fun _ _ kz => jw_getIe (nI nt) fl_Y_30 d_Y_makeTask_24 rfl rfl hY.2.2.2.1 kz) ?_
        refine jx_of (fun _ _ kz => jw_istore_n 2 d_Y_makeTask_27 rfl (Nat.le_of_ble_eq_true rfl) kz) ?_
        dsimp only [List.set]
        refine jx_of (fun _ _ kz => jw_aload_n 0 d_Y_makeTask_28 rfl rfl kz) ?_
        refine jx_of (fun _ _ kz => jw_getPe (some (18, 0)) fl_Y_26 d_Y_makeTask_29 rfl rfl (by simp [me_I_sI, me_I_sP, me_I_nx, me_P_sI, me_P_sP, me_P_nx, me_N_sI, me_N_sP, me_N_nx, me_L_sI, me_L_sP, me_L_nx, show me_P M 0 0 3 = some (18, 0) from hY.1.1 (0, 0, 3, 18, 0) (by decide)]) kz) ?_
        refine jx_of (fun _ _ kz => jw_iload_n 2 d_Y_makeTask_32 rfl rfl kz) ?_
        refine jx_of (fun _ _ kz => jw_newe (s := 2) nt cf_T df_T cl_Y_24 it_T ii_T d_Y_makeTask_33 rfl rfl (by simp [me_I_sI, me_I_sP, me_I_nx, me_P_sI, me_P_sP, me_P_nx, me_N_sI, me_N_sP, me_N_nx, me_L_sI, me_L_sP, me_L_nx, show me_N M 2 = nt from hN.1 2 (by omega)]) kz) ?_
        refine jx_of (fun _ _ kz => jw_dup d_Y_makeTask_36 kz) ?_
        refine jx_of (fun _ _ kz => jw_iload_n 2 d_Y_makeTask_37 rfl rfl kz) ?_
        refine jx_of (fun _ _ kz => jw_iload_n 1 d_Y_makeTask_38 rfl rfl kz) ?_
        refine jx_of (fun _ _ kz => jw_aload_n 0 d_Y_makeTask_39 rfl rfl kz) ?_
        refine jx_of (fun _ _ kz => jw_getPe (some (17, 0)) fl_Y_16 d_Y_makeTask_40 rfl rfl (by simp [me_I_sI, me_I_sP, me_I_nx, me_P_sI, me_P_sP, me_P_nx, me_N_sI, me_N_sP, me_N_nx, me_L_sI, me_L_sP, me_L_nx, show me_P M 0 0 1 = some (17, 0) from hY.1.1 (0, 0, 1, 17, 0) (by decide)]) kz) ?_
        refine jx_of (fun _ _ kz => jw_iload_n 1 d_Y_makeTask_43 rfl rfl kz) ?_
        refine jx_of (fun _ _ kz => jw_aalde (some (1, q)) d_Y_makeTask_44 rfl rfl (by rw [show me_L _ 17 0 = 6 from (by simp [me_I_sI, me_I_sP, me_I_nx, me_P_sI, me_P_sP, me_P_nx, me_N_sI, me_N_sP, me_N_nx, me_L_sI, me_L_sP, me_L_nx, show me_L M 17 0 = 6 from hY.1.2.1 (17, 0, 6) (by decide)])]; exact (vp_in_nI (by omega) (by omega))) (by rw [nI_clamp (by omega)]; first | exact hY.2.1.2.2.2.1 q hq | (rw [me_P_nx, if_neg (by omega)]; exact hY.2.1.2.2.2.1 q hq)) kz) ?_
        refine jx_callI (y_T_init d nt ((nI nt)) ((nI q)) q (by simp [me_I_sI, me_I_sP, me_I_nx, me_P_sI, me_P_sP, me_P_nx, me_N_sI, me_N_sP, me_N_nx, me_L_sI, me_L_sP, me_L_nx, show me_N M 14 = nt from hN.1 14 (by omega)]) (by simp [me_I_sI, me_I_sP, me_I_nx, me_P_sI, me_P_sP, me_P_nx, me_N_sI, me_N_sP, me_N_nx, me_L_sI, me_L_sP, me_L_nx, show me_N M 15 = nt from hN.1 15 (by omega)]) (by simp [me_I_sI, me_I_sP, me_I_nx, me_P_sI, me_P_sP, me_P_nx, me_N_sI, me_N_sP, me_N_nx, me_L_sI, me_L_sP, me_L_nx, show me_N M 16 = nt from hN.1 16 (by omega)])) mt_T_init rfl rfl ml_Y_207 im_T_init d_Y_makeTask_45 rfl rfl (Nat.le_of_ble_eq_true rfl) (fun _ _ h => h.1) ?_
        rintro M1 ⟨-, hS1, hz1, h31⟩
        have h1 : yI M1 np nt := yI_z hY (nz_tr (nz_nx nz_rf (by omega)) hz1)
        refine jx_of (fun _ _ kz => jw_aast cf_T d_Y_makeTask_48 rfl rfl rfl rfl (by rw [show me_L _ 18 0 = 12 from (by simp [me_I_sI, me_I_sP, me_I_nx, me_P_sI, me_P_sP, me_P_nx, me_N_sI, me_N_sP, me_N_nx, me_L_sI, me_L_sP, me_L_nx, show me_L M1 18 0 = 12 from h1.1.2.1 (18, 0, 12) (by decide)])]; exact (vp_in_nI (by omega) (by omega))) kz) ?_
        rw [nI_clamp (by omega)]
        refine jx_of (fun _ _ kz => jw_aload_n 0 d_Y_makeTask_49 rfl rfl kz) ?_
        refine jx_of (fun _ _ kz => jw_dup d_Y_makeTask_50 kz) ?_
        refine jx_of (fun _ _ kz => jw_getIe (nI nt) fl_Y_30 d_Y_makeTask_51 rfl rfl (by first | exact h1.2.2.2.1 | (rw [me_I_sP]; exact h1.2.2.2.1)) kz) ?_
        refine jx_of (fun _ _ kz => jw_iconst 1 d_Y_makeTask_54 (by decide) kz) ?_
        refine jx_of (fun _ _ kz => jw_iadd d_Y_makeTask_55 kz) ?_
        rw [show ((nI nt) + 1 : Int32) = nI (nt + 1) from nI_1 _]
        refine jx_of (fun _ _ kz => jw_putI fl_Y_30 (Or.inl rfl) rfl rfl d_Y_makeTask_56 rfl rfl kz) ?_
        refine jx_of (fun _ _ kz => jw_aload_n 0 d_Y_makeTask_59 rfl rfl kz) ?_
        refine jx_of (fun _ _ kz => jw_getPe (some (4, 4)) fl_Y_49 d_Y_makeTask_60 rfl rfl (by simp [me_I_sI, me_I_sP, me_I_nx, me_P_sI, me_P_sP, me_P_nx, me_N_sI, me_N_sP, me_N_nx, me_L_sI, me_L_sP, me_L_nx, show me_P M1 0 0 7 = some (4, 4) from h1.1.1 (0, 0, 7, 4, 4) (by decide)]) kz) ?_
        refine jx_of (fun _ _ kz => jw_iload_n 2 d_Y_makeTask_63 rfl rfl kz) ?_
        refine jx_callV (y_R_add d 4 ((nI nt)) ((yv_new hY hN hnt hq hS1 hz1 h31).2.1.1.2.2 4 (by omega))) mt_R_add cf_R rfl rfl ml_Y_210 im_R_add se_R_add d_Y_makeTask_64 rfl rfl (Nat.le_of_ble_eq_true rfl) ?_
        rintro _ M2 ⟨rfl, r2, c2⟩
        refine jx_eq (st2 := []) rfl rfl rfl ?_
        refine jx_of (fun _ _ kz => jw_iload_n 2 d_Y_makeTask_67 rfl rfl kz) ?_
        refine jx_iret d_Y_makeTask_68 rfl ?_
        exact ⟨⟨_, rfl⟩, nt + 1, yv_yk (yv_new hY hN hnt hq hS1 hz1 h31) (yI_rc (yv_new hY hN hnt hq hS1 hz1 h31).2.1 c2 r2) (yk_rc c2)⟩
      · skip
        refine jx_of (fun _ _ kz => jw_iconst (-1) d_Y_makeTask_21 (by decide) kz) ?_
        refine jx_iret d_Y_makeTask_22 rfl ?_
        exact ⟨⟨_, rfl⟩, nt, yv_rf hY hN⟩
