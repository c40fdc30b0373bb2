/-- only what belongs to the new Task i is changed -/
def nz (i : Nat) (M M' : Me) : Prop := (∀ s j k, ¬ ((s = 2 ∨ s = 14 ∨ s = 15 ∨ s = 16) ∧ j = i) → me_I M' s j k = me_I M s j k) ∧ (∀ s j k, ¬ ((s = 2 ∨ s = 14 ∨ s = 15 ∨ s = 16) ∧ j = i) → me_P M' s j k = me_P M s j k) ∧ ∀ s j, ¬ ((s = 2 ∨ s = 14 ∨ s = 15 ∨ s = 16) ∧ j = i) → me_L M' s j = me_L M s j
theorem nz_rf {i : Nat} {M : Me} : nz i M M := ⟨fun _ _ _ _ => rfl, fun _ _ _ _ => rfl, fun _ _ _ => rfl⟩
theorem nz_tr {i : Nat} {M M1 M2 : Me} (h : nz i M M1) (h2 : nz i M1 M2) : nz i M M2 := ⟨fun s j k q => (h2.1 s j k q).trans (h.1 s j k q), fun s j k q => (h2.2.1 s j k q).trans (h.2.1 s j k q), fun s j q => (h2.2.2 s j q).trans (h.2.2 s j q)⟩
theorem nz_sI {i s k : Nat} {v : Int32} {M M1 : Me} (h : nz i M M1) (hs : (s = 2 ∨ s = 14 ∨ s = 15 ∨ s = 16)) : nz i M (me_sI M1 s i k v) := ⟨fun s' j k' q => by rw [me_I_sI, if_neg (fun e => q ⟨by rw [e.1]; exact hs, e.2.1⟩)]; exact h.1 s' j k' q, h.2.1, h.2.2⟩
theorem nz_sP {i s k : Nat} {v : Option (Nat × Nat)} {M M1 : Me} (h : nz i M M1) (hs : (s = 2 ∨ s = 14 ∨ s = 15 ∨ s = 16)) : nz i M (me_sP M1 s i k v) := ⟨h.1, fun s' j k' q => by rw [me_P_sP, if_neg (fun e => q ⟨by rw [e.1]; exact hs, e.2.1⟩)]; exact h.2.1 s' j k' q, h.2.2⟩
theorem nz_nx {i s len sl : Nat} {M M1 : Me} (h : nz i M M1) (hs : (s = 2 ∨ s = 14 ∨ s = 15 ∨ s = 16)) : nz i M (me_nx M1 s i len sl) := ⟨fun s' j k' q => by rw [me_I_nx, if_neg (fun e => q ⟨by rw [e.1]; exact hs, e.2⟩)]; exact h.1 s' j k' q, fun s' j k' q => by rw [me_P_nx, if_neg (fun e => q ⟨by rw [e.1]; exact hs, e.2⟩)]; exact h.2.1 s' j k' q, fun s' j q => by rw [me_L_nx, if_neg (fun e => q ⟨by rw [e.1]; exact hs, e.2⟩)]; exact h.2.2 s' j q⟩
/-- what is made beside: three rows -/
def n3 (i : Nat) (M M' : Me) : Prop := (∀ s, me_N M' s = if s = 14 ∨ s = 15 ∨ s = 16 then i + 1 else me_N M s) ∧ me_C M' = me_C M + 3 ∧ me_S M' = me_S M + 36
theorem n3_sI {i s j k : Nat} {v : Int32} {M M1 : Me} (h : n3 i M M1) : n3 i M (me_sI M1 s j k v) := h
theorem tS_sI {t p s j k : Nat} {v : Int32} {M : Me} (h : tS M t p) : tS (me_sI M s j k v) t p := h
set_option maxRecDepth 20000 in
set_option maxHeartbeats 4000000 in
theorem y_T_init_l {G : Gt} {M : Me} (d i : Nat) (x y : Int32) (p : Nat) (c0 s0 : Nat) : ∀ (m k : Nat) (M1 : Me), k + m = 12 → tS M1 i p → nz i M M1 → n3 i M M1 → jx G yt_T_init (d + 1) c0 s0 M1 71 [some (.inr (some (2, i))), some (.inl x), some (.inl y), some (.inr (some (1, p))), some (.inl (nI k))] [] (fun r M' => r = none ∧ tS M' i p ∧ nz i M M' ∧ n3 i M M') := by
  intro m
  induction m with
  | zero =>
    intro k M1 hk hS hz h3
    refine jx_of (fun _ _ kz => jw_iload d_T_init_71 rfl kz) ?_
    refine jx_of (fun _ _ kz => jw_bipush 12 d_T_init_73 (by decide) kz) ?_
    refine jx_icmp_ge 92 d_T_init_75 (by decide) (fun _ => ?_) (fun h => absurd (nI_le (a := 12) (by omega) (by omega)) h)
    refine jx_vret d_T_init_92 rfl ?_
    exact ⟨rfl, hS, hz, h3⟩
  | succ m ih =>
    intro k M1 hk hS hz h3
    refine jx_of (fun _ _ kz => jw_iload d_T_init_71 rfl kz) ?_
    refine jx_of (fun _ _ kz => jw_bipush 12 d_T_init_73 (by decide) kz) ?_
    refine jx_icmp_ge 92 d_T_init_75 (by decide) (fun h => absurd h (nI_ge (b := 12) (by omega) (by omega))) (fun _ => ?_)
    refine jx_of (fun _ _ kz => jw_aload_n 0 d_T_init_78 rfl rfl kz) ?_
    refine jx_of (fun _ _ kz => jw_getPe (some (16, i)) fl_T_35 d_T_init_79 rfl rfl (by simp [me_I_sI, me_I_sP, me_I_nx, me_P_sI, me_P_sP, me_P_nx, me_N_sI, me_N_sP, me_N_nx, me_L_sI, me_L_sP, me_L_nx, show me_P M1 2 i 10 = some (16, i) from hS.2.2.2.1]) kz) ?_
    refine jx_of (fun _ _ kz => jw_iload d_T_init_82 rfl kz) ?_
    refine jx_of (fun _ _ kz => jw_iconst (-1) d_T_init_84 (by decide) kz) ?_
    refine jx_of (fun _ _ kz => jw_iast d_T_init_85 rfl rfl (by rw [show me_L _ 16 i = 12 from (by simp [me_I_sI, me_I_sP, me_I_nx, me_P_sI, me_P_sP, me_P_nx, me_N_sI, me_N_sP, me_N_nx, me_L_sI, me_L_sP, me_L_nx, show me_L M1 16 i = 12 from hS.2.2.2.2.2.2])]; exact (vp_in_nI (by omega) (by omega))) kz) ?_
    rw [nI_clamp (by omega)]
    refine jx_of (fun _ _ kz => jw_iincc 1 d_T_init_86 (by decide) rfl (Nat.le_of_ble_eq_true rfl) kz) ?_
    dsimp only [List.set]
    refine jx_of (fun _ _ kz => jw_goto 71 d_T_init_89 (by decide) kz) ?_
    rw [nI_1]
    exact ih (k + 1) _ (by omega) (tS_sI hS) (nz_sI hz (by omega)) (n3_sI h3)
set_option maxRecDepth 20000 in
set_option maxHeartbeats 4000000 in
theorem y_T_init {G : Gt} {M : Me} (d : Nat) (i : Nat) (x : Int32) (y : Int32) (p : Nat) (f0 : me_N M 14 = i) (f1 : me_N M 15 = i) (f2 : me_N M 16 = i) : sx G yt_T_init yn_T_init (d + 1) [.inr (some (2, i)), .inl x, .inl y, .inr (some (1, p))] M (fun r M' => r = none ∧ tS M' i p ∧ nz i M M' ∧ n3 i M M') := by
  refine sx_of (k := 1) (lc := [some (.inr (some (2, i))), some (.inl x), some (.inl y), some (.inr (some (1, p))), none]) mt_T_init (Nat.le_of_ble_eq_true rfl) rfl ?_
  refine jx_of (fun _ _ kz => jw_aload_n 0 d_T_init_0 rfl rfl kz) ?_
  refine jx_of (fun _ _ kz => jw_objInit ml_T_3 im_Obj co_Obj d_T_init_1 (Nat.le_of_ble_eq_true rfl) kz) ?_
  refine jx_of (fun _ _ kz => jw_aload_n 0 d_T_init_4 rfl rfl kz) ?_
  refine jx_of (fun _ _ kz => jw_iconst 1 d_T_init_5 (by decide) kz) ?_
  refine jx_of (fun _ _ kz => jw_putI fl_T_9 (Or.inr ⟨rfl, rfl⟩) rfl rfl d_T_init_6 rfl rfl kz) ?_
  refine jx_of (fun _ _ kz => jw_aload_n 0 d_T_init_9 rfl rfl kz) ?_
  refine jx_of (fun _ _ kz => jw_iconst 0 d_T_init_10 (by decide) kz) ?_
  refine jx_of (fun _ _ kz => jw_putI fl_T_15 (Or.inr ⟨rfl, rfl⟩) rfl rfl d_T_init_11 rfl rfl kz) ?_
  refine jx_of (fun _ _ kz => jw_aload_n 0 d_T_init_14 rfl rfl kz) ?_
  refine jx_of (fun _ _ kz => jw_iconst 0 d_T_init_15 (by decide) kz) ?_
  refine jx_of (fun _ _ kz => jw_putI fl_T_18 (Or.inr ⟨rfl, rfl⟩) rfl rfl d_T_init_16 rfl rfl kz) ?_
  refine jx_of (fun _ _ kz => jw_aload_n 0 d_T_init_19 rfl rfl kz) ?_
  refine jx_of (fun _ _ kz => jw_iconst 4 d_T_init_20 (by decide) kz) ?_
  refine jx_of (fun _ _ kz => jw_putI fl_T_21 (Or.inr ⟨rfl, rfl⟩) rfl rfl d_T_init_21 rfl rfl kz) ?_
  refine jx_of (fun _ _ kz => jw_aload_n 0 d_T_init_24 rfl rfl kz) ?_
  refine jx_of (fun _ _ kz => jw_iconst 0 d_T_init_25 (by decide) kz) ?_
  refine jx_of (fun _ _ kz => jw_putI fl_T_24 (Or.inr ⟨rfl, rfl⟩) rfl rfl d_T_init_26 rfl rfl kz) ?_
  refine jx_of (fun _ _ kz => jw_aload_n 0 d_T_init_29 rfl rfl kz) ?_
  refine jx_of (fun _ _ kz => jw_bipush 12 d_T_init_30 (by decide) kz) ?_
  refine jx_of (fun _ _ kz => jw_newIe (s := 14) (k := 12) i ac_int d_T_init_32 rfl rfl (by decide) (by decide) (by decide) (by simp [me_I_sI, me_I_sP, me_I_nx, me_P_sI, me_P_sP, me_P_nx, me_N_sI, me_N_sP, me_N_nx, me_L_sI, me_L_sP, me_L_nx, f0, f1, f2]) kz) ?_
  refine jx_of (fun _ _ kz => jw_putP fl_T_28 (Or.inr ⟨rfl, rfl⟩) (fun z => by cases z <;> rfl) (fun z => by cases z <;> rfl) d_T_init_34 rfl rfl kz) ?_
  refine jx_of (fun _ _ kz => jw_aload_n 0 d_T_init_37 rfl rfl kz) ?_
  refine jx_of (fun _ _ kz => jw_bipush 12 d_T_init_38 (by decide) kz) ?_
  refine jx_of (fun _ _ kz => jw_newIe (s := 15) (k := 12) i ac_int d_T_init_40 rfl rfl (by decide) (by decide) (by decide) (by simp [me_I_sI, me_I_sP, me_I_nx, me_P_sI, me_P_sP, me_P_nx, me_N_sI, me_N_sP, me_N_nx, me_L_sI, me_L_sP, me_L_nx, f0, f1, f2]) kz) ?_
  refine jx_of (fun _ _ kz => jw_putP fl_T_32 (Or.inr ⟨rfl, rfl⟩) (fun z => by cases z <;> rfl) (fun z => by cases z <;> rfl) d_T_init_42 rfl rfl kz) ?_
  refine jx_of (fun _ _ kz => jw_aload_n 0 d_T_init_45 rfl rfl kz) ?_
  refine jx_of (fun _ _ kz => jw_bipush 12 d_T_init_46 (by decide) kz) ?_
  refine jx_of (fun _ _ kz => jw_newIe (s := 16) (k := 12) i ac_int d_T_init_48 rfl rfl (by decide) (by decide) (by decide) (by simp [me_I_sI, me_I_sP, me_I_nx, me_P_sI, me_P_sP, me_P_nx, me_N_sI, me_N_sP, me_N_nx, me_L_sI, me_L_sP, me_L_nx, f0, f1, f2]) kz) ?_
  refine jx_of (fun _ _ kz => jw_putP fl_T_35 (Or.inr ⟨rfl, rfl⟩) (fun z => by cases z <;> rfl) (fun z => by cases z <;> rfl) d_T_init_50 rfl rfl kz) ?_
  refine jx_of (fun _ _ kz => jw_aload_n 0 d_T_init_53 rfl rfl kz) ?_
  refine jx_of (fun _ _ kz => jw_iload_n 1 d_T_init_54 rfl rfl kz) ?_
  refine jx_of (fun _ _ kz => jw_putI fl_T_38 (Or.inr ⟨rfl, rfl⟩) rfl rfl d_T_init_55 rfl rfl kz) ?_
  refine jx_of (fun _ _ kz => jw_aload_n 0 d_T_init_58 rfl rfl kz) ?_
  refine jx_of (fun _ _ kz => jw_iload_n 2 d_T_init_59 rfl rfl kz) ?_
  refine jx_of (fun _ _ kz => jw_putI fl_T_41 (Or.inr ⟨rfl, rfl⟩) rfl rfl d_T_init_60 rfl rfl kz) ?_
  refine jx_of (fun _ _ kz => jw_aload_n 0 d_T_init_63 rfl rfl kz) ?_
  refine jx_of (fun _ _ kz => jw_aload_n 3 d_T_init_64 rfl rfl kz) ?_
  refine jx_of (fun _ _ kz => jw_putP fl_T_44 (Or.inr ⟨rfl, rfl⟩) (fun z => by cases z <;> rfl) (fun z => by cases z <;> rfl) d_T_init_65 rfl rfl kz) ?_
  refine jx_of (fun _ _ kz => jw_iconst 0 d_T_init_68 (by decide) kz) ?_
  refine jx_of (fun _ _ kz => jw_istore d_T_init_69 (Nat.le_of_ble_eq_true rfl) kz) ?_
  dsimp only [List.set]
  refine y_T_init_l d i x y p _ _ 12 0 _ (by omega) ?_ (nz_sP (nz_sI (nz_sI (nz_sP (nz_nx (nz_sP (nz_nx (nz_sP (nz_nx (nz_sI (nz_sI (nz_sI (nz_sI (nz_sI nz_rf (by omega)) (by omega)) (by omega)) (by omega)) (by omega)) (by omega)) (by omega)) (by omega)) (by omega)) (by omega)) (by omega)) (by omega)) (by omega)) (by omega)) ?_
  · refine ⟨?_, ?_, ?_, ?_, ?_, ?_, ?_⟩ <;> simp [me_I_sI, me_I_sP, me_I_nx, me_P_sI, me_P_sP, me_P_nx, me_N_sI, me_N_sP, me_N_nx, me_L_sI, me_L_sP, me_L_nx]
  · refine ⟨fun s => ?_, rfl, rfl⟩
    simp only [me_N_sI, me_N_sP, me_N_nx]
    by_cases q1 : s = 16 <;> by_cases q2 : s = 15 <;> by_cases q3 : s = 14 <;> simp [q1, q2, q3]
