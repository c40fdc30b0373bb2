def kw (s k : Nat) : Prop := (s ≠ 7 ∧ s < 33) ∨ (s = 7 ∧ k ≠ 27 ∧ k ≠ 28 ∧ k ≠ 30 ∧ k ≠ 31 ∧ k ≠ 33 ∧ k ≠ 34)
def iw (np nt nt' : Nat) (X : List Nat) (M M' : Me) : Prop := nt ≤ nt' ∧ mI M' np nt' X ∧ (sq M M' ∧ (∀ s i k, kw s k → me_I M' s i k = me_I M s i k) ∧ ∀ t, t < nt → me_I M' 36 0 t = me_I M 36 0 t) ∧ tr X M M'
theorem iw_iv {np nt nt' : Nat} {X : List Nat} {M M' : Me} (h : iv np nt nt' X M M') : iw np nt nt' X M M' := ⟨h.1, h.2.1, ⟨h.2.2.1.1, fun s i k q => h.2.2.1.2.1 s i k (by unfold kw at q; unfold kg; omega), h.2.2.1.2.2⟩, h.2.2.2⟩
theorem iw_tr {np nt nt1 nt2 : Nat} {X : List Nat} {M M1 M2 : Me} (h : iw np nt nt1 X M M1) (h2 : iw np nt1 nt2 X M1 M2) : iw np nt nt2 X M M2 := ⟨Nat.le_trans h.1 h2.1, h2.2.1, ⟨sq_tr h.2.2.1.1 h2.2.2.1.1, fun s i k q => (h2.2.2.1.2.1 s i k q).trans (h.2.2.1.2.1 s i k q), fun t ht => (h2.2.2.1.2.2 t (Nat.lt_of_lt_of_le ht h.1)).trans (h.2.2.1.2.2 t ht)⟩, tr_tr h.2.2.2 h2.2.2.2⟩
theorem iw_sI {np nt nt' : Nat} {X : List Nat} {M M1 : Me} {s k : Nat} {v : Int32} (h : iw np nt nt' X M M1) (hs : hl s k ∨ s = 46 ∨ s = 47) : iw np nt nt' X M (me_sI M1 s 0 k v) := by
  refine ⟨h.1, mI_any h.2.1 (by rcases hs with q | q | q; exact Or.inl q; exact Or.inr (Or.inl q); exact Or.inr (Or.inr (Or.inl q))), ⟨sq_sI h.2.2.1.1, fun s' i k' q => ?_, fun t ht => ?_⟩, tr_sI h.2.2.2 (Or.inl (by unfold hl at hs; omega))⟩
  · rw [mx_ne (by unfold hl at hs; unfold kw at q; omega)]; exact h.2.2.1.2.1 s' i k' q
  · rw [mx_ne (by unfold hl at hs; omega)]; exact h.2.2.1.2.2 t ht
theorem tP_iw {np nt nt' : Nat} {X : List Nat} {M M1 : Me} {t p len : Nat} {o : Nat → Nat} (h : tP M t p len o) (k : iw np nt nt' X M M1) (ht : t < nt) : tP M1 t p len o :=
  ⟨by rw [k.2.2.1.2.2 t ht]; exact h.1, h.2.1, mP1_o h.2.2 (fun s j q => k.2.2.1.2.1 s 0 j (by unfold kw; omega))⟩
theorem tP_sI {M : Me} {t p len s k : Nat} {v : Int32} {o : Nat → Nat} (h : tP M t p len o) (hs : s ≠ 30 ∧ s ≠ 31 ∧ s ≠ 32 ∧ s ≠ 36) : tP (me_sI M s 0 k v) t p len o :=
  ⟨by rw [mx_ne (by omega)]; exact h.1, h.2.1, mP1_o h.2.2 (fun s' j q => mx_ne (by omega))⟩
/-- what follows once the node above tp is through -/
def kt (G : Gt) (d c0 s0 t np nt : Nat) (X : List Nat) (Q : Option AV → Me → Prop) (M : Me) (M1 : Me) (tp : Nat) : Prop := ∀ (nt2 : Nat) (M2 : Me) (q3 q4 q5 : Option AV), iw np nt nt2 X M M2 → (∀ j, j < tp → me_I M2 46 0 j = me_I M1 46 0 j ∧ me_I M2 47 0 j = me_I M1 47 0 j) → jx G yt_M_poll (d + 8) c0 s0 M2 16 [some (.inr (some (7, 0))), some (.inl (nI t)), some (.inl (nI tp + (-1))), q3, q4, q5] [] Q
/-- node n at stage v runs through -/
def nd (G : Gt) (d c0 s0 t np nt : Nat) (X : List Nat) (Q : Option AV → Me → Prop) (M : Me) (v : Int32) (n : Nat) : Prop := ∀ (tp nt1 : Nat) (M1 : Me) (o3 o4 o5 : Option AV), tp ≤ n → iw np nt nt1 X M M1 → me_I M1 46 0 tp = nI n → me_I M1 47 0 tp = v → kt G d c0 s0 t np nt X Q M M1 tp → jx G yt_M_poll (d + 8) c0 s0 M1 16 [some (.inr (some (7, 0))), some (.inl (nI t)), some (.inl (nI tp)), o3, o4, o5] [] Q
theorem kt_ch {G : Gt} {d c0 s0 t np nt : Nat} {X : List Nat} {Q : Option AV → Me → Prop} {M M1 M2 : Me} {tp : Nat} (h : kt G d c0 s0 t np nt X Q M M1 tp) (f : ∀ j, j < tp → me_I M2 46 0 j = me_I M1 46 0 j ∧ me_I M2 47 0 j = me_I M1 47 0 j) : kt G d c0 s0 t np nt X Q M M2 tp :=
  fun nt3 M3 q3 q4 q5 h3 g => h nt3 M3 q3 q4 q5 h3 (fun j hj => ⟨(g j hj).1.trans (f j hj).1, (g j hj).2.trans (f j hj).2⟩)
theorem n_m1 (k : Nat) : nI (k + 1) + (-1) = nI k := by rw [← Int32.sub_eq_add_neg, nI_pred]
theorem pl_ready {G : Gt} {d c0 s0 t np nt : Nat} {X : List Nat} {Q : Option AV → Me → Prop} {M M1 M2 : Me} {v : Int32} {n tp nt1 : Nat} {o3 o4 o5 : Option AV} (hN : nd G d c0 s0 t np nt X Q M v n) (htp : tp ≤ n) (h3 : iw np nt nt1 X M M2) (hat : me_I M1 46 0 tp = nI n) (f6 : ∀ j, me_I M2 46 0 j = me_I M1 46 0 j) (f7 : me_I M2 47 0 tp = v) (f8 : ∀ j, j ≠ tp → me_I M2 47 0 j = me_I M1 47 0 j) (hK : kt G d c0 s0 t np nt X Q M M1 tp) : jx G yt_M_poll (d + 8) c0 s0 (me_sI M2 7 0 34 2) 16 [some (.inr (some (7, 0))), some (.inl (nI t)), some (.inl (nI tp)), o3, o4, o5] [] Q :=
  hN tp nt1 _ o3 o4 o5 htp (iw_sI h3 (Or.inl (by unfold hl; omega))) (by rw [mx_ne (by omega), f6]; exact hat) (by rw [mx_ne (by omega)]; exact f7) (kt_ch hK (fun j hj => ⟨by rw [mx_ne (by omega)]; exact f6 j, by rw [mx_ne (by omega)]; exact f8 j (by omega)⟩))
theorem pl_push {G : Gt} {d c0 s0 t np nt : Nat} {X : List Nat} {Q : Option AV → Me → Prop} {M M1 M2 : Me} {v : Int32} {n c tp nt1 : Nat} {o3 o4 o5 : Option AV} (hC : nd G d c0 s0 t np nt X Q M 0 c) (hc : n < c) (hN : nd G d c0 s0 t np nt X Q M v n) (htp : tp ≤ n) (h3 : iw np nt nt1 X M M2) (hat : me_I M1 46 0 tp = nI n) (f6 : ∀ j, me_I M2 46 0 j = me_I M1 46 0 j) (f7 : me_I M2 47 0 tp = v) (f8 : ∀ j, j ≠ tp → me_I M2 47 0 j = me_I M1 47 0 j) (hK : kt G d c0 s0 t np nt X Q M M1 tp) : jx G yt_M_poll (d + 8) c0 s0 (me_sI (me_sI M2 46 0 (tp + 1) (nI c)) 47 0 (tp + 1) 0) 16 [some (.inr (some (7, 0))), some (.inl (nI t)), some (.inl (nI (tp + 1))), o3, o4, o5] [] Q := by
  have g6 : ∀ j, j < tp + 1 → me_I (me_sI (me_sI M2 46 0 (tp + 1) (nI c)) 47 0 (tp + 1) 0) 46 0 j = me_I M1 46 0 j := fun j hj => by rw [mx_ne (by omega), mx_ne (by omega)]; exact f6 j
  have g7 : ∀ j, j < tp + 1 → me_I (me_sI (me_sI M2 46 0 (tp + 1) (nI c)) 47 0 (tp + 1) 0) 47 0 j = me_I M2 47 0 j := fun j hj => by rw [mx_ne (by omega), mx_ne (by omega)]
  refine hC (tp + 1) nt1 _ o3 o4 o5 (by omega) (iw_sI (iw_sI h3 (by omega)) (by omega)) (by simp [me_I_sI]) (by simp [me_I_sI]) (fun nt2 M4 q3 q4 q5 h4 g => ?_)
  rw [n_m1]
  refine hN tp nt2 M4 q3 q4 q5 htp h4 (by rw [(g tp (by omega)).1, g6 tp (by omega)]; exact hat) (by rw [(g tp (by omega)).2, g7 tp (by omega)]; exact f7) (kt_ch hK (fun j hj => ⟨?_, ?_⟩))
  · rw [(g j (by omega)).1, g6 j (by omega)]
  · rw [(g j (by omega)).2, g7 j (by omega)]; exact f8 j (by omega)
set_option maxRecDepth 20000 in
set_option maxHeartbeats 4000000 in
theorem pl_00 {G : Gt} {d c0 s0 t np nt : Nat} {X : List Nat} {Q : Option AV → Me → Prop} {M : Me} {p len n : Nat} {o : Nat → Nat} (hI : mI M np nt X) (ht : t < nt) (hp : tP M t p len o) (hn : n < len) (hpn : pN (o n) = 0) : nd G d c0 s0 t np nt X Q M 0 n := by
  intro tp nt1 M1 o3 o4 o5 htp h1 hat hst hK
  have hq := tP_iw hp h1 ht
  have hok := hq.2.2.2.2.1 n hn
  have hnt := hI.2.2.1.2.1
  have hle := hp.2.2.1
  refine jx_of (fun _ _ kz => jw_iload_n 2 d_M_poll_16 rfl rfl kz) ?_
  refine jx_if_lt 138 d_M_poll_17 (by decide) (fun h => absurd h (nI_pos (by omega))) (fun _ => ?_)
  refine jx_of (fun _ _ kz => jw_aload_n 0 d_M_poll_20 rfl rfl kz) ?_
  refine jx_of (fun _ _ kz => jw_getPe (some (46, 0)) fl_M_59 d_M_poll_21 rfl rfl (by simp [me_I_sI, me_I_sP, me_I_nx, me_P_sI, me_P_sP, me_P_nx, me_N_sI, me_N_sP, me_N_nx, me_L_sI, me_L_sP, me_L_nx, show me_P M1 7 0 17 = some (46, 0) from h1.2.1.1.1 (7, 0, 17, 46, 0) (by decide)]) kz) ?_
  refine jx_of (fun _ _ kz => jw_iload_n 2 d_M_poll_24 rfl rfl kz) ?_
  refine jx_of (fun _ _ kz => jw_ialde (nI n) d_M_poll_25 rfl rfl (by rw [show me_L _ 46 0 = 13 from (by simp [me_I_sI, me_I_sP, me_I_nx, me_P_sI, me_P_sP, me_P_nx, me_N_sI, me_N_sP, me_N_nx, me_L_sI, me_L_sP, me_L_nx, show me_L M1 46 0 = 13 from h1.2.1.1.2 (46, 0, 13) (by decide)])]; exact (vp_in_nI (by omega) (by decide))) (by rw [nI_clamp (by omega)]; exact hat) kz) ?_
  refine jx_of (fun _ _ kz => jw_istore_n 3 d_M_poll_26 rfl (Nat.le_of_ble_eq_true rfl) kz) ?_
  dsimp only [List.set]
  refine jx_of (fun _ _ kz => jw_bipush 12 d_M_poll_27 (by decide) kz) ?_
  refine jx_of (fun _ _ kz => jw_iload_n 1 d_M_poll_29 rfl rfl kz) ?_
  refine jx_of (fun _ _ kz => jw_imul d_M_poll_30 kz) ?_
  rw [show (12 * (nI t) : Int32) = nI (12 * t) from n12 t]
  refine jx_of (fun _ _ kz => jw_iload_n 3 d_M_poll_31 rfl rfl kz) ?_
  refine jx_of (fun _ _ kz => jw_iadd d_M_poll_32 kz) ?_
  rw [show ((nI (12 * t)) + (nI n) : Int32) = nI (12 * t + n) from nI_add _ _]
  refine jx_of (fun _ _ kz => jw_istore d_M_poll_33 (Nat.le_of_ble_eq_true rfl) kz) ?_
  dsimp only [List.set]
  refine jx_of (fun _ _ kz => jw_iconst (-1) d_M_poll_35 (by decide) kz) ?_
  refine jx_of (fun _ _ kz => jw_istore d_M_poll_36 (Nat.le_of_ble_eq_true rfl) kz) ?_
  dsimp only [List.set]
  refine jx_of (fun _ _ kz => jw_aload_n 0 d_M_poll_38 rfl rfl kz) ?_
  refine jx_of (fun _ _ kz => jw_iload_n 1 d_M_poll_39 rfl rfl kz) ?_
  refine jx_of (fun _ _ kz => jw_iload_n 3 d_M_poll_40 rfl rfl kz) ?_
  refine jx_callV (z_M_opOf (d + 6) t n p h1.2.1.1  (by omega) (by omega) hq.1 hq.2.1) mt_M_opOf cf_M rfl rfl ml_M_108 im_M_opOf se_M_opOf d_M_poll_41 rfl rfl (Nat.le_of_ble_eq_true rfl) ?_
  rintro _ _ ⟨rfl, rfl⟩
  refine jx_eq (st2 := [.inl (me_I M1 30 0 (12 * p + n))]) rfl rfl rfl ?_
  rw [show (me_I M1 30 0 (12 * p + n) : Int32) = nI (o n) from hok.2.1]
  refine jx_callS (z_M_parts (d + 5) ((o n))  hok.1) mt_M_parts ml_M_101 sm_M_parts d_M_poll_44 rfl rfl (Nat.le_of_ble_eq_true rfl) ?_
  rintro _ _ ⟨rfl, rfl⟩
  refine jx_eq (st2 := [.inl (nI (pN (o n)))]) rfl rfl rfl ?_
  rw [show (nI (pN (o n)) : Int32) = 0 from (by rw [hpn]; rfl)]
  refine jx_if_ne 61 d_M_poll_47 (by decide) (fun h => absurd h (by decide)) (fun _ => ?_)
  refine jx_of (fun _ _ kz => jw_aload_n 0 d_M_poll_50 rfl rfl kz) ?_
  refine jx_of (fun _ _ kz => jw_iload_n 1 d_M_poll_51 rfl rfl kz) ?_
  refine jx_of (fun _ _ kz => jw_iload_n 3 d_M_poll_52 rfl rfl kz) ?_
  refine jx_of (fun _ _ kz => jw_iload d_M_poll_53 rfl kz) ?_
  refine jx_callV (z_M_leaf d t n ((12 * t + n)) p len o np nt1 X h1.2.1  (Nat.lt_of_lt_of_le ht h1.1) hq hn (by omega)) mt_M_leaf cf_M rfl rfl ml_M_154 im_M_leaf se_M_leaf d_M_poll_55 rfl rfl (Nat.le_of_ble_eq_true rfl) ?_
  rintro _ M2 ⟨rfl, nt2, h2⟩
  have h3 := iw_tr h1 (iw_iv h2)
  have f6 : ∀ j, me_I M2 46 0 j = me_I M1 46 0 j := fun j => h2.2.2.1.2.1 46 0 j (by unfold kg; omega)
  have f8 : ∀ j, j ≠ tp → me_I M2 47 0 j = me_I M1 47 0 j := fun j hj => h2.2.2.1.2.1 47 0 j (by unfold kg; omega)
  refine jx_eq (st2 := []) rfl rfl rfl ?_
  refine jx_of (fun _ _ kz => jw_goto 82 d_M_poll_58 (by decide) kz) ?_
  refine jx_of (fun _ _ kz => jw_iload d_M_poll_82 rfl kz) ?_
  refine jx_if_ge 93 d_M_poll_84 (by decide) (fun h => absurd h (by decide)) (fun _ => ?_)
  refine jx_of (fun _ _ kz => jw_iincc (-1) d_M_poll_87 (by decide) rfl (Nat.le_of_ble_eq_true rfl) kz) ?_
  dsimp only [List.set]
  refine jx_of (fun _ _ kz => jw_goto 135 d_M_poll_90 (by decide) kz) ?_
  refine jx_of (fun _ _ kz => jw_goto 16 d_M_poll_135 (by decide) kz) ?_
  exact hK _ M2 _ _ _ h3 (fun j hj => ⟨f6 j, f8 j (by omega)⟩)
set_option maxRecDepth 20000 in
set_option maxHeartbeats 4000000 in
theorem pl_22 {G : Gt} {d c0 s0 t np nt : Nat} {X : List Nat} {Q : Option AV → Me → Prop} {M : Me} {p len n : Nat} {o : Nat → Nat} (hI : mI M np nt X) (ht : t < nt) (hp : tP M t p len o) (hn : n < len) (hpn : pN (o n) = 2) : nd G d c0 s0 t np nt X Q M 2 n := by
  intro tp nt1 M1 o3 o4 o5 htp h1 hat hst hK
  have hq := tP_iw hp h1 ht
  have hok := hq.2.2.2.2.1 n hn
  have hnt := hI.2.2.1.2.1
  have hle := hp.2.2.1
  refine jx_of (fun _ _ kz => jw_iload_n 2 d_M_poll_16 rfl rfl kz) ?_
  refine jx_if_lt 138 d_M_poll_17 (by decide) (fun h => absurd h (nI_pos (by omega))) (fun _ => ?_)
  refine jx_of (fun _ _ kz => jw_aload_n 0 d_M_poll_20 rfl rfl kz) ?_
  refine jx_of (fun _ _ kz => jw_getPe (some (46, 0)) fl_M_59 d_M_poll_21 rfl rfl (by simp [me_I_sI, me_I_sP, me_I_nx, me_P_sI, me_P_sP, me_P_nx, me_N_sI, me_N_sP, me_N_nx, me_L_sI, me_L_sP, me_L_nx, show me_P M1 7 0 17 = some (46, 0) from h1.2.1.1.1 (7, 0, 17, 46, 0) (by decide)]) kz) ?_
  refine jx_of (fun _ _ kz => jw_iload_n 2 d_M_poll_24 rfl rfl kz) ?_
  refine jx_of (fun _ _ kz => jw_ialde (nI n) d_M_poll_25 rfl rfl (by rw [show me_L _ 46 0 = 13 from (by simp [me_I_sI, me_I_sP, me_I_nx, me_P_sI, me_P_sP, me_P_nx, me_N_sI, me_N_sP, me_N_nx, me_L_sI, me_L_sP, me_L_nx, show me_L M1 46 0 = 13 from h1.2.1.1.2 (46, 0, 13) (by decide)])]; exact (vp_in_nI (by omega) (by decide))) (by rw [nI_clamp (by omega)]; exact hat) kz) ?_
  refine jx_of (fun _ _ kz => jw_istore_n 3 d_M_poll_26 rfl (Nat.le_of_ble_eq_true rfl) kz) ?_
  dsimp only [List.set]
  refine jx_of (fun _ _ kz => jw_bipush 12 d_M_poll_27 (by decide) kz) ?_
  refine jx_of (fun _ _ kz => jw_iload_n 1 d_M_poll_29 rfl rfl kz) ?_
  refine jx_of (fun _ _ kz => jw_imul d_M_poll_30 kz) ?_
  rw [show (12 * (nI t) : Int32) = nI (12 * t) from n12 t]
  refine jx_of (fun _ _ kz => jw_iload_n 3 d_M_poll_31 rfl rfl kz) ?_
  refine jx_of (fun _ _ kz => jw_iadd d_M_poll_32 kz) ?_
  rw [show ((nI (12 * t)) + (nI n) : Int32) = nI (12 * t + n) from nI_add _ _]
  refine jx_of (fun _ _ kz => jw_istore d_M_poll_33 (Nat.le_of_ble_eq_true rfl) kz) ?_
  dsimp only [List.set]
  refine jx_of (fun _ _ kz => jw_iconst (-1) d_M_poll_35 (by decide) kz) ?_
  refine jx_of (fun _ _ kz => jw_istore d_M_poll_36 (Nat.le_of_ble_eq_true rfl) kz) ?_
  dsimp only [List.set]
  refine jx_of (fun _ _ kz => jw_aload_n 0 d_M_poll_38 rfl rfl kz) ?_
  refine jx_of (fun _ _ kz => jw_iload_n 1 d_M_poll_39 rfl rfl kz) ?_
  refine jx_of (fun _ _ kz => jw_iload_n 3 d_M_poll_40 rfl rfl kz) ?_
  refine jx_callV (z_M_opOf (d + 6) t n p h1.2.1.1  (by omega) (by omega) hq.1 hq.2.1) mt_M_opOf cf_M rfl rfl ml_M_108 im_M_opOf se_M_opOf d_M_poll_41 rfl rfl (Nat.le_of_ble_eq_true rfl) ?_
  rintro _ _ ⟨rfl, rfl⟩
  refine jx_eq (st2 := [.inl (me_I M1 30 0 (12 * p + n))]) rfl rfl rfl ?_
  rw [show (me_I M1 30 0 (12 * p + n) : Int32) = nI (o n) from hok.2.1]
  refine jx_callS (z_M_parts (d + 5) ((o n))  hok.1) mt_M_parts ml_M_101 sm_M_parts d_M_poll_44 rfl rfl (Nat.le_of_ble_eq_true rfl) ?_
  rintro _ _ ⟨rfl, rfl⟩
  refine jx_eq (st2 := [.inl (nI (pN (o n)))]) rfl rfl rfl ?_
  rw [show (nI (pN (o n)) : Int32) = 2 from (by rw [hpn]; rfl)]
  refine jx_if_ne 61 d_M_poll_47 (by decide) (fun _ => ?_) (fun h => absurd h (by decide))
  refine jx_of (fun _ _ kz => jw_aload_n 0 d_M_poll_61 rfl rfl kz) ?_
  refine jx_of (fun _ _ kz => jw_iload_n 1 d_M_poll_62 rfl rfl kz) ?_
  refine jx_of (fun _ _ kz => jw_iload_n 3 d_M_poll_63 rfl rfl kz) ?_
  refine jx_of (fun _ _ kz => jw_iload d_M_poll_64 rfl kz) ?_
  refine jx_of (fun _ _ kz => jw_aload_n 0 d_M_poll_66 rfl rfl kz) ?_
  refine jx_of (fun _ _ kz => jw_getPe (some (47, 0)) fl_M_62 d_M_poll_67 rfl rfl (by simp [me_I_sI, me_I_sP, me_I_nx, me_P_sI, me_P_sP, me_P_nx, me_N_sI, me_N_sP, me_N_nx, me_L_sI, me_L_sP, me_L_nx, show me_P M1 7 0 18 = some (47, 0) from h1.2.1.1.1 (7, 0, 18, 47, 0) (by decide)]) kz) ?_
  refine jx_of (fun _ _ kz => jw_iload_n 2 d_M_poll_70 rfl rfl kz) ?_
  refine jx_of (fun _ _ kz => jw_dup2 d_M_poll_71 kz) ?_
  refine jx_of (fun _ _ kz => jw_ialde (2) d_M_poll_72 rfl rfl (by rw [show me_L _ 47 0 = 13 from (by simp [me_I_sI, me_I_sP, me_I_nx, me_P_sI, me_P_sP, me_P_nx, me_N_sI, me_N_sP, me_N_nx, me_L_sI, me_L_sP, me_L_nx, show me_L M1 47 0 = 13 from h1.2.1.1.2 (47, 0, 13) (by decide)])]; exact (vp_in_nI (by omega) (by decide))) (by rw [nI_clamp (by omega)]; exact hst) kz) ?_
  refine jx_of (fun _ _ kz => jw_dup_x2 d_M_poll_73 kz) ?_
  refine jx_of (fun _ _ kz => jw_iconst 1 d_M_poll_74 (by decide) kz) ?_
  refine jx_of (fun _ _ kz => jw_iadd d_M_poll_75 kz) ?_
  rw [show (2 + 1 : Int32) = 3 from by decide]
  refine jx_of (fun _ _ kz => jw_iast d_M_poll_76 rfl rfl (by rw [show me_L _ 47 0 = 13 from (by simp [me_I_sI, me_I_sP, me_I_nx, me_P_sI, me_P_sP, me_P_nx, me_N_sI, me_N_sP, me_N_nx, me_L_sI, me_L_sP, me_L_nx, show me_L M1 47 0 = 13 from h1.2.1.1.2 (47, 0, 13) (by decide)])]; exact (vp_in_nI (by omega) (by decide))) kz) ?_
  rw [nI_clamp (by omega)]
  refine jx_callV (z_M_step_22 d t n ((12 * t + n)) p len o np nt1 X (mI_any h1.2.1 (Or.inr (Or.inr (Or.inl rfl))))  (Nat.lt_of_lt_of_le ht h1.1) (tP_sI hq (by omega)) hn (by omega) hpn) mt_M_step cf_M rfl rfl ml_M_158 im_M_step se_M_step d_M_poll_77 rfl rfl (Nat.le_of_ble_eq_true rfl) ?_
  rintro _ M2 ⟨rfl, h2⟩
  have h3 := iw_tr (iw_sI h1 (Or.inr (Or.inr rfl))) (iw_iv h2)
  have f6 : ∀ j, me_I M2 46 0 j = me_I M1 46 0 j := fun j => (h2.2.2.1.2.1 46 0 j (by unfold kg; omega)).trans (mx_ne (by omega))
  have f7 : me_I M2 47 0 tp = 3 := (h2.2.2.1.2.1 47 0 tp (by unfold kg; omega)).trans (by simp [me_I_sI])
  have f8 : ∀ j, j ≠ tp → me_I M2 47 0 j = me_I M1 47 0 j := fun j hj => (h2.2.2.1.2.1 47 0 j (by unfold kg; omega)).trans (mx_ne (by omega))
  refine jx_eq (st2 := [.inl ((-1))]) rfl rfl rfl ?_
  refine jx_of (fun _ _ kz => jw_istore d_M_poll_80 (Nat.le_of_ble_eq_true rfl) kz) ?_
  dsimp only [List.set]
  refine jx_of (fun _ _ kz => jw_iload d_M_poll_82 rfl kz) ?_
  refine jx_if_ge 93 d_M_poll_84 (by decide) (fun h => absurd h (by decide)) (fun _ => ?_)
  refine jx_of (fun _ _ kz => jw_iincc (-1) d_M_poll_87 (by decide) rfl (Nat.le_of_ble_eq_true rfl) kz) ?_
  dsimp only [List.set]
  refine jx_of (fun _ _ kz => jw_goto 135 d_M_poll_90 (by decide) kz) ?_
  refine jx_of (fun _ _ kz => jw_goto 16 d_M_poll_135 (by decide) kz) ?_
  exact hK _ M2 _ _ _ h3 (fun j hj => ⟨f6 j, f8 j (by omega)⟩)
set_option maxRecDepth 20000 in
set_option maxHeartbeats 4000000 in
theorem pl_11 {G : Gt} {d c0 s0 t np nt : Nat} {X : List Nat} {Q : Option AV → Me → Prop} {M : Me} {p len n : Nat} {o : Nat → Nat} (hI : mI M np nt X) (ht : t < nt) (hp : tP M t p len o) (hn : n < len) (hpn : pN (o n) = 1) : nd G d c0 s0 t np nt X Q M 1 n := by
  intro tp nt1 M1 o3 o4 o5 htp h1 hat hst hK
  have hq := tP_iw hp h1 ht
  have hok := hq.2.2.2.2.1 n hn
  have hnt := hI.2.2.1.2.1
  have hle := hp.2.2.1
  refine jx_of (fun _ _ kz => jw_iload_n 2 d_M_poll_16 rfl rfl kz) ?_
  refine jx_if_lt 138 d_M_poll_17 (by decide) (fun h => absurd h (nI_pos (by omega))) (fun _ => ?_)
  refine jx_of (fun _ _ kz => jw_aload_n 0 d_M_poll_20 rfl rfl kz) ?_
  refine jx_of (fun _ _ kz => jw_getPe (some (46, 0)) fl_M_59 d_M_poll_21 rfl rfl (by simp [me_I_sI, me_I_sP, me_I_nx, me_P_sI, me_P_sP, me_P_nx, me_N_sI, me_N_sP, me_N_nx, me_L_sI, me_L_sP, me_L_nx, show me_P M1 7 0 17 = some (46, 0) from h1.2.1.1.1 (7, 0, 17, 46, 0) (by decide)]) kz) ?_
  refine jx_of (fun _ _ kz => jw_iload_n 2 d_M_poll_24 rfl rfl kz) ?_
  refine jx_of (fun _ _ kz => jw_ialde (nI n) d_M_poll_25 rfl rfl (by rw [show me_L _ 46 0 = 13 from (by simp [me_I_sI, me_I_sP, me_I_nx, me_P_sI, me_P_sP, me_P_nx, me_N_sI, me_N_sP, me_N_nx, me_L_sI, me_L_sP, me_L_nx, show me_L M1 46 0 = 13 from h1.2.1.1.2 (46, 0, 13) (by decide)])]; exact (vp_in_nI (by omega) (by decide))) (by rw [nI_clamp (by omega)]; exact hat) kz) ?_
  refine jx_of (fun _ _ kz => jw_istore_n 3 d_M_poll_26 rfl (Nat.le_of_ble_eq_true rfl) kz) ?_
  dsimp only [List.set]
  refine jx_of (fun _ _ kz => jw_bipush 12 d_M_poll_27 (by decide) kz) ?_
  refine jx_of (fun _ _ kz => jw_iload_n 1 d_M_poll_29 rfl rfl kz) ?_
  refine jx_of (fun _ _ kz => jw_imul d_M_poll_30 kz) ?_
  rw [show (12 * (nI t) : Int32) = nI (12 * t) from n12 t]
  refine jx_of (fun _ _ kz => jw_iload_n 3 d_M_poll_31 rfl rfl kz) ?_
  refine jx_of (fun _ _ kz => jw_iadd d_M_poll_32 kz) ?_
  rw [show ((nI (12 * t)) + (nI n) : Int32) = nI (12 * t + n) from nI_add _ _]
  refine jx_of (fun _ _ kz => jw_istore d_M_poll_33 (Nat.le_of_ble_eq_true rfl) kz) ?_
  dsimp only [List.set]
  refine jx_of (fun _ _ kz => jw_iconst (-1) d_M_poll_35 (by decide) kz) ?_
  refine jx_of (fun _ _ kz => jw_istore d_M_poll_36 (Nat.le_of_ble_eq_true rfl) kz) ?_
  dsimp only [List.set]
  refine jx_of (fun _ _ kz => jw_aload_n 0 d_M_poll_38 rfl rfl kz) ?_
  refine jx_of (fun _ _ kz => jw_iload_n 1 d_M_poll_39 rfl rfl kz) ?_
  refine jx_of (fun _ _ kz => jw_iload_n 3 d_M_poll_40 rfl rfl kz) ?_
  refine jx_callV (z_M_opOf (d + 6) t n p h1.2.1.1  (by omega) (by omega) hq.1 hq.2.1) mt_M_opOf cf_M rfl rfl ml_M_108 im_M_opOf se_M_opOf d_M_poll_41 rfl rfl (Nat.le_of_ble_eq_true rfl) ?_
  rintro _ _ ⟨rfl, rfl⟩
  refine jx_eq (st2 := [.inl (me_I M1 30 0 (12 * p + n))]) rfl rfl rfl ?_
  rw [show (me_I M1 30 0 (12 * p + n) : Int32) = nI (o n) from hok.2.1]
  refine jx_callS (z_M_parts (d + 5) ((o n))  hok.1) mt_M_parts ml_M_101 sm_M_parts d_M_poll_44 rfl rfl (Nat.le_of_ble_eq_true rfl) ?_
  rintro _ _ ⟨rfl, rfl⟩
  refine jx_eq (st2 := [.inl (nI (pN (o n)))]) rfl rfl rfl ?_
  rw [show (nI (pN (o n)) : Int32) = 1 from (by rw [hpn]; rfl)]
  refine jx_if_ne 61 d_M_poll_47 (by decide) (fun _ => ?_) (fun h => absurd h (by decide))
  refine jx_of (fun _ _ kz => jw_aload_n 0 d_M_poll_61 rfl rfl kz) ?_
  refine jx_of (fun _ _ kz => jw_iload_n 1 d_M_poll_62 rfl rfl kz) ?_
  refine jx_of (fun _ _ kz => jw_iload_n 3 d_M_poll_63 rfl rfl kz) ?_
  refine jx_of (fun _ _ kz => jw_iload d_M_poll_64 rfl kz) ?_
  refine jx_of (fun _ _ kz => jw_aload_n 0 d_M_poll_66 rfl rfl kz) ?_
  refine jx_of (fun _ _ kz => jw_getPe (some (47, 0)) fl_M_62 d_M_poll_67 rfl rfl (by simp [me_I_sI, me_I_sP, me_I_nx, me_P_sI, me_P_sP, me_P_nx, me_N_sI, me_N_sP, me_N_nx, me_L_sI, me_L_sP, me_L_nx, show me_P M1 7 0 18 = some (47, 0) from h1.2.1.1.1 (7, 0, 18, 47, 0) (by decide)]) kz) ?_
  refine jx_of (fun _ _ kz => jw_iload_n 2 d_M_poll_70 rfl rfl kz) ?_
  refine jx_of (fun _ _ kz => jw_dup2 d_M_poll_71 kz) ?_
  refine jx_of (fun _ _ kz => jw_ialde (1) d_M_poll_72 rfl rfl (by rw [show me_L _ 47 0 = 13 from (by simp [me_I_sI, me_I_sP, me_I_nx, me_P_sI, me_P_sP, me_P_nx, me_N_sI, me_N_sP, me_N_nx, me_L_sI, me_L_sP, me_L_nx, show me_L M1 47 0 = 13 from h1.2.1.1.2 (47, 0, 13) (by decide)])]; exact (vp_in_nI (by omega) (by decide))) (by rw [nI_clamp (by omega)]; exact hst) kz) ?_
  refine jx_of (fun _ _ kz => jw_dup_x2 d_M_poll_73 kz) ?_
  refine jx_of (fun _ _ kz => jw_iconst 1 d_M_poll_74 (by decide) kz) ?_
  refine jx_of (fun _ _ kz => jw_iadd d_M_poll_75 kz) ?_
  rw [show (1 + 1 : Int32) = 2 from by decide]
  refine jx_of (fun _ _ kz => jw_iast d_M_poll_76 rfl rfl (by rw [show me_L _ 47 0 = 13 from (by simp [me_I_sI, me_I_sP, me_I_nx, me_P_sI, me_P_sP, me_P_nx, me_N_sI, me_N_sP, me_N_nx, me_L_sI, me_L_sP, me_L_nx, show me_L M1 47 0 = 13 from h1.2.1.1.2 (47, 0, 13) (by decide)])]; exact (vp_in_nI (by omega) (by decide))) kz) ?_
  rw [nI_clamp (by omega)]
  refine jx_callV (z_M_step_11 d t n ((12 * t + n)) p len o np nt1 X (mI_any h1.2.1 (Or.inr (Or.inr (Or.inl rfl))))  (Nat.lt_of_lt_of_le ht h1.1) (tP_sI hq (by omega)) hn (by omega) hpn) mt_M_step cf_M rfl rfl ml_M_158 im_M_step se_M_step d_M_poll_77 rfl rfl (Nat.le_of_ble_eq_true rfl) ?_
  rintro _ M2 ⟨rfl, h2⟩
  have h3 := iw_tr (iw_sI h1 (Or.inr (Or.inr rfl))) (iw_iv h2)
  have f6 : ∀ j, me_I M2 46 0 j = me_I M1 46 0 j := fun j => (h2.2.2.1.2.1 46 0 j (by unfold kg; omega)).trans (mx_ne (by omega))
  have f7 : me_I M2 47 0 tp = 2 := (h2.2.2.1.2.1 47 0 tp (by unfold kg; omega)).trans (by simp [me_I_sI])
  have f8 : ∀ j, j ≠ tp → me_I M2 47 0 j = me_I M1 47 0 j := fun j hj => (h2.2.2.1.2.1 47 0 j (by unfold kg; omega)).trans (mx_ne (by omega))
  refine jx_eq (st2 := [.inl ((-1))]) rfl rfl rfl ?_
  refine jx_of (fun _ _ kz => jw_istore d_M_poll_80 (Nat.le_of_ble_eq_true rfl) kz) ?_
  dsimp only [List.set]
  refine jx_of (fun _ _ kz => jw_iload d_M_poll_82 rfl kz) ?_
  refine jx_if_ge 93 d_M_poll_84 (by decide) (fun h => absurd h (by decide)) (fun _ => ?_)
  refine jx_of (fun _ _ kz => jw_iincc (-1) d_M_poll_87 (by decide) rfl (Nat.le_of_ble_eq_true rfl) kz) ?_
  dsimp only [List.set]
  refine jx_of (fun _ _ kz => jw_goto 135 d_M_poll_90 (by decide) kz) ?_
  refine jx_of (fun _ _ kz => jw_goto 16 d_M_poll_135 (by decide) kz) ?_
  exact hK _ M2 _ _ _ h3 (fun j hj => ⟨f6 j, f8 j (by omega)⟩)
set_option maxRecDepth 20000 in
set_option maxHeartbeats 4000000 in
theorem pl_12 {G : Gt} {d c0 s0 t np nt : Nat} {X : List Nat} {Q : Option AV → Me → Prop} {M : Me} {p len n : Nat} {o : Nat → Nat} (hI : mI M np nt X) (ht : t < nt) (hp : tP M t p len o) (hn : n < len) (hpn : pN (o n) = 2) (hC : ∀ c, n < c → c < len → nd G d c0 s0 t np nt X Q M 0 c) : nd G d c0 s0 t np nt X Q M 1 n := by
  intro tp nt1 M1 o3 o4 o5 htp h1 hat hst hK
  have hq := tP_iw hp h1 ht
  have hok := hq.2.2.2.2.1 n hn
  have hnt := hI.2.2.1.2.1
  have hle := hp.2.2.1
  refine jx_of (fun _ _ kz => jw_iload_n 2 d_M_poll_16 rfl rfl kz) ?_
  refine jx_if_lt 138 d_M_poll_17 (by decide) (fun h => absurd h (nI_pos (by omega))) (fun _ => ?_)
  refine jx_of (fun _ _ kz => jw_aload_n 0 d_M_poll_20 rfl rfl kz) ?_
  refine jx_of (fun _ _ kz => jw_getPe (some (46, 0)) fl_M_59 d_M_poll_21 rfl rfl (by simp [me_I_sI, me_I_sP, me_I_nx, me_P_sI, me_P_sP, me_P_nx, me_N_sI, me_N_sP, me_N_nx, me_L_sI, me_L_sP, me_L_nx, show me_P M1 7 0 17 = some (46, 0) from h1.2.1.1.1 (7, 0, 17, 46, 0) (by decide)]) kz) ?_
  refine jx_of (fun _ _ kz => jw_iload_n 2 d_M_poll_24 rfl rfl kz) ?_
  refine jx_of (fun _ _ kz => jw_ialde (nI n) d_M_poll_25 rfl rfl (by rw [show me_L _ 46 0 = 13 from (by simp [me_I_sI, me_I_sP, me_I_nx, me_P_sI, me_P_sP, me_P_nx, me_N_sI, me_N_sP, me_N_nx, me_L_sI, me_L_sP, me_L_nx, show me_L M1 46 0 = 13 from h1.2.1.1.2 (46, 0, 13) (by decide)])]; exact (vp_in_nI (by omega) (by decide))) (by rw [nI_clamp (by omega)]; exact hat) kz) ?_
  refine jx_of (fun _ _ kz => jw_istore_n 3 d_M_poll_26 rfl (Nat.le_of_ble_eq_true rfl) kz) ?_
  dsimp only [List.set]
  refine jx_of (fun _ _ kz => jw_bipush 12 d_M_poll_27 (by decide) kz) ?_
  refine jx_of (fun _ _ kz => jw_iload_n 1 d_M_poll_29 rfl rfl kz) ?_
  refine jx_of (fun _ _ kz => jw_imul d_M_poll_30 kz) ?_
  rw [show (12 * (nI t) : Int32) = nI (12 * t) from n12 t]
  refine jx_of (fun _ _ kz => jw_iload_n 3 d_M_poll_31 rfl rfl kz) ?_
  refine jx_of (fun _ _ kz => jw_iadd d_M_poll_32 kz) ?_
  rw [show ((nI (12 * t)) + (nI n) : Int32) = nI (12 * t + n) from nI_add _ _]
  refine jx_of (fun _ _ kz => jw_istore d_M_poll_33 (Nat.le_of_ble_eq_true rfl) kz) ?_
  dsimp only [List.set]
  refine jx_of (fun _ _ kz => jw_iconst (-1) d_M_poll_35 (by decide) kz) ?_
  refine jx_of (fun _ _ kz => jw_istore d_M_poll_36 (Nat.le_of_ble_eq_true rfl) kz) ?_
  dsimp only [List.set]
  refine jx_of (fun _ _ kz => jw_aload_n 0 d_M_poll_38 rfl rfl kz) ?_
  refine jx_of (fun _ _ kz => jw_iload_n 1 d_M_poll_39 rfl rfl kz) ?_
  refine jx_of (fun _ _ kz => jw_iload_n 3 d_M_poll_40 rfl rfl kz) ?_
  refine jx_callV (z_M_opOf (d + 6) t n p h1.2.1.1  (by omega) (by omega) hq.1 hq.2.1) mt_M_opOf cf_M rfl rfl ml_M_108 im_M_opOf se_M_opOf d_M_poll_41 rfl rfl (Nat.le_of_ble_eq_true rfl) ?_
  rintro _ _ ⟨rfl, rfl⟩
  refine jx_eq (st2 := [.inl (me_I M1 30 0 (12 * p + n))]) rfl rfl rfl ?_
  rw [show (me_I M1 30 0 (12 * p + n) : Int32) = nI (o n) from hok.2.1]
  refine jx_callS (z_M_parts (d + 5) ((o n))  hok.1) mt_M_parts ml_M_101 sm_M_parts d_M_poll_44 rfl rfl (Nat.le_of_ble_eq_true rfl) ?_
  rintro _ _ ⟨rfl, rfl⟩
  refine jx_eq (st2 := [.inl (nI (pN (o n)))]) rfl rfl rfl ?_
  rw [show (nI (pN (o n)) : Int32) = 2 from (by rw [hpn]; rfl)]
  refine jx_if_ne 61 d_M_poll_47 (by decide) (fun _ => ?_) (fun h => absurd h (by decide))
  refine jx_of (fun _ _ kz => jw_aload_n 0 d_M_poll_61 rfl rfl kz) ?_
  refine jx_of (fun _ _ kz => jw_iload_n 1 d_M_poll_62 rfl rfl kz) ?_
  refine jx_of (fun _ _ kz => jw_iload_n 3 d_M_poll_63 rfl rfl kz) ?_
  refine jx_of (fun _ _ kz => jw_iload d_M_poll_64 rfl kz) ?_
  refine jx_of (fun _ _ kz => jw_aload_n 0 d_M_poll_66 rfl rfl kz) ?_
  refine jx_of (fun _ _ kz => jw_getPe (some (47, 0)) fl_M_62 d_M_poll_67 rfl rfl (by simp [me_I_sI, me_I_sP, me_I_nx, me_P_sI, me_P_sP, me_P_nx, me_N_sI, me_N_sP, me_N_nx, me_L_sI, me_L_sP, me_L_nx, show me_P M1 7 0 18 = some (47, 0) from h1.2.1.1.1 (7, 0, 18, 47, 0) (by decide)]) kz) ?_
  refine jx_of (fun _ _ kz => jw_iload_n 2 d_M_poll_70 rfl rfl kz) ?_
  refine jx_of (fun _ _ kz => jw_dup2 d_M_poll_71 kz) ?_
  refine jx_of (fun _ _ kz => jw_ialde (1) d_M_poll_72 rfl rfl (by rw [show me_L _ 47 0 = 13 from (by simp [me_I_sI, me_I_sP, me_I_nx, me_P_sI, me_P_sP, me_P_nx, me_N_sI, me_N_sP, me_N_nx, me_L_sI, me_L_sP, me_L_nx, show me_L M1 47 0 = 13 from h1.2.1.1.2 (47, 0, 13) (by decide)])]; exact (vp_in_nI (by omega) (by decide))) (by rw [nI_clamp (by omega)]; exact hst) kz) ?_
  refine jx_of (fun _ _ kz => jw_dup_x2 d_M_poll_73 kz) ?_
  refine jx_of (fun _ _ kz => jw_iconst 1 d_M_poll_74 (by decide) kz) ?_
  refine jx_of (fun _ _ kz => jw_iadd d_M_poll_75 kz) ?_
  rw [show (1 + 1 : Int32) = 2 from by decide]
  refine jx_of (fun _ _ kz => jw_iast d_M_poll_76 rfl rfl (by rw [show me_L _ 47 0 = 13 from (by simp [me_I_sI, me_I_sP, me_I_nx, me_P_sI, me_P_sP, me_P_nx, me_N_sI, me_N_sP, me_N_nx, me_L_sI, me_L_sP, me_L_nx, show me_L M1 47 0 = 13 from h1.2.1.1.2 (47, 0, 13) (by decide)])]; exact (vp_in_nI (by omega) (by decide))) kz) ?_
  rw [nI_clamp (by omega)]
  refine jx_callV (z_M_step_12 d t n ((12 * t + n)) p len o np nt1 X (mI_any h1.2.1 (Or.inr (Or.inr (Or.inl rfl))))  (Nat.lt_of_lt_of_le ht h1.1) (tP_sI hq (by omega)) hn (by omega) hpn) mt_M_step cf_M rfl rfl ml_M_158 im_M_step se_M_step d_M_poll_77 rfl rfl (Nat.le_of_ble_eq_true rfl) ?_
  rintro r M2 ⟨hr, h2⟩
  obtain ⟨rv, rfl, hrv⟩ : ∃ rv : Int32, r = some (.inl rv) ∧ (rv = -1 ∨ ∃ c, n < c ∧ c < len ∧ rv = nI c) := by rcases hr with hr | ⟨c, a, b, hr⟩; exact ⟨_, hr, Or.inl rfl⟩; exact ⟨_, hr, Or.inr ⟨c, a, b, rfl⟩⟩
  have h3 := iw_tr (iw_sI h1 (Or.inr (Or.inr rfl))) (iw_iv h2)
  have f6 : ∀ j, me_I M2 46 0 j = me_I M1 46 0 j := fun j => (h2.2.2.1.2.1 46 0 j (by unfold kg; omega)).trans (mx_ne (by omega))
  have f7 : me_I M2 47 0 tp = 2 := (h2.2.2.1.2.1 47 0 tp (by unfold kg; omega)).trans (by simp [me_I_sI])
  have f8 : ∀ j, j ≠ tp → me_I M2 47 0 j = me_I M1 47 0 j := fun j hj => (h2.2.2.1.2.1 47 0 j (by unfold kg; omega)).trans (mx_ne (by omega))
  refine jx_eq (st2 := [.inl rv]) rfl rfl rfl ?_
  refine jx_of (fun _ _ kz => jw_istore d_M_poll_80 (Nat.le_of_ble_eq_true rfl) kz) ?_
  dsimp only [List.set]
  refine jx_of (fun _ _ kz => jw_iload d_M_poll_82 rfl kz) ?_
  refine jx_if_ge 93 d_M_poll_84 (by decide) (fun b_84 => ?_) (fun b_84 => ?_)
  · skip
    obtain ⟨c, hc1, hc2, rfl⟩ := hrv.resolve_left (fun q => absurd b_84 (by rw [q]; decide))
    refine jx_of (fun _ _ kz => jw_aload_n 0 d_M_poll_93 rfl rfl kz) ?_
    refine jx_of (fun _ _ kz => jw_getPe (some (40, 0)) fl_M_41 d_M_poll_94 rfl rfl (by simp [me_I_sI, me_I_sP, me_I_nx, me_P_sI, me_P_sP, me_P_nx, me_N_sI, me_N_sP, me_N_nx, me_L_sI, me_L_sP, me_L_nx, show me_P M2 7 0 11 = some (40, 0) from h2.2.1.1.1 (7, 0, 11, 40, 0) (by decide)]) kz) ?_
    refine jx_of (fun _ _ kz => jw_bipush 12 d_M_poll_97 (by decide) kz) ?_
    refine jx_of (fun _ _ kz => jw_iload_n 1 d_M_poll_99 rfl rfl kz) ?_
    refine jx_of (fun _ _ kz => jw_imul d_M_poll_100 kz) ?_
    rw [show (12 * (nI t) : Int32) = nI (12 * t) from n12 t]
    refine jx_of (fun _ _ kz => jw_iload d_M_poll_101 rfl kz) ?_
    refine jx_of (fun _ _ kz => jw_iadd d_M_poll_103 kz) ?_
    rw [show ((nI (12 * t)) + (nI c) : Int32) = nI (12 * t + c) from nI_add _ _]
    refine jx_of (fun _ _ kz => jw_ialde (_) d_M_poll_104 rfl rfl (by rw [show me_L _ 40 0 = 144 from (by simp [me_I_sI, me_I_sP, me_I_nx, me_P_sI, me_P_sP, me_P_nx, me_N_sI, me_N_sP, me_N_nx, me_L_sI, me_L_sP, me_L_nx, show me_L M2 40 0 = 144 from h2.2.1.1.2 (40, 0, 144) (by decide)])]; exact (vp_in_nI (by omega) (by decide))) rfl kz) ?_
    refine jx_of (fun _ _ kz => jw_iconst 2 d_M_poll_105 (by decide) kz) ?_
    refine jx_icmp_ne 117 d_M_poll_106 (by decide) (fun b_106 => ?_) (fun b_106 => ?_)
    · skip
      refine jx_of (fun _ _ kz => jw_iincc 1 d_M_poll_117 (by decide) rfl (Nat.le_of_ble_eq_true rfl) kz) ?_
      dsimp only [List.set]
      rw [nI_1]
      refine jx_of (fun _ _ kz => jw_aload_n 0 d_M_poll_120 rfl rfl kz) ?_
      refine jx_of (fun _ _ kz => jw_getPe (some (46, 0)) fl_M_59 d_M_poll_121 rfl rfl (by simp [me_I_sI, me_I_sP, me_I_nx, me_P_sI, me_P_sP, me_P_nx, me_N_sI, me_N_sP, me_N_nx, me_L_sI, me_L_sP, me_L_nx, show me_P M2 7 0 17 = some (46, 0) from h2.2.1.1.1 (7, 0, 17, 46, 0) (by decide)]) kz) ?_
      refine jx_of (fun _ _ kz => jw_iload_n 2 d_M_poll_124 rfl rfl kz) ?_
      refine jx_of (fun _ _ kz => jw_iload d_M_poll_125 rfl kz) ?_
      refine jx_of (fun _ _ kz => jw_iast d_M_poll_127 rfl rfl (by rw [show me_L _ 46 0 = 13 from (by simp [me_I_sI, me_I_sP, me_I_nx, me_P_sI, me_P_sP, me_P_nx, me_N_sI, me_N_sP, me_N_nx, me_L_sI, me_L_sP, me_L_nx, show me_L M2 46 0 = 13 from h2.2.1.1.2 (46, 0, 13) (by decide)])]; exact (vp_in_nI (by omega) (by decide))) kz) ?_
      rw [nI_clamp (by omega)]
      refine jx_of (fun _ _ kz => jw_aload_n 0 d_M_poll_128 rfl rfl kz) ?_
      refine jx_of (fun _ _ kz => jw_getPe (some (47, 0)) fl_M_62 d_M_poll_129 rfl rfl (by simp [me_I_sI, me_I_sP, me_I_nx, me_P_sI, me_P_sP, me_P_nx, me_N_sI, me_N_sP, me_N_nx, me_L_sI, me_L_sP, me_L_nx, show me_P M2 7 0 18 = some (47, 0) from h2.2.1.1.1 (7, 0, 18, 47, 0) (by decide)]) kz) ?_
      refine jx_of (fun _ _ kz => jw_iload_n 2 d_M_poll_132 rfl rfl kz) ?_
      refine jx_of (fun _ _ kz => jw_iconst 0 d_M_poll_133 (by decide) kz) ?_
      refine jx_of (fun _ _ kz => jw_iast d_M_poll_134 rfl rfl (by rw [show me_L _ 47 0 = 13 from (by simp [me_I_sI, me_I_sP, me_I_nx, me_P_sI, me_P_sP, me_P_nx, me_N_sI, me_N_sP, me_N_nx, me_L_sI, me_L_sP, me_L_nx, show me_L M2 47 0 = 13 from h2.2.1.1.2 (47, 0, 13) (by decide)])]; exact (vp_in_nI (by omega) (by decide))) kz) ?_
      rw [nI_clamp (by omega)]
      refine jx_of (fun _ _ kz => jw_goto 16 d_M_poll_135 (by decide) kz) ?_
      first | exact hK _ M2 _ _ _ h3 (fun j hj => ⟨f6 j, f8 j (by omega)⟩) | exact pl_ready (pl_22 hI ht hp hn hpn) htp h3 hat f6 f7 f8 hK | exact pl_push (hC c hc1 hc2) hc1 (pl_22 hI ht hp hn hpn) htp h3 hat f6 f7 f8 hK
    · skip
      refine jx_of (fun _ _ kz => jw_aload_n 0 d_M_poll_109 rfl rfl kz) ?_
      refine jx_of (fun _ _ kz => jw_iconst 2 d_M_poll_110 (by decide) kz) ?_
      refine jx_of (fun _ _ kz => jw_putI fl_M_151 (Or.inl rfl) rfl rfl d_M_poll_111 rfl rfl kz) ?_
      refine jx_of (fun _ _ kz => jw_goto 135 d_M_poll_114 (by decide) kz) ?_
      refine jx_of (fun _ _ kz => jw_goto 16 d_M_poll_135 (by decide) kz) ?_
      first | exact hK _ M2 _ _ _ h3 (fun j hj => ⟨f6 j, f8 j (by omega)⟩) | exact pl_ready (pl_22 hI ht hp hn hpn) htp h3 hat f6 f7 f8 hK | exact pl_push (hC c hc1 hc2) hc1 (pl_22 hI ht hp hn hpn) htp h3 hat f6 f7 f8 hK
  · skip
    refine jx_of (fun _ _ kz => jw_iincc (-1) d_M_poll_87 (by decide) rfl (Nat.le_of_ble_eq_true rfl) kz) ?_
    dsimp only [List.set]
    refine jx_of (fun _ _ kz => jw_goto 135 d_M_poll_90 (by decide) kz) ?_
    refine jx_of (fun _ _ kz => jw_goto 16 d_M_poll_135 (by decide) kz) ?_
    first | exact hK _ M2 _ _ _ h3 (fun j hj => ⟨f6 j, f8 j (by omega)⟩) | exact pl_ready (pl_22 hI ht hp hn hpn) htp h3 hat f6 f7 f8 hK | exact pl_push (hC c hc1 hc2) hc1 (pl_22 hI ht hp hn hpn) htp h3 hat f6 f7 f8 hK
set_option maxRecDepth 20000 in
set_option maxHeartbeats 4000000 in
theorem pl_01 {G : Gt} {d c0 s0 t np nt : Nat} {X : List Nat} {Q : Option AV → Me → Prop} {M : Me} {p len n : Nat} {o : Nat → Nat} (hI : mI M np nt X) (ht : t < nt) (hp : tP M t p len o) (hn : n < len) (hpn : pN (o n) = 1) (hC : ∀ c, n < c → c < len → nd G d c0 s0 t np nt X Q M 0 c) : nd G d c0 s0 t np nt X Q M 0 n := by
  intro tp nt1 M1 o3 o4 o5 htp h1 hat hst hK
  have hq := tP_iw hp h1 ht
  have hok := hq.2.2.2.2.1 n hn
  have hnt := hI.2.2.1.2.1
  have hle := hp.2.2.1
  have hc1 := ch1 hp.2.2 hn (by omega)
  refine jx_of (fun _ _ kz => jw_iload_n 2 d_M_poll_16 rfl rfl kz) ?_
  refine jx_if_lt 138 d_M_poll_17 (by decide) (fun h => absurd h (nI_pos (by omega))) (fun _ => ?_)
  refine jx_of (fun _ _ kz => jw_aload_n 0 d_M_poll_20 rfl rfl kz) ?_
  refine jx_of (fun _ _ kz => jw_getPe (some (46, 0)) fl_M_59 d_M_poll_21 rfl rfl (by simp [me_I_sI, me_I_sP, me_I_nx, me_P_sI, me_P_sP, me_P_nx, me_N_sI, me_N_sP, me_N_nx, me_L_sI, me_L_sP, me_L_nx, show me_P M1 7 0 17 = some (46, 0) from h1.2.1.1.1 (7, 0, 17, 46, 0) (by decide)]) kz) ?_
  refine jx_of (fun _ _ kz => jw_iload_n 2 d_M_poll_24 rfl rfl kz) ?_
  refine jx_of (fun _ _ kz => jw_ialde (nI n) d_M_poll_25 rfl rfl (by rw [show me_L _ 46 0 = 13 from (by simp [me_I_sI, me_I_sP, me_I_nx, me_P_sI, me_P_sP, me_P_nx, me_N_sI, me_N_sP, me_N_nx, me_L_sI, me_L_sP, me_L_nx, show me_L M1 46 0 = 13 from h1.2.1.1.2 (46, 0, 13) (by decide)])]; exact (vp_in_nI (by omega) (by decide))) (by rw [nI_clamp (by omega)]; exact hat) kz) ?_
  refine jx_of (fun _ _ kz => jw_istore_n 3 d_M_poll_26 rfl (Nat.le_of_ble_eq_true rfl) kz) ?_
  dsimp only [List.set]
  refine jx_of (fun _ _ kz => jw_bipush 12 d_M_poll_27 (by decide) kz) ?_
  refine jx_of (fun _ _ kz => jw_iload_n 1 d_M_poll_29 rfl rfl kz) ?_
  refine jx_of (fun _ _ kz => jw_imul d_M_poll_30 kz) ?_
  rw [show (12 * (nI t) : Int32) = nI (12 * t) from n12 t]
  refine jx_of (fun _ _ kz => jw_iload_n 3 d_M_poll_31 rfl rfl kz) ?_
  refine jx_of (fun _ _ kz => jw_iadd d_M_poll_32 kz) ?_
  rw [show ((nI (12 * t)) + (nI n) : Int32) = nI (12 * t + n) from nI_add _ _]
  refine jx_of (fun _ _ kz => jw_istore d_M_poll_33 (Nat.le_of_ble_eq_true rfl) kz) ?_
  dsimp only [List.set]
  refine jx_of (fun _ _ kz => jw_iconst (-1) d_M_poll_35 (by decide) kz) ?_
  refine jx_of (fun _ _ kz => jw_istore d_M_poll_36 (Nat.le_of_ble_eq_true rfl) kz) ?_
  dsimp only [List.set]
  refine jx_of (fun _ _ kz => jw_aload_n 0 d_M_poll_38 rfl rfl kz) ?_
  refine jx_of (fun _ _ kz => jw_iload_n 1 d_M_poll_39 rfl rfl kz) ?_
  refine jx_of (fun _ _ kz => jw_iload_n 3 d_M_poll_40 rfl rfl kz) ?_
  refine jx_callV (z_M_opOf (d + 6) t n p h1.2.1.1  (by omega) (by omega) hq.1 hq.2.1) mt_M_opOf cf_M rfl rfl ml_M_108 im_M_opOf se_M_opOf d_M_poll_41 rfl rfl (Nat.le_of_ble_eq_true rfl) ?_
  rintro _ _ ⟨rfl, rfl⟩
  refine jx_eq (st2 := [.inl (me_I M1 30 0 (12 * p + n))]) rfl rfl rfl ?_
  rw [show (me_I M1 30 0 (12 * p + n) : Int32) = nI (o n) from hok.2.1]
  refine jx_callS (z_M_parts (d + 5) ((o n))  hok.1) mt_M_parts ml_M_101 sm_M_parts d_M_poll_44 rfl rfl (Nat.le_of_ble_eq_true rfl) ?_
  rintro _ _ ⟨rfl, rfl⟩
  refine jx_eq (st2 := [.inl (nI (pN (o n)))]) rfl rfl rfl ?_
  rw [show (nI (pN (o n)) : Int32) = 1 from (by rw [hpn]; rfl)]
  refine jx_if_ne 61 d_M_poll_47 (by decide) (fun _ => ?_) (fun h => absurd h (by decide))
  refine jx_of (fun _ _ kz => jw_aload_n 0 d_M_poll_61 rfl rfl kz) ?_
  refine jx_of (fun _ _ kz => jw_iload_n 1 d_M_poll_62 rfl rfl kz) ?_
  refine jx_of (fun _ _ kz => jw_iload_n 3 d_M_poll_63 rfl rfl kz) ?_
  refine jx_of (fun _ _ kz => jw_iload d_M_poll_64 rfl kz) ?_
  refine jx_of (fun _ _ kz => jw_aload_n 0 d_M_poll_66 rfl rfl kz) ?_
  refine jx_of (fun _ _ kz => jw_getPe (some (47, 0)) fl_M_62 d_M_poll_67 rfl rfl (by simp [me_I_sI, me_I_sP, me_I_nx, me_P_sI, me_P_sP, me_P_nx, me_N_sI, me_N_sP, me_N_nx, me_L_sI, me_L_sP, me_L_nx, show me_P M1 7 0 18 = some (47, 0) from h1.2.1.1.1 (7, 0, 18, 47, 0) (by decide)]) kz) ?_
  refine jx_of (fun _ _ kz => jw_iload_n 2 d_M_poll_70 rfl rfl kz) ?_
  refine jx_of (fun _ _ kz => jw_dup2 d_M_poll_71 kz) ?_
  refine jx_of (fun _ _ kz => jw_ialde (0) d_M_poll_72 rfl rfl (by rw [show me_L _ 47 0 = 13 from (by simp [me_I_sI, me_I_sP, me_I_nx, me_P_sI, me_P_sP, me_P_nx, me_N_sI, me_N_sP, me_N_nx, me_L_sI, me_L_sP, me_L_nx, show me_L M1 47 0 = 13 from h1.2.1.1.2 (47, 0, 13) (by decide)])]; exact (vp_in_nI (by omega) (by decide))) (by rw [nI_clamp (by omega)]; exact hst) kz) ?_
  refine jx_of (fun _ _ kz => jw_dup_x2 d_M_poll_73 kz) ?_
  refine jx_of (fun _ _ kz => jw_iconst 1 d_M_poll_74 (by decide) kz) ?_
  refine jx_of (fun _ _ kz => jw_iadd d_M_poll_75 kz) ?_
  rw [show (0 + 1 : Int32) = 1 from by decide]
  refine jx_of (fun _ _ kz => jw_iast d_M_poll_76 rfl rfl (by rw [show me_L _ 47 0 = 13 from (by simp [me_I_sI, me_I_sP, me_I_nx, me_P_sI, me_P_sP, me_P_nx, me_N_sI, me_N_sP, me_N_nx, me_L_sI, me_L_sP, me_L_nx, show me_L M1 47 0 = 13 from h1.2.1.1.2 (47, 0, 13) (by decide)])]; exact (vp_in_nI (by omega) (by decide))) kz) ?_
  rw [nI_clamp (by omega)]
  refine jx_callV (z_M_step_01 d t n ((12 * t + n)) p len o np nt1 X (mI_any h1.2.1 (Or.inr (Or.inr (Or.inl rfl))))  (Nat.lt_of_lt_of_le ht h1.1) (tP_sI hq (by omega)) hn (by omega) hpn) mt_M_step cf_M rfl rfl ml_M_158 im_M_step se_M_step d_M_poll_77 rfl rfl (Nat.le_of_ble_eq_true rfl) ?_
  rintro _ M2 ⟨rfl, h2⟩
  have h3 := iw_tr (iw_sI h1 (Or.inr (Or.inr rfl))) (iw_iv h2)
  have f6 : ∀ j, me_I M2 46 0 j = me_I M1 46 0 j := fun j => (h2.2.2.1.2.1 46 0 j (by unfold kg; omega)).trans (mx_ne (by omega))
  have f7 : me_I M2 47 0 tp = 1 := (h2.2.2.1.2.1 47 0 tp (by unfold kg; omega)).trans (by simp [me_I_sI])
  have f8 : ∀ j, j ≠ tp → me_I M2 47 0 j = me_I M1 47 0 j := fun j hj => (h2.2.2.1.2.1 47 0 j (by unfold kg; omega)).trans (mx_ne (by omega))
  refine jx_eq (st2 := [.inl (nI (n + 1))]) rfl rfl rfl ?_
  refine jx_of (fun _ _ kz => jw_istore d_M_poll_80 (Nat.le_of_ble_eq_true rfl) kz) ?_
  dsimp only [List.set]
  refine jx_of (fun _ _ kz => jw_iload d_M_poll_82 rfl kz) ?_
  refine jx_if_ge 93 d_M_poll_84 (by decide) (fun _ => ?_) (fun h => absurd (nI_pos' (by omega)) h)
  refine jx_of (fun _ _ kz => jw_aload_n 0 d_M_poll_93 rfl rfl kz) ?_
  refine jx_of (fun _ _ kz => jw_getPe (some (40, 0)) fl_M_41 d_M_poll_94 rfl rfl (by simp [me_I_sI, me_I_sP, me_I_nx, me_P_sI, me_P_sP, me_P_nx, me_N_sI, me_N_sP, me_N_nx, me_L_sI, me_L_sP, me_L_nx, show me_P M2 7 0 11 = some (40, 0) from h2.2.1.1.1 (7, 0, 11, 40, 0) (by decide)]) kz) ?_
  refine jx_of (fun _ _ kz => jw_bipush 12 d_M_poll_97 (by decide) kz) ?_
  refine jx_of (fun _ _ kz => jw_iload_n 1 d_M_poll_99 rfl rfl kz) ?_
  refine jx_of (fun _ _ kz => jw_imul d_M_poll_100 kz) ?_
  rw [show (12 * (nI t) : Int32) = nI (12 * t) from n12 t]
  refine jx_of (fun _ _ kz => jw_iload d_M_poll_101 rfl kz) ?_
  refine jx_of (fun _ _ kz => jw_iadd d_M_poll_103 kz) ?_
  rw [show ((nI (12 * t)) + (nI (n + 1)) : Int32) = nI (12 * t + (n + 1)) from nI_add _ _]
  refine jx_of (fun _ _ kz => jw_ialde (_) d_M_poll_104 rfl rfl (by rw [show me_L _ 40 0 = 144 from (by simp [me_I_sI, me_I_sP, me_I_nx, me_P_sI, me_P_sP, me_P_nx, me_N_sI, me_N_sP, me_N_nx, me_L_sI, me_L_sP, me_L_nx, show me_L M2 40 0 = 144 from h2.2.1.1.2 (40, 0, 144) (by decide)])]; exact (vp_in_nI (by omega) (by decide))) rfl kz) ?_
  refine jx_of (fun _ _ kz => jw_iconst 2 d_M_poll_105 (by decide) kz) ?_
  refine jx_icmp_ne 117 d_M_poll_106 (by decide) (fun b_106 => ?_) (fun b_106 => ?_)
  · skip
    refine jx_of (fun _ _ kz => jw_iincc 1 d_M_poll_117 (by decide) rfl (Nat.le_of_ble_eq_true rfl) kz) ?_
    dsimp only [List.set]
    rw [nI_1]
    refine jx_of (fun _ _ kz => jw_aload_n 0 d_M_poll_120 rfl rfl kz) ?_
    refine jx_of (fun _ _ kz => jw_getPe (some (46, 0)) fl_M_59 d_M_poll_121 rfl rfl (by simp [me_I_sI, me_I_sP, me_I_nx, me_P_sI, me_P_sP, me_P_nx, me_N_sI, me_N_sP, me_N_nx, me_L_sI, me_L_sP, me_L_nx, show me_P M2 7 0 17 = some (46, 0) from h2.2.1.1.1 (7, 0, 17, 46, 0) (by decide)]) kz) ?_
    refine jx_of (fun _ _ kz => jw_iload_n 2 d_M_poll_124 rfl rfl kz) ?_
    refine jx_of (fun _ _ kz => jw_iload d_M_poll_125 rfl kz) ?_
    refine jx_of (fun _ _ kz => jw_iast d_M_poll_127 rfl rfl (by rw [show me_L _ 46 0 = 13 from (by simp [me_I_sI, me_I_sP, me_I_nx, me_P_sI, me_P_sP, me_P_nx, me_N_sI, me_N_sP, me_N_nx, me_L_sI, me_L_sP, me_L_nx, show me_L M2 46 0 = 13 from h2.2.1.1.2 (46, 0, 13) (by decide)])]; exact (vp_in_nI (by omega) (by decide))) kz) ?_
    rw [nI_clamp (by omega)]
    refine jx_of (fun _ _ kz => jw_aload_n 0 d_M_poll_128 rfl rfl kz) ?_
    refine jx_of (fun _ _ kz => jw_getPe (some (47, 0)) fl_M_62 d_M_poll_129 rfl rfl (by simp [me_I_sI, me_I_sP, me_I_nx, me_P_sI, me_P_sP, me_P_nx, me_N_sI, me_N_sP, me_N_nx, me_L_sI, me_L_sP, me_L_nx, show me_P M2 7 0 18 = some (47, 0) from h2.2.1.1.1 (7, 0, 18, 47, 0) (by decide)]) kz) ?_
    refine jx_of (fun _ _ kz => jw_iload_n 2 d_M_poll_132 rfl rfl kz) ?_
    refine jx_of (fun _ _ kz => jw_iconst 0 d_M_poll_133 (by decide) kz) ?_
    refine jx_of (fun _ _ kz => jw_iast d_M_poll_134 rfl rfl (by rw [show me_L _ 47 0 = 13 from (by simp [me_I_sI, me_I_sP, me_I_nx, me_P_sI, me_P_sP, me_P_nx, me_N_sI, me_N_sP, me_N_nx, me_L_sI, me_L_sP, me_L_nx, show me_L M2 47 0 = 13 from h2.2.1.1.2 (47, 0, 13) (by decide)])]; exact (vp_in_nI (by omega) (by decide))) kz) ?_
    rw [nI_clamp (by omega)]
    refine jx_of (fun _ _ kz => jw_goto 16 d_M_poll_135 (by decide) kz) ?_
    first | exact pl_ready (pl_11 hI ht hp hn hpn) htp h3 hat f6 f7 f8 hK | exact pl_push (hC (n + 1) (by omega) hc1) (by omega) (pl_11 hI ht hp hn hpn) htp h3 hat f6 f7 f8 hK
  · skip
    refine jx_of (fun _ _ kz => jw_aload_n 0 d_M_poll_109 rfl rfl kz) ?_
    refine jx_of (fun _ _ kz => jw_iconst 2 d_M_poll_110 (by decide) kz) ?_
    refine jx_of (fun _ _ kz => jw_putI fl_M_151 (Or.inl rfl) rfl rfl d_M_poll_111 rfl rfl kz) ?_
    refine jx_of (fun _ _ kz => jw_goto 135 d_M_poll_114 (by decide) kz) ?_
    refine jx_of (fun _ _ kz => jw_goto 16 d_M_poll_135 (by decide) kz) ?_
    first | exact pl_ready (pl_11 hI ht hp hn hpn) htp h3 hat f6 f7 f8 hK | exact pl_push (hC (n + 1) (by omega) hc1) (by omega) (pl_11 hI ht hp hn hpn) htp h3 hat f6 f7 f8 hK
set_option maxRecDepth 20000 in
set_option maxHeartbeats 4000000 in
theorem pl_02 {G : Gt} {d c0 s0 t np nt : Nat} {X : List Nat} {Q : Option AV → Me → Prop} {M : Me} {p len n : Nat} {o : Nat → Nat} (hI : mI M np nt X) (ht : t < nt) (hp : tP M t p len o) (hn : n < len) (hpn : pN (o n) = 2) (hC : ∀ c, n < c → c < len → nd G d c0 s0 t np nt X Q M 0 c) : nd G d c0 s0 t np nt X Q M 0 n := by
  intro tp nt1 M1 o3 o4 o5 htp h1 hat hst hK
  have hq := tP_iw hp h1 ht
  have hok := hq.2.2.2.2.1 n hn
  have hnt := hI.2.2.1.2.1
  have hle := hp.2.2.1
  have hc1 := ch1 hp.2.2 hn (by omega)
  refine jx_of (fun _ _ kz => jw_iload_n 2 d_M_poll_16 rfl rfl kz) ?_
  refine jx_if_lt 138 d_M_poll_17 (by decide) (fun h => absurd h (nI_pos (by omega))) (fun _ => ?_)
  refine jx_of (fun _ _ kz => jw_aload_n 0 d_M_poll_20 rfl rfl kz) ?_
  refine jx_of (fun _ _ kz => jw_getPe (some (46, 0)) fl_M_59 d_M_poll_21 rfl rfl (by simp [me_I_sI, me_I_sP, me_I_nx, me_P_sI, me_P_sP, me_P_nx, me_N_sI, me_N_sP, me_N_nx, me_L_sI, me_L_sP, me_L_nx, show me_P M1 7 0 17 = some (46, 0) from h1.2.1.1.1 (7, 0, 17, 46, 0) (by decide)]) kz) ?_
  refine jx_of (fun _ _ kz => jw_iload_n 2 d_M_poll_24 rfl rfl kz) ?_
  refine jx_of (fun _ _ kz => jw_ialde (nI n) d_M_poll_25 rfl rfl (by rw [show me_L _ 46 0 = 13 from (by simp [me_I_sI, me_I_sP, me_I_nx, me_P_sI, me_P_sP, me_P_nx, me_N_sI, me_N_sP, me_N_nx, me_L_sI, me_L_sP, me_L_nx, show me_L M1 46 0 = 13 from h1.2.1.1.2 (46, 0, 13) (by decide)])]; exact (vp_in_nI (by omega) (by decide))) (by rw [nI_clamp (by omega)]; exact hat) kz) ?_
  refine jx_of (fun _ _ kz => jw_istore_n 3 d_M_poll_26 rfl (Nat.le_of_ble_eq_true rfl) kz) ?_
  dsimp only [List.set]
  refine jx_of (fun _ _ kz => jw_bipush 12 d_M_poll_27 (by decide) kz) ?_
  refine jx_of (fun _ _ kz => jw_iload_n 1 d_M_poll_29 rfl rfl kz) ?_
  refine jx_of (fun _ _ kz => jw_imul d_M_poll_30 kz) ?_
  rw [show (12 * (nI t) : Int32) = nI (12 * t) from n12 t]
  refine jx_of (fun _ _ kz => jw_iload_n 3 d_M_poll_31 rfl rfl kz) ?_
  refine jx_of (fun _ _ kz => jw_iadd d_M_poll_32 kz) ?_
  rw [show ((nI (12 * t)) + (nI n) : Int32) = nI (12 * t + n) from nI_add _ _]
  refine jx_of (fun _ _ kz => jw_istore d_M_poll_33 (Nat.le_of_ble_eq_true rfl) kz) ?_
  dsimp only [List.set]
  refine jx_of (fun _ _ kz => jw_iconst (-1) d_M_poll_35 (by decide) kz) ?_
  refine jx_of (fun _ _ kz => jw_istore d_M_poll_36 (Nat.le_of_ble_eq_true rfl) kz) ?_
  dsimp only [List.set]
  refine jx_of (fun _ _ kz => jw_aload_n 0 d_M_poll_38 rfl rfl kz) ?_
  refine jx_of (fun _ _ kz => jw_iload_n 1 d_M_poll_39 rfl rfl kz) ?_
  refine jx_of (fun _ _ kz => jw_iload_n 3 d_M_poll_40 rfl rfl kz) ?_
  refine jx_callV (z_M_opOf (d + 6) t n p h1.2.1.1  (by omega) (by omega) hq.1 hq.2.1) mt_M_opOf cf_M rfl rfl ml_M_108 im_M_opOf se_M_opOf d_M_poll_41 rfl rfl (Nat.le_of_ble_eq_true rfl) ?_
  rintro _ _ ⟨rfl, rfl⟩
  refine jx_eq (st2 := [.inl (me_I M1 30 0 (12 * p + n))]) rfl rfl rfl ?_
  rw [show (me_I M1 30 0 (12 * p + n) : Int32) = nI (o n) from hok.2.1]
  refine jx_callS (z_M_parts (d + 5) ((o n))  hok.1) mt_M_parts ml_M_101 sm_M_parts d_M_poll_44 rfl rfl (Nat.le_of_ble_eq_true rfl) ?_
  rintro _ _ ⟨rfl, rfl⟩
  refine jx_eq (st2 := [.inl (nI (pN (o n)))]) rfl rfl rfl ?_
  rw [show (nI (pN (o n)) : Int32) = 2 from (by rw [hpn]; rfl)]
  refine jx_if_ne 61 d_M_poll_47 (by decide) (fun _ => ?_) (fun h => absurd h (by decide))
  refine jx_of (fun _ _ kz => jw_aload_n 0 d_M_poll_61 rfl rfl kz) ?_
  refine jx_of (fun _ _ kz => jw_iload_n 1 d_M_poll_62 rfl rfl kz) ?_
  refine jx_of (fun _ _ kz => jw_iload_n 3 d_M_poll_63 rfl rfl kz) ?_
  refine jx_of (fun _ _ kz => jw_iload d_M_poll_64 rfl kz) ?_
  refine jx_of (fun _ _ kz => jw_aload_n 0 d_M_poll_66 rfl rfl kz) ?_
  refine jx_of (fun _ _ kz => jw_getPe (some (47, 0)) fl_M_62 d_M_poll_67 rfl rfl (by simp [me_I_sI, me_I_sP, me_I_nx, me_P_sI, me_P_sP, me_P_nx, me_N_sI, me_N_sP, me_N_nx, me_L_sI, me_L_sP, me_L_nx, show me_P M1 7 0 18 = some (47, 0) from h1.2.1.1.1 (7, 0, 18, 47, 0) (by decide)]) kz) ?_
  refine jx_of (fun _ _ kz => jw_iload_n 2 d_M_poll_70 rfl rfl kz) ?_
  refine jx_of (fun _ _ kz => jw_dup2 d_M_poll_71 kz) ?_
  refine jx_of (fun _ _ kz => jw_ialde (0) d_M_poll_72 rfl rfl (by rw [show me_L _ 47 0 = 13 from (by simp [me_I_sI, me_I_sP, me_I_nx, me_P_sI, me_P_sP, me_P_nx, me_N_sI, me_N_sP, me_N_nx, me_L_sI, me_L_sP, me_L_nx, show me_L M1 47 0 = 13 from h1.2.1.1.2 (47, 0, 13) (by decide)])]; exact (vp_in_nI (by omega) (by decide))) (by rw [nI_clamp (by omega)]; exact hst) kz) ?_
  refine jx_of (fun _ _ kz => jw_dup_x2 d_M_poll_73 kz) ?_
  refine jx_of (fun _ _ kz => jw_iconst 1 d_M_poll_74 (by decide) kz) ?_
  refine jx_of (fun _ _ kz => jw_iadd d_M_poll_75 kz) ?_
  rw [show (0 + 1 : Int32) = 1 from by decide]
  refine jx_of (fun _ _ kz => jw_iast d_M_poll_76 rfl rfl (by rw [show me_L _ 47 0 = 13 from (by simp [me_I_sI, me_I_sP, me_I_nx, me_P_sI, me_P_sP, me_P_nx, me_N_sI, me_N_sP, me_N_nx, me_L_sI, me_L_sP, me_L_nx, show me_L M1 47 0 = 13 from h1.2.1.1.2 (47, 0, 13) (by decide)])]; exact (vp_in_nI (by omega) (by decide))) kz) ?_
  rw [nI_clamp (by omega)]
  refine jx_callV (z_M_step_02 d t n ((12 * t + n)) p len o np nt1 X (mI_any h1.2.1 (Or.inr (Or.inr (Or.inl rfl))))  (Nat.lt_of_lt_of_le ht h1.1) (tP_sI hq (by omega)) hn (by omega) hpn) mt_M_step cf_M rfl rfl ml_M_158 im_M_step se_M_step d_M_poll_77 rfl rfl (Nat.le_of_ble_eq_true rfl) ?_
  rintro _ M2 ⟨rfl, h2⟩
  have h3 := iw_tr (iw_sI h1 (Or.inr (Or.inr rfl))) (iw_iv h2)
  have f6 : ∀ j, me_I M2 46 0 j = me_I M1 46 0 j := fun j => (h2.2.2.1.2.1 46 0 j (by unfold kg; omega)).trans (mx_ne (by omega))
  have f7 : me_I M2 47 0 tp = 1 := (h2.2.2.1.2.1 47 0 tp (by unfold kg; omega)).trans (by simp [me_I_sI])
  have f8 : ∀ j, j ≠ tp → me_I M2 47 0 j = me_I M1 47 0 j := fun j hj => (h2.2.2.1.2.1 47 0 j (by unfold kg; omega)).trans (mx_ne (by omega))
  refine jx_eq (st2 := [.inl (nI (n + 1))]) rfl rfl rfl ?_
  refine jx_of (fun _ _ kz => jw_istore d_M_poll_80 (Nat.le_of_ble_eq_true rfl) kz) ?_
  dsimp only [List.set]
  refine jx_of (fun _ _ kz => jw_iload d_M_poll_82 rfl kz) ?_
  refine jx_if_ge 93 d_M_poll_84 (by decide) (fun _ => ?_) (fun h => absurd (nI_pos' (by omega)) h)
  refine jx_of (fun _ _ kz => jw_aload_n 0 d_M_poll_93 rfl rfl kz) ?_
  refine jx_of (fun _ _ kz => jw_getPe (some (40, 0)) fl_M_41 d_M_poll_94 rfl rfl (by simp [me_I_sI, me_I_sP, me_I_nx, me_P_sI, me_P_sP, me_P_nx, me_N_sI, me_N_sP, me_N_nx, me_L_sI, me_L_sP, me_L_nx, show me_P M2 7 0 11 = some (40, 0) from h2.2.1.1.1 (7, 0, 11, 40, 0) (by decide)]) kz) ?_
  refine jx_of (fun _ _ kz => jw_bipush 12 d_M_poll_97 (by decide) kz) ?_
  refine jx_of (fun _ _ kz => jw_iload_n 1 d_M_poll_99 rfl rfl kz) ?_
  refine jx_of (fun _ _ kz => jw_imul d_M_poll_100 kz) ?_
  rw [show (12 * (nI t) : Int32) = nI (12 * t) from n12 t]
  refine jx_of (fun _ _ kz => jw_iload d_M_poll_101 rfl kz) ?_
  refine jx_of (fun _ _ kz => jw_iadd d_M_poll_103 kz) ?_
  rw [show ((nI (12 * t)) + (nI (n + 1)) : Int32) = nI (12 * t + (n + 1)) from nI_add _ _]
  refine jx_of (fun _ _ kz => jw_ialde (_) d_M_poll_104 rfl rfl (by rw [show me_L _ 40 0 = 144 from (by simp [me_I_sI, me_I_sP, me_I_nx, me_P_sI, me_P_sP, me_P_nx, me_N_sI, me_N_sP, me_N_nx, me_L_sI, me_L_sP, me_L_nx, show me_L M2 40 0 = 144 from h2.2.1.1.2 (40, 0, 144) (by decide)])]; exact (vp_in_nI (by omega) (by decide))) rfl kz) ?_
  refine jx_of (fun _ _ kz => jw_iconst 2 d_M_poll_105 (by decide) kz) ?_
  refine jx_icmp_ne 117 d_M_poll_106 (by decide) (fun b_106 => ?_) (fun b_106 => ?_)
  · skip
    refine jx_of (fun _ _ kz => jw_iincc 1 d_M_poll_117 (by decide) rfl (Nat.le_of_ble_eq_true rfl) kz) ?_
    dsimp only [List.set]
    rw [nI_1]
    refine jx_of (fun _ _ kz => jw_aload_n 0 d_M_poll_120 rfl rfl kz) ?_
    refine jx_of (fun _ _ kz => jw_getPe (some (46, 0)) fl_M_59 d_M_poll_121 rfl rfl (by simp [me_I_sI, me_I_sP, me_I_nx, me_P_sI, me_P_sP, me_P_nx, me_N_sI, me_N_sP, me_N_nx, me_L_sI, me_L_sP, me_L_nx, show me_P M2 7 0 17 = some (46, 0) from h2.2.1.1.1 (7, 0, 17, 46, 0) (by decide)]) kz) ?_
    refine jx_of (fun _ _ kz => jw_iload_n 2 d_M_poll_124 rfl rfl kz) ?_
    refine jx_of (fun _ _ kz => jw_iload d_M_poll_125 rfl kz) ?_
    refine jx_of (fun _ _ kz => jw_iast d_M_poll_127 rfl rfl (by rw [show me_L _ 46 0 = 13 from (by simp [me_I_sI, me_I_sP, me_I_nx, me_P_sI, me_P_sP, me_P_nx, me_N_sI, me_N_sP, me_N_nx, me_L_sI, me_L_sP, me_L_nx, show me_L M2 46 0 = 13 from h2.2.1.1.2 (46, 0, 13) (by decide)])]; exact (vp_in_nI (by omega) (by decide))) kz) ?_
    rw [nI_clamp (by omega)]
    refine jx_of (fun _ _ kz => jw_aload_n 0 d_M_poll_128 rfl rfl kz) ?_
    refine jx_of (fun _ _ kz => jw_getPe (some (47, 0)) fl_M_62 d_M_poll_129 rfl rfl (by simp [me_I_sI, me_I_sP, me_I_nx, me_P_sI, me_P_sP, me_P_nx, me_N_sI, me_N_sP, me_N_nx, me_L_sI, me_L_sP, me_L_nx, show me_P M2 7 0 18 = some (47, 0) from h2.2.1.1.1 (7, 0, 18, 47, 0) (by decide)]) kz) ?_
    refine jx_of (fun _ _ kz => jw_iload_n 2 d_M_poll_132 rfl rfl kz) ?_
    refine jx_of (fun _ _ kz => jw_iconst 0 d_M_poll_133 (by decide) kz) ?_
    refine jx_of (fun _ _ kz => jw_iast d_M_poll_134 rfl rfl (by rw [show me_L _ 47 0 = 13 from (by simp [me_I_sI, me_I_sP, me_I_nx, me_P_sI, me_P_sP, me_P_nx, me_N_sI, me_N_sP, me_N_nx, me_L_sI, me_L_sP, me_L_nx, show me_L M2 47 0 = 13 from h2.2.1.1.2 (47, 0, 13) (by decide)])]; exact (vp_in_nI (by omega) (by decide))) kz) ?_
    rw [nI_clamp (by omega)]
    refine jx_of (fun _ _ kz => jw_goto 16 d_M_poll_135 (by decide) kz) ?_
    first | exact pl_ready (pl_12 hI ht hp hn hpn hC) htp h3 hat f6 f7 f8 hK | exact pl_push (hC (n + 1) (by omega) hc1) (by omega) (pl_12 hI ht hp hn hpn hC) htp h3 hat f6 f7 f8 hK
  · skip
    refine jx_of (fun _ _ kz => jw_aload_n 0 d_M_poll_109 rfl rfl kz) ?_
    refine jx_of (fun _ _ kz => jw_iconst 2 d_M_poll_110 (by decide) kz) ?_
    refine jx_of (fun _ _ kz => jw_putI fl_M_151 (Or.inl rfl) rfl rfl d_M_poll_111 rfl rfl kz) ?_
    refine jx_of (fun _ _ kz => jw_goto 135 d_M_poll_114 (by decide) kz) ?_
    refine jx_of (fun _ _ kz => jw_goto 16 d_M_poll_135 (by decide) kz) ?_
    first | exact pl_ready (pl_12 hI ht hp hn hpn hC) htp h3 hat f6 f7 f8 hK | exact pl_push (hC (n + 1) (by omega) hc1) (by omega) (pl_12 hI ht hp hn hpn hC) htp h3 hat f6 f7 f8 hK
theorem pl_all {G : Gt} {d c0 s0 t np nt : Nat} {X : List Nat} {Q : Option AV → Me → Prop} {M : Me} {p len : Nat} {o : Nat → Nat} (hI : mI M np nt X) (ht : t < nt) (hp : tP M t p len o) : ∀ (m n : Nat), len - n ≤ m → n < len → nd G d c0 s0 t np nt X Q M 0 n := by
  intro m
  induction m with
  | zero => intro n h1 h2; omega
  | succ m ih =>
    intro n h1 hn
    have hC : ∀ c, n < c → c < len → nd G d c0 s0 t np nt X Q M 0 c := fun c a b => ih c (by omega) b
    have h3 : pN (o n) = 0 ∨ pN (o n) = 1 ∨ pN (o n) = 2 := by
      unfold pN; split
      · exact Or.inl rfl
      · split
        · exact Or.inr (Or.inr rfl)
        · exact Or.inr (Or.inl rfl)
    rcases h3 with h | h | h
    · exact pl_00 hI ht hp hn h
    · exact pl_01 hI ht hp hn h hC
    · exact pl_02 hI ht hp hn h hC
theorem pl_end {G : Gt} {d c0 s0 t np nt nt2 : Nat} {X : List Nat} {M M2 : Me} {v : Int32} {q3 q4 q5 : Option AV} (hv : v = nI 0 + (-1)) (h2 : iw np nt nt2 X M M2) : jx G yt_M_poll (d + 8) c0 s0 M2 16 [some (.inr (some (7, 0))), some (.inl (nI t)), some (.inl (v)), q3, q4, q5] [] (fun r M' => r = none ∧ ∃ nt', iw np nt nt' X M M') := by
  refine jx_of (fun _ _ kz => jw_iload_n 2 d_M_poll_16 rfl rfl kz) ?_
  refine jx_if_lt 138 d_M_poll_17 (by decide) (fun _ => ?_) (fun h => absurd (by rw [hv]; decide) h)
  refine jx_vret d_M_poll_138 rfl ?_
  exact ⟨rfl, nt2, h2⟩
set_option maxRecDepth 20000 in
set_option maxHeartbeats 4000000 in
theorem z_M_poll {G : Gt} {M : Me} (d : Nat) (t : Nat) (np : Nat) (nt : Nat) (X : List Nat) (hI : mI M np nt X) (ht : t < nt) : sx G yt_M_poll yn_M_poll (d + 8) [.inr (some (7, 0)), .inl (nI t)] M (fun r M' => r = none ∧ ∃ nt', iw np nt nt' X M M') := by
  refine sx_of (k := 4) (lc := [some (.inr (some (7, 0))), some (.inl (nI t)), none, none, none, none]) mt_M_poll (Nat.le_of_ble_eq_true rfl) rfl ?_
  refine jx_of (fun _ _ kz => jw_iconst 0 d_M_poll_0 (by decide) kz) ?_
  refine jx_of (fun _ _ kz => jw_istore_n 2 d_M_poll_1 rfl (Nat.le_of_ble_eq_true rfl) kz) ?_
  dsimp only [List.set]
  refine jx_of (fun _ _ kz => jw_aload_n 0 d_M_poll_2 rfl rfl kz) ?_
  refine jx_of (fun _ _ kz => jw_getPe (some (46, 0)) fl_M_59 d_M_poll_3 rfl rfl (by simp [me_I_sI, me_I_sP, me_I_nx, me_P_sI, me_P_sP, me_P_nx, me_N_sI, me_N_sP, me_N_nx, me_L_sI, me_L_sP, me_L_nx, show me_P M 7 0 17 = some (46, 0) from hI.1.1 (7, 0, 17, 46, 0) (by decide)]) kz) ?_
  refine jx_of (fun _ _ kz => jw_iconst 0 d_M_poll_6 (by decide) kz) ?_
  refine jx_of (fun _ _ kz => jw_iconst 0 d_M_poll_7 (by decide) kz) ?_
  refine jx_of (fun _ _ kz => jw_iast d_M_poll_8 rfl rfl (by rw [show me_L _ 46 0 = 13 from (by simp [me_I_sI, me_I_sP, me_I_nx, me_P_sI, me_P_sP, me_P_nx, me_N_sI, me_N_sP, me_N_nx, me_L_sI, me_L_sP, me_L_nx, show me_L M 46 0 = 13 from hI.1.2 (46, 0, 13) (by decide)])]; unfold vp_in; decide) kz) ?_
  rw [show Int32.toNatClampNeg 0 = 0 from by decide]
  refine jx_of (fun _ _ kz => jw_aload_n 0 d_M_poll_9 rfl rfl kz) ?_
  refine jx_of (fun _ _ kz => jw_getPe (some (47, 0)) fl_M_62 d_M_poll_10 rfl rfl (by simp [me_I_sI, me_I_sP, me_I_nx, me_P_sI, me_P_sP, me_P_nx, me_N_sI, me_N_sP, me_N_nx, me_L_sI, me_L_sP, me_L_nx, show me_P M 7 0 18 = some (47, 0) from hI.1.1 (7, 0, 18, 47, 0) (by decide)]) kz) ?_
  refine jx_of (fun _ _ kz => jw_iconst 0 d_M_poll_13 (by decide) kz) ?_
  refine jx_of (fun _ _ kz => jw_iconst 0 d_M_poll_14 (by decide) kz) ?_
  refine jx_of (fun _ _ kz => jw_iast d_M_poll_15 rfl rfl (by rw [show me_L _ 47 0 = 13 from (by simp [me_I_sI, me_I_sP, me_I_nx, me_P_sI, me_P_sP, me_P_nx, me_N_sI, me_N_sP, me_N_nx, me_L_sI, me_L_sP, me_L_nx, show me_L M 47 0 = 13 from hI.1.2 (47, 0, 13) (by decide)])]; unfold vp_in; decide) kz) ?_
  rw [show Int32.toNatClampNeg 0 = 0 from by decide]
  obtain ⟨p, len, o, hp⟩ := tP_mI hI ht
  have h0 := iw_sI (iw_sI (iw_iv (iv_rf hI)) (Or.inr (Or.inl rfl)) (k := 0) (v := 0)) (Or.inr (Or.inr rfl)) (k := 0) (v := 0)
  exact pl_all hI ht hp len 0 (by omega) (by have := hp.2.2.1; omega) 0 nt _ none none none (Nat.le_refl _) h0 (by simp [me_I_sI, nI_0]) (by simp [me_I_sI]) (fun nt2 M2 q3 q4 q5 h2 _ => pl_end (by rfl) h2)
