def fw (nt : Nat) (M M' : Me) : Prop := sq M M' ∧ (∀ s i k, kw s k → me_I M' s i k = me_I M s i k) ∧ ∀ t, t < nt → me_I M' 36 0 t = me_I M 36 0 t
theorem fw_rf {nt : Nat} {M : Me} : fw nt M M := ⟨sq_rf, fun _ _ _ _ => rfl, fun _ _ => rfl⟩
theorem fw_tr {nt nt1 : Nat} {M M1 M2 : Me} (hn : nt ≤ nt1) (h : fw nt M M1) (h2 : fw nt1 M1 M2) : fw nt M M2 := ⟨sq_tr h.1 h2.1, fun s i k q => (h2.2.1 s i k q).trans (h.2.1 s i k q), fun t ht => (h2.2.2 t (by omega)).trans (h.2.2 t ht)⟩
theorem fw_sI {nt : Nat} {M M1 : Me} {s k : Nat} {v : Int32} (h : fw nt M M1) (hs : (33 ≤ s ∧ s ≠ 36) ∨ (s = 7 ∧ (k = 28 ∨ k = 30 ∨ k = 31 ∨ k = 33 ∨ k = 34))) : fw nt M (me_sI M1 s 0 k v) := by
  refine ⟨sq_sI h.1, fun s' i k' q => ?_, fun t ht => ?_⟩
  · rw [mx_ne (by unfold kw at q; omega)]; exact h.2.1 s' i k' q
  · rw [mx_ne (by omega)]; exact h.2.2 t ht
theorem fw_mc {nt : Nat} {M M1 M2 : Me} (h : fw nt M M1) (c : mc M1 M2) : fw nt M M2 := ⟨sq_tr h.1 c.1, fun s i k q => (c.2 s i k (by unfold kw at q; unfold kp; omega)).trans (h.2.1 s i k q), fun t ht => (c.2 36 0 t (by unfold kp; omega)).trans (h.2.2 t ht)⟩
theorem iw_mk {np nt nt' : Nat} {M M' : Me} (h1 : nt ≤ nt') (h2 : mI M' np nt' []) (h3 : fw nt M M') : iw np nt nt' [] M M' := ⟨h1, h2, h3, fun s hs => absurd hs (by simp)⟩
theorem mI_q {M M' : Me} {np nt : Nat} {X Y : List Nat} (h : mI M np nt X) (hf : fw nt M M') (ht : me_I M' 7 0 27 = me_I M 7 0 27) (q : mQ M' nt Y) : mI M' np nt Y :=
  ⟨mSh_mc h.1 hf.1, mPr_o h.2.1 (fun s j a => hf.2.1 s 0 j (by unfold kw; omega)), ⟨by rw [ht]; exact h.2.2.1.1, h.2.2.1.2.1, fun t a => by rw [hf.2.2 t a]; exact h.2.2.1.2.2 t a⟩, q, wV_o h.2.2.2.2 (hf.2.1 7 0 35 (by unfold kw; omega))⟩
theorem qX_wh {M : Me} {nt : Nat} {inj : List Nat} {rg : Nat → List Nat} {sl : Nat → Option Nat} {X : List Nat} {t : Nat} {v : Int32} (h : qX M nt inj rg sl (t :: X)) : qX (me_sI M 38 0 t v) nt inj rg sl (t :: X) := by
  obtain ⟨h0, h0'⟩ := qX_out h
  obtain ⟨⟨a1, a2⟩, b, c, e, ⟨f1, f2, f3, f0⟩, g⟩ := h
  have o : ∀ s' j, s' ≠ 38 ∨ j ≠ t → me_I (me_sI M 38 0 t v) s' 0 j = me_I M s' 0 j := fun s' j q => mx_ne q
  refine ⟨⟨by rw [o 7 28 (by omega)]; exact a1, fun k x hk => by rw [o 53 k (by omega)]; exact a2 k x hk⟩, fun w hw => ?_, fun w hw => by rw [o 48 w (by omega)]; exact c w hw, e, ⟨fun x hx => ?_, fun w hw x hx => ?_, fun w hw x hx => ?_, fun x hx h9 => ?_⟩, fun x hx h9 => g x hx (by rw [o 33 x (by omega)] at h9; exact h9)⟩
  · obtain ⟨b1, b2, b3⟩ := b w hw
    exact ⟨by rw [o 52 w (by omega)]; exact b1, b2, fun k x hk => by rw [o 51 _ (by omega)]; exact b3 k x hk⟩
  · rw [o 38 x (Or.inr (fun q => by have := qC_in (X := X) (rg := rg) (sl := sl) hx; rw [q] at this; omega))]; exact f1 x hx
  · rw [o 38 x (Or.inr (fun q => by have := qC_ins (X := X) (inj := inj) (rg := rg) hw hx; rw [q] at this; omega))]; exact f2 w hw x hx
  · rw [o 38 x (Or.inr (fun q => by have := qC_inr (X := X) (inj := inj) (sl := sl) hw hx; rw [q] at this; omega))]; exact f3 w hw x hx
  · rw [o 38 x (Or.inr (fun q => by rw [qC_x, q] at h9; simp at h9))]; exact f0 x hx h9
theorem mQ_state {M : Me} {nt : Nat} {X : List Nat} {t : Nat} {v : Int32} (h : mQ M nt X) (hv : v ≠ 0) : mQ (me_sI M 33 0 t v) nt X := by
  obtain ⟨a, b, c, h⟩ := h; exact ⟨a, b, c, qX_state h (Or.inl hv)⟩
/-- t leaves the transit: nowhere, any state -/
theorem mQ_out {M : Me} {nt : Nat} {t : Nat} {v : Int32} (h : mQ M nt [t]) (hz : me_I M 38 0 t = 0) : mQ (me_sI M 33 0 t v) nt [] := by
  obtain ⟨a, b, c, h⟩ := h; exact ⟨a, b, c, qX_state (qX_zero h hz) (Or.inr (qX_out h).1)⟩
set_option maxRecDepth 20000 in
set_option maxHeartbeats 4000000 in
theorem z_M_tr_in {G : Gt} {M1 : Me} (d t p len : Nat) (o : Nat → Nat) (u : Int32) (c0 s0 : Nat) (Q : Option AV → Me → Prop) (hm1 : mSh M1) (ht : t < 12) (hq : tP M1 t p len o) (hK : ∀ (w : Int32) (o4 o5 : Option AV), jx G yt_M_tellReapers (d + 5) c0 s0 M1 103 [some (.inr (some (7, 0))), some (.inl u), some (.inl (nI t)), some (.inl w), o4, o5] [] Q) : ∀ (m n : Nat) (w : Int32) (o5 : Option AV), n + m = len → jx G yt_M_tellReapers (d + 5) c0 s0 M1 15 [some (.inr (some (7, 0))), some (.inl u), some (.inl (nI t)), some (.inl w), some (.inl (nI n)), o5] [] Q := by
  have hle := hq.2.2.1
  intro m
  induction m with
  | zero =>
    intro n w o5 hk
    refine jx_of (fun _ _ kz => jw_iload d_M_tellReapers_15 rfl kz) ?_
    refine jx_of (fun _ _ kz => jw_aload_n 0 d_M_tellReapers_17 rfl rfl kz) ?_
    refine jx_of (fun _ _ kz => jw_getPe (some (32, 0)) fl_M_16 d_M_tellReapers_18 rfl rfl (by simp [me_I_sI, me_I_sP, me_I_nx, me_P_sI, me_P_sP, me_P_nx, me_N_sI, me_N_sP, me_N_nx, me_L_sI, me_L_sP, me_L_nx, show me_P M1 7 0 2 = some (32, 0) from hm1.1 (7, 0, 2, 32, 0) (by decide)]) kz) ?_
    refine jx_of (fun _ _ kz => jw_aload_n 0 d_M_tellReapers_21 rfl rfl kz) ?_
    refine jx_of (fun _ _ kz => jw_getPe (some (36, 0)) fl_M_28 d_M_tellReapers_22 rfl rfl (by simp [me_I_sI, me_I_sP, me_I_nx, me_P_sI, me_P_sP, me_P_nx, me_N_sI, me_N_sP, me_N_nx, me_L_sI, me_L_sP, me_L_nx, show me_P M1 7 0 7 = some (36, 0) from hm1.1 (7, 0, 7, 36, 0) (by decide)]) kz) ?_
    refine jx_of (fun _ _ kz => jw_iload_n 2 d_M_tellReapers_25 rfl rfl kz) ?_
    refine jx_of (fun _ _ kz => jw_ialde (nI p) d_M_tellReapers_26 rfl rfl (by rw [show me_L _ 36 0 = 12 from (by simp [me_I_sI, me_I_sP, me_I_nx, me_P_sI, me_P_sP, me_P_nx, me_N_sI, me_N_sP, me_N_nx, me_L_sI, me_L_sP, me_L_nx, show me_L M1 36 0 = 12 from hm1.2 (36, 0, 12) (by decide)])]; exact (vp_in_nI (by omega) (by decide))) (by rw [nI_clamp (by omega)]; exact hq.1) kz) ?_
    refine jx_of (fun _ _ kz => jw_ialde (nI len) d_M_tellReapers_27 rfl rfl (by rw [show me_L _ 32 0 = 7 from (by simp [me_I_sI, me_I_sP, me_I_nx, me_P_sI, me_P_sP, me_P_nx, me_N_sI, me_N_sP, me_N_nx, me_L_sI, me_L_sP, me_L_nx, show me_L M1 32 0 = 7 from hm1.2 (32, 0, 7) (by decide)])]; exact (vp_in_nI (by have := hq.2.1; omega) (by decide))) (by rw [nI_clamp (by have := hq.2.1; omega)]; exact hq.2.2.2.1) kz) ?_
    refine jx_icmp_ge 103 d_M_tellReapers_28 (by decide) (fun _ => ?_) (fun h => absurd (nI_le (by omega) (by omega)) h)
    exact hK _ _ _
  | succ m ih =>
    intro n w o5 hk
    have hok := hq.2.2.2.2.1 n (by omega)
    refine jx_of (fun _ _ kz => jw_iload d_M_tellReapers_15 rfl kz) ?_
    refine jx_of (fun _ _ kz => jw_aload_n 0 d_M_tellReapers_17 rfl rfl kz) ?_
    refine jx_of (fun _ _ kz => jw_getPe (some (32, 0)) fl_M_16 d_M_tellReapers_18 rfl rfl (by simp [me_I_sI, me_I_sP, me_I_nx, me_P_sI, me_P_sP, me_P_nx, me_N_sI, me_N_sP, me_N_nx, me_L_sI, me_L_sP, me_L_nx, show me_P M1 7 0 2 = some (32, 0) from hm1.1 (7, 0, 2, 32, 0) (by decide)]) kz) ?_
    refine jx_of (fun _ _ kz => jw_aload_n 0 d_M_tellReapers_21 rfl rfl kz) ?_
    refine jx_of (fun _ _ kz => jw_getPe (some (36, 0)) fl_M_28 d_M_tellReapers_22 rfl rfl (by simp [me_I_sI, me_I_sP, me_I_nx, me_P_sI, me_P_sP, me_P_nx, me_N_sI, me_N_sP, me_N_nx, me_L_sI, me_L_sP, me_L_nx, show me_P M1 7 0 7 = some (36, 0) from hm1.1 (7, 0, 7, 36, 0) (by decide)]) kz) ?_
    refine jx_of (fun _ _ kz => jw_iload_n 2 d_M_tellReapers_25 rfl rfl kz) ?_
    refine jx_of (fun _ _ kz => jw_ialde (nI p) d_M_tellReapers_26 rfl rfl (by rw [show me_L _ 36 0 = 12 from (by simp [me_I_sI, me_I_sP, me_I_nx, me_P_sI, me_P_sP, me_P_nx, me_N_sI, me_N_sP, me_N_nx, me_L_sI, me_L_sP, me_L_nx, show me_L M1 36 0 = 12 from hm1.2 (36, 0, 12) (by decide)])]; exact (vp_in_nI (by omega) (by decide))) (by rw [nI_clamp (by omega)]; exact hq.1) kz) ?_
    refine jx_of (fun _ _ kz => jw_ialde (nI len) d_M_tellReapers_27 rfl rfl (by rw [show me_L _ 32 0 = 7 from (by simp [me_I_sI, me_I_sP, me_I_nx, me_P_sI, me_P_sP, me_P_nx, me_N_sI, me_N_sP, me_N_nx, me_L_sI, me_L_sP, me_L_nx, show me_L M1 32 0 = 7 from hm1.2 (32, 0, 7) (by decide)])]; exact (vp_in_nI (by have := hq.2.1; omega) (by decide))) (by rw [nI_clamp (by have := hq.2.1; omega)]; exact hq.2.2.2.1) kz) ?_
    refine jx_icmp_ge 103 d_M_tellReapers_28 (by decide) (fun h => absurd h (nI_ge (by omega) (by omega))) (fun _ => ?_)
    refine jx_of (fun _ _ kz => jw_bipush 12 d_M_tellReapers_31 (by decide) kz) ?_
    refine jx_of (fun _ _ kz => jw_iload_n 2 d_M_tellReapers_33 rfl rfl kz) ?_
    refine jx_of (fun _ _ kz => jw_imul d_M_tellReapers_34 kz) ?_
    rw [show (12 * (nI t) : Int32) = nI (12 * t) from n12 t]
    refine jx_of (fun _ _ kz => jw_iload d_M_tellReapers_35 rfl kz) ?_
    refine jx_of (fun _ _ kz => jw_iadd d_M_tellReapers_37 kz) ?_
    rw [show ((nI (12 * t)) + (nI n) : Int32) = nI (12 * t + n) from nI_add _ _]
    refine jx_of (fun _ _ kz => jw_istore d_M_tellReapers_38 (Nat.le_of_ble_eq_true rfl) kz) ?_
    dsimp only [List.set]
    refine jx_of (fun _ _ kz => jw_iload_n 3 d_M_tellReapers_40 rfl rfl kz) ?_
    refine jx_of (fun _ _ kz => jw_aload_n 0 d_M_tellReapers_41 rfl rfl kz) ?_
    refine jx_of (fun _ _ kz => jw_iload_n 2 d_M_tellReapers_42 rfl rfl kz) ?_
    refine jx_of (fun _ _ kz => jw_iload d_M_tellReapers_43 rfl kz) ?_
    refine jx_callV (z_M_opOf (d + 3) t n p hm1  (by omega) (by omega) hq.1 hq.2.1) mt_M_opOf cf_M rfl rfl ml_M_108 im_M_opOf se_M_opOf d_M_tellReapers_45 rfl rfl (Nat.le_of_ble_eq_true rfl) ?_
    rintro _ _ ⟨rfl, rfl⟩
    refine jx_eq (st2 := [.inl (me_I M1 30 0 (12 * p + n)), .inl w]) rfl rfl rfl ?_
    rw [show (me_I M1 30 0 (12 * p + n) : Int32) = nI (o n) from hok.2.1]
    refine jx_of (fun _ _ kz => jw_bipush 8 d_M_tellReapers_48 (by decide) kz) ?_
    refine jx_icmp_ne 94 d_M_tellReapers_50 (by decide) (fun b_50 => ?_) (fun b_50 => ?_)
    · skip
      refine jx_of (fun _ _ kz => jw_iconst 0 d_M_tellReapers_94 (by decide) kz) ?_
      refine jx_of (fun _ _ kz => jw_ior d_M_tellReapers_95 kz) ?_
      refine jx_of (fun _ _ kz => jw_istore_n 3 d_M_tellReapers_96 rfl (Nat.le_of_ble_eq_true rfl) kz) ?_
      dsimp only [List.set]
      refine jx_of (fun _ _ kz => jw_iincc 1 d_M_tellReapers_97 (by decide) rfl (Nat.le_of_ble_eq_true rfl) kz) ?_
      dsimp only [List.set]
      refine jx_of (fun _ _ kz => jw_goto 15 d_M_tellReapers_100 (by decide) kz) ?_
      rw [nI_1]
      exact ih (n + 1) _ _ (by omega)
    · skip
      have hc1 := ch1 hq.2.2 (n := n) (by omega) (by rw [show o n = 8 from (nI_eq (by omega) (by decide)).mp b_50]; decide)
      refine jx_of (fun _ _ kz => jw_aload_n 0 d_M_tellReapers_53 rfl rfl kz) ?_
      refine jx_of (fun _ _ kz => jw_getPe (some (40, 0)) fl_M_41 d_M_tellReapers_54 rfl rfl (by simp [me_I_sI, me_I_sP, me_I_nx, me_P_sI, me_P_sP, me_P_nx, me_N_sI, me_N_sP, me_N_nx, me_L_sI, me_L_sP, me_L_nx, show me_P M1 7 0 11 = some (40, 0) from hm1.1 (7, 0, 11, 40, 0) (by decide)]) kz) ?_
      refine jx_of (fun _ _ kz => jw_iload d_M_tellReapers_57 rfl kz) ?_
      refine jx_of (fun _ _ kz => jw_ialde (_) d_M_tellReapers_59 rfl rfl (by rw [show me_L _ 40 0 = 144 from (by simp [me_I_sI, me_I_sP, me_I_nx, me_P_sI, me_P_sP, me_P_nx, me_N_sI, me_N_sP, me_N_nx, me_L_sI, me_L_sP, me_L_nx, show me_L M1 40 0 = 144 from hm1.2 (40, 0, 144) (by decide)])]; exact (vp_in_nI (by omega) (by decide))) rfl kz) ?_
      refine jx_of (fun _ _ kz => jw_iconst 1 d_M_tellReapers_60 (by decide) kz) ?_
      refine jx_icmp_ne 94 d_M_tellReapers_61 (by decide) (fun b_61 => ?_) (fun b_61 => ?_)
      · skip
        refine jx_of (fun _ _ kz => jw_iconst 0 d_M_tellReapers_94 (by decide) kz) ?_
        refine jx_of (fun _ _ kz => jw_ior d_M_tellReapers_95 kz) ?_
        refine jx_of (fun _ _ kz => jw_istore_n 3 d_M_tellReapers_96 rfl (Nat.le_of_ble_eq_true rfl) kz) ?_
        dsimp only [List.set]
        refine jx_of (fun _ _ kz => jw_iincc 1 d_M_tellReapers_97 (by decide) rfl (Nat.le_of_ble_eq_true rfl) kz) ?_
        dsimp only [List.set]
        refine jx_of (fun _ _ kz => jw_goto 15 d_M_tellReapers_100 (by decide) kz) ?_
        rw [nI_1]
        exact ih (n + 1) _ _ (by omega)
      · skip
        refine jx_of (fun _ _ kz => jw_aload_n 0 d_M_tellReapers_64 rfl rfl kz) ?_
        refine jx_of (fun _ _ kz => jw_getPe (some (40, 0)) fl_M_41 d_M_tellReapers_65 rfl rfl (by simp [me_I_sI, me_I_sP, me_I_nx, me_P_sI, me_P_sP, me_P_nx, me_N_sI, me_N_sP, me_N_nx, me_L_sI, me_L_sP, me_L_nx, show me_P M1 7 0 11 = some (40, 0) from hm1.1 (7, 0, 11, 40, 0) (by decide)]) kz) ?_
        refine jx_of (fun _ _ kz => jw_iload d_M_tellReapers_68 rfl kz) ?_
        refine jx_of (fun _ _ kz => jw_iconst 1 d_M_tellReapers_70 (by decide) kz) ?_
        refine jx_of (fun _ _ kz => jw_iadd d_M_tellReapers_71 kz) ?_
        rw [show ((nI (12 * t + n)) + 1 : Int32) = nI (12 * t + n + 1) from nI_1 _]
        refine jx_of (fun _ _ kz => jw_ialde (_) d_M_tellReapers_72 rfl rfl (by rw [show me_L _ 40 0 = 144 from (by simp [me_I_sI, me_I_sP, me_I_nx, me_P_sI, me_P_sP, me_P_nx, me_N_sI, me_N_sP, me_N_nx, me_L_sI, me_L_sP, me_L_nx, show me_L M1 40 0 = 144 from hm1.2 (40, 0, 144) (by decide)])]; exact (vp_in_nI (by omega) (by decide))) rfl kz) ?_
        refine jx_of (fun _ _ kz => jw_iconst 2 d_M_tellReapers_73 (by decide) kz) ?_
        refine jx_icmp_ne 94 d_M_tellReapers_74 (by decide) (fun b_74 => ?_) (fun b_74 => ?_)
        · skip
          refine jx_of (fun _ _ kz => jw_iconst 0 d_M_tellReapers_94 (by decide) kz) ?_
          refine jx_of (fun _ _ kz => jw_ior d_M_tellReapers_95 kz) ?_
          refine jx_of (fun _ _ kz => jw_istore_n 3 d_M_tellReapers_96 rfl (Nat.le_of_ble_eq_true rfl) kz) ?_
          dsimp only [List.set]
          refine jx_of (fun _ _ kz => jw_iincc 1 d_M_tellReapers_97 (by decide) rfl (Nat.le_of_ble_eq_true rfl) kz) ?_
          dsimp only [List.set]
          refine jx_of (fun _ _ kz => jw_goto 15 d_M_tellReapers_100 (by decide) kz) ?_
          rw [nI_1]
          exact ih (n + 1) _ _ (by omega)
        · skip
          refine jx_of (fun _ _ kz => jw_aload_n 0 d_M_tellReapers_77 rfl rfl kz) ?_
          refine jx_of (fun _ _ kz => jw_getPe (some (41, 0)) fl_M_44 d_M_tellReapers_78 rfl rfl (by simp [me_I_sI, me_I_sP, me_I_nx, me_P_sI, me_P_sP, me_P_nx, me_N_sI, me_N_sP, me_N_nx, me_L_sI, me_L_sP, me_L_nx, show me_P M1 7 0 12 = some (41, 0) from hm1.1 (7, 0, 12, 41, 0) (by decide)]) kz) ?_
          refine jx_of (fun _ _ kz => jw_iload d_M_tellReapers_81 rfl kz) ?_
          refine jx_of (fun _ _ kz => jw_iconst 1 d_M_tellReapers_83 (by decide) kz) ?_
          refine jx_of (fun _ _ kz => jw_iadd d_M_tellReapers_84 kz) ?_
          rw [show ((nI (12 * t + n)) + 1 : Int32) = nI (12 * t + n + 1) from nI_1 _]
          refine jx_of (fun _ _ kz => jw_ialde (_) d_M_tellReapers_85 rfl rfl (by rw [show me_L _ 41 0 = 144 from (by simp [me_I_sI, me_I_sP, me_I_nx, me_P_sI, me_P_sP, me_P_nx, me_N_sI, me_N_sP, me_N_nx, me_L_sI, me_L_sP, me_L_nx, show me_L M1 41 0 = 144 from hm1.2 (41, 0, 144) (by decide)])]; exact (vp_in_nI (by omega) (by decide))) rfl kz) ?_
          refine jx_of (fun _ _ kz => jw_iload_n 1 d_M_tellReapers_86 rfl rfl kz) ?_
          refine jx_icmp_ne 94 d_M_tellReapers_87 (by decide) (fun b_87 => ?_) (fun b_87 => ?_)
          · skip
            refine jx_of (fun _ _ kz => jw_iconst 0 d_M_tellReapers_94 (by decide) kz) ?_
            refine jx_of (fun _ _ kz => jw_ior d_M_tellReapers_95 kz) ?_
            refine jx_of (fun _ _ kz => jw_istore_n 3 d_M_tellReapers_96 rfl (Nat.le_of_ble_eq_true rfl) kz) ?_
            dsimp only [List.set]
            refine jx_of (fun _ _ kz => jw_iincc 1 d_M_tellReapers_97 (by decide) rfl (Nat.le_of_ble_eq_true rfl) kz) ?_
            dsimp only [List.set]
            refine jx_of (fun _ _ kz => jw_goto 15 d_M_tellReapers_100 (by decide) kz) ?_
            rw [nI_1]
            exact ih (n + 1) _ _ (by omega)
          · skip
            refine jx_of (fun _ _ kz => jw_iconst 1 d_M_tellReapers_90 (by decide) kz) ?_
            refine jx_of (fun _ _ kz => jw_goto 95 d_M_tellReapers_91 (by decide) kz) ?_
            refine jx_of (fun _ _ kz => jw_ior d_M_tellReapers_95 kz) ?_
            refine jx_of (fun _ _ kz => jw_istore_n 3 d_M_tellReapers_96 rfl (Nat.le_of_ble_eq_true rfl) kz) ?_
            dsimp only [List.set]
            refine jx_of (fun _ _ kz => jw_iincc 1 d_M_tellReapers_97 (by decide) rfl (Nat.le_of_ble_eq_true rfl) kz) ?_
            dsimp only [List.set]
            refine jx_of (fun _ _ kz => jw_goto 15 d_M_tellReapers_100 (by decide) kz) ?_
            rw [nI_1]
            exact ih (n + 1) _ _ (by omega)
set_option maxRecDepth 20000 in
set_option maxHeartbeats 4000000 in
theorem z_M_tr_out {G : Gt} {M : Me} (d np nt : Nat) (X : List Nat) (u : Int32) (hnt : nt ≤ 12) (c0 s0 : Nat) : ∀ (m t : Nat) (M1 : Me) (o3 o4 o5 : Option AV), t + m = nt → iv np nt nt X M M1 → jx G yt_M_tellReapers (d + 5) c0 s0 M1 2 [some (.inr (some (7, 0))), some (.inl u), some (.inl (nI t)), o3, o4, o5] [] (fun r M' => r = none ∧ iv np nt nt X M M') := by
  intro m
  induction m with
  | zero =>
    intro t M1 o3 o4 o5 hk h1
    have hm1 := h1.2.1.1
    refine jx_of (fun _ _ kz => jw_iload_n 2 d_M_tellReapers_2 rfl rfl kz) ?_
    refine jx_of (fun _ _ kz => jw_aload_n 0 d_M_tellReapers_3 rfl rfl kz) ?_
    refine jx_of (fun _ _ kz => jw_getIe (nI nt) fl_M_112 d_M_tellReapers_4 rfl rfl h1.2.1.2.2.1.1 kz) ?_
    refine jx_icmp_ge 118 d_M_tellReapers_7 (by decide) (fun _ => ?_) (fun h => absurd (nI_le (by omega) (by omega)) h)
    refine jx_vret d_M_tellReapers_118 rfl ?_
    exact ⟨rfl, h1⟩
  | succ m ih =>
    intro t M1 o3 o4 o5 hk h1
    have hm1 := h1.2.1.1
    obtain ⟨p, len, o, hq⟩ := tP_mI h1.2.1 (t := t) (by omega)
    have h103 : ∀ (w : Int32) (o4 o5 : Option AV), jx G yt_M_tellReapers (d + 5) c0 s0 M1 103 [some (.inr (some (7, 0))), some (.inl u), some (.inl (nI t)), some (.inl w), o4, o5] [] (fun r M' => r = none ∧ iv np nt nt X M M') := by
      intro w o4 o5
      refine jx_of (fun _ _ kz => jw_iload_n 3 d_M_tellReapers_103 rfl rfl kz) ?_
      refine jx_if_eq 112 d_M_tellReapers_104 (by decide) (fun b_104 => ?_) (fun b_104 => ?_)
      · skip
        refine jx_of (fun _ _ kz => jw_iincc 1 d_M_tellReapers_112 (by decide) rfl (Nat.le_of_ble_eq_true rfl) kz) ?_
        dsimp only [List.set]
        refine jx_of (fun _ _ kz => jw_goto 2 d_M_tellReapers_115 (by decide) kz) ?_
        rw [nI_1]
        first | exact ih (t + 1) _ _ _ _ (by omega) h2 | exact ih (t + 1) _ _ _ _ (by omega) h1
      · skip
        refine jx_of (fun _ _ kz => jw_aload_n 0 d_M_tellReapers_107 rfl rfl kz) ?_
        refine jx_of (fun _ _ kz => jw_iload_n 2 d_M_tellReapers_108 rfl rfl kz) ?_
        refine jx_callV (z_M_wakeUp d t nt X hm1  (by omega) h1.2.1.2.2.2.2 h1.2.1.2.2.2.1) mt_M_wakeUp cf_M rfl rfl ml_M_115 im_M_wakeUp se_M_wakeUp d_M_tellReapers_109 rfl rfl (Nat.le_of_ble_eq_true rfl) ?_
        rintro _ M2 ⟨rfl, q9, c9, t9⟩
        have h2 := iv_mc h1 q9 c9 t9
        refine jx_eq (st2 := []) rfl rfl rfl ?_
        refine jx_of (fun _ _ kz => jw_iincc 1 d_M_tellReapers_112 (by decide) rfl (Nat.le_of_ble_eq_true rfl) kz) ?_
        dsimp only [List.set]
        refine jx_of (fun _ _ kz => jw_goto 2 d_M_tellReapers_115 (by decide) kz) ?_
        rw [nI_1]
        first | exact ih (t + 1) _ _ _ _ (by omega) h2 | exact ih (t + 1) _ _ _ _ (by omega) h1
    refine jx_of (fun _ _ kz => jw_iload_n 2 d_M_tellReapers_2 rfl rfl kz) ?_
    refine jx_of (fun _ _ kz => jw_aload_n 0 d_M_tellReapers_3 rfl rfl kz) ?_
    refine jx_of (fun _ _ kz => jw_getIe (nI nt) fl_M_112 d_M_tellReapers_4 rfl rfl h1.2.1.2.2.1.1 kz) ?_
    refine jx_icmp_ge 118 d_M_tellReapers_7 (by decide) (fun h => absurd h (nI_ge (by omega) (by omega))) (fun _ => ?_)
    refine jx_of (fun _ _ kz => jw_iconst 0 d_M_tellReapers_10 (by decide) kz) ?_
    refine jx_of (fun _ _ kz => jw_istore_n 3 d_M_tellReapers_11 rfl (Nat.le_of_ble_eq_true rfl) kz) ?_
    dsimp only [List.set]
    refine jx_of (fun _ _ kz => jw_iconst 0 d_M_tellReapers_12 (by decide) kz) ?_
    refine jx_of (fun _ _ kz => jw_istore d_M_tellReapers_13 (Nat.le_of_ble_eq_true rfl) kz) ?_
    dsimp only [List.set]
    exact z_M_tr_in d t p len o u _ _ _ hm1 (by omega) hq h103 len 0 0 _ (by omega)
set_option maxRecDepth 20000 in
set_option maxHeartbeats 4000000 in
theorem z_M_tellReapers {G : Gt} {M : Me} (d : Nat) (u : Int32) (np : Nat) (nt : Nat) (X : List Nat) (hI : mI M np nt X) : sx G yt_M_tellReapers yn_M_tellReapers (d + 5) [.inr (some (7, 0)), .inl u] M (fun r M' => r = none ∧ iv np nt nt X M M') := by
  refine sx_of (k := 4) (lc := [some (.inr (some (7, 0))), some (.inl u), none, none, none, none]) mt_M_tellReapers (Nat.le_of_ble_eq_true rfl) rfl ?_
  refine jx_of (fun _ _ kz => jw_iconst 0 d_M_tellReapers_0 (by decide) kz) ?_
  refine jx_of (fun _ _ kz => jw_istore_n 2 d_M_tellReapers_1 rfl (Nat.le_of_ble_eq_true rfl) kz) ?_
  dsimp only [List.set]
  exact z_M_tr_out d np nt X u hI.2.2.1.2.1 _ _ nt 0 M none none none (by omega) (iv_rf hI)
set_option maxRecDepth 20000 in
set_option maxHeartbeats 4000000 in
theorem z_M_ends {G : Gt} {M : Me} (d : Nat) (t : Nat) (h : Int32) (v : Int32) (hm : mSh M) (ht : t < 12) : sx G yt_M_ends yn_M_ends (d + 1) [.inr (some (7, 0)), .inl (nI t), .inl h, .inl v] M (fun r M' => r = none ∧ (me_sI (me_sI M 33 0 t (h)) 34 0 t (v)) = M') := by
  refine sx_of (k := 0) (lc := [some (.inr (some (7, 0))), some (.inl (nI t)), some (.inl h), some (.inl v)]) mt_M_ends (Nat.le_of_ble_eq_true rfl) rfl ?_
  refine jx_of (fun _ _ kz => jw_aload_n 0 d_M_ends_0 rfl rfl kz) ?_
  refine jx_of (fun _ _ kz => jw_getPe (some (33, 0)) fl_M_19 d_M_ends_1 rfl rfl (by simp [me_I_sI, me_I_sP, me_I_nx, me_P_sI, me_P_sP, me_P_nx, me_N_sI, me_N_sP, me_N_nx, me_L_sI, me_L_sP, me_L_nx, show me_P M 7 0 4 = some (33, 0) from hm.1 (7, 0, 4, 33, 0) (by decide)]) kz) ?_
  refine jx_of (fun _ _ kz => jw_iload_n 1 d_M_ends_4 rfl rfl kz) ?_
  refine jx_of (fun _ _ kz => jw_iload_n 2 d_M_ends_5 rfl rfl kz) ?_
  refine jx_of (fun _ _ kz => jw_iast d_M_ends_6 rfl rfl (by rw [show me_L _ 33 0 = 12 from (by simp [me_I_sI, me_I_sP, me_I_nx, me_P_sI, me_P_sP, me_P_nx, me_N_sI, me_N_sP, me_N_nx, me_L_sI, me_L_sP, me_L_nx, show me_L M 33 0 = 12 from hm.2 (33, 0, 12) (by decide)])]; exact (vp_in_nI ht (by decide))) kz) ?_
  rw [nI_clamp (by omega)]
  refine jx_of (fun _ _ kz => jw_aload_n 0 d_M_ends_7 rfl rfl kz) ?_
  refine jx_of (fun _ _ kz => jw_getPe (some (34, 0)) fl_M_22 d_M_ends_8 rfl rfl (by simp [me_I_sI, me_I_sP, me_I_nx, me_P_sI, me_P_sP, me_P_nx, me_N_sI, me_N_sP, me_N_nx, me_L_sI, me_L_sP, me_L_nx, show me_P M 7 0 5 = some (34, 0) from hm.1 (7, 0, 5, 34, 0) (by decide)]) kz) ?_
  refine jx_of (fun _ _ kz => jw_iload_n 1 d_M_ends_11 rfl rfl kz) ?_
  refine jx_of (fun _ _ kz => jw_iload_n 3 d_M_ends_12 rfl rfl kz) ?_
  refine jx_of (fun _ _ kz => jw_iast d_M_ends_13 rfl rfl (by rw [show me_L _ 34 0 = 12 from (by simp [me_I_sI, me_I_sP, me_I_nx, me_P_sI, me_P_sP, me_P_nx, me_N_sI, me_N_sP, me_N_nx, me_L_sI, me_L_sP, me_L_nx, show me_L M 34 0 = 12 from hm.2 (34, 0, 12) (by decide)])]; exact (vp_in_nI ht (by decide))) kz) ?_
  rw [nI_clamp (by omega)]
  refine jx_vret d_M_ends_14 rfl ?_
  exact ⟨rfl, rfl⟩
