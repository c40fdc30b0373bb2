set_option maxRecDepth 20000 in
set_option maxHeartbeats 4000000 in
theorem z_M_add_x {G : Gt} {M : Me} (d g np nt : Nat) (X : List Nat) (many : Int32) (hg : g < 2) (c0 s0 : Nat) {M1 : Me} (lf ks : Int32) (o5 o6 : Option AV) (h1 : iv np nt nt X M M1) : jx G yt_M_add (d + 5) c0 s0 M1 128 [some (.inr (some (7, 0))), some (.inl (nI g)), some (.inl many), some (.inl lf), some (.inl ks), o5, o6] [] (fun r M' => r = none ∧ iv np nt nt X M M') := by
  have hm1 := h1.2.1.1
  refine jx_of (fun _ _ kz => jw_aload_n 0 d_M_add_128 rfl rfl kz) ?_
  refine jx_of (fun _ _ kz => jw_getPe (some (54, 0)) fl_M_83 d_M_add_129 rfl rfl (by simp [me_I_sI, me_I_sP, me_I_nx, me_P_sI, me_P_sP, me_P_nx, me_N_sI, me_N_sP, me_N_nx, me_L_sI, me_L_sP, me_L_nx, show me_P M1 7 0 25 = some (54, 0) from hm1.1 (7, 0, 25, 54, 0) (by decide)]) kz) ?_
  refine jx_of (fun _ _ kz => jw_iload_n 1 d_M_add_132 rfl rfl kz) ?_
  refine jx_of (fun _ _ kz => jw_dup2 d_M_add_133 kz) ?_
  refine jx_of (fun _ _ kz => jw_ialde (me_I M1 54 0 g) d_M_add_134 rfl rfl (by rw [show me_L _ 54 0 = 2 from (by simp [me_I_sI, me_I_sP, me_I_nx, me_P_sI, me_P_sP, me_P_nx, me_N_sI, me_N_sP, me_N_nx, me_L_sI, me_L_sP, me_L_nx, show me_L M1 54 0 = 2 from hm1.2 (54, 0, 2) (by decide)])]; exact (vp_in_nI hg (by decide))) (by rw [nI_clamp (by omega)]) kz) ?_
  refine jx_of (fun _ _ kz => jw_iload_n 3 d_M_add_135 rfl rfl kz) ?_
  refine jx_of (fun _ _ kz => jw_iadd d_M_add_136 kz) ?_
  refine jx_of (fun _ _ kz => jw_iast d_M_add_137 rfl rfl (by rw [show me_L _ 54 0 = 2 from (by simp [me_I_sI, me_I_sP, me_I_nx, me_P_sI, me_P_sP, me_P_nx, me_N_sI, me_N_sP, me_N_nx, me_L_sI, me_L_sP, me_L_nx, show me_L M1 54 0 = 2 from hm1.2 (54, 0, 2) (by decide)])]; exact (vp_in_nI hg (by decide))) kz) ?_
  rw [nI_clamp (by omega)]
  refine jx_vret d_M_add_138 rfl ?_
  exact ⟨rfl, iv_sI h1 (by unfold hl; omega)⟩
set_option maxRecDepth 20000 in
set_option maxHeartbeats 4000000 in
theorem z_M_add_e {G : Gt} {M : Me} (d g np nt : Nat) (X : List Nat) (many : Int32) (hg : g < 2) (c0 s0 : Nat) {M1 : Me} (lf : Int32) (o5 o6 : Option AV) (h1 : iv np nt nt X M M1) : jx G yt_M_add (d + 5) c0 s0 M1 10 [some (.inr (some (7, 0))), some (.inl (nI g)), some (.inl many), some (.inl lf), some (.inl (-1)), o5, o6] [] (fun r M' => r = none ∧ iv np nt nt X M M') := by
  have hm1 := h1.2.1.1
  refine jx_of (fun _ _ kz => jw_iload_n 3 d_M_add_10 rfl rfl kz) ?_
  refine jx_if_le 128 d_M_add_11 (by decide) (fun b_11 => ?_) (fun b_11 => ?_)
  · skip
    exact z_M_add_x d g np nt X many hg _ _ lf (-1) o5 o6 h1
  · skip
    refine jx_of (fun _ _ kz => jw_iload d_M_add_14 rfl kz) ?_
    refine jx_if_lt 128 d_M_add_16 (by decide) (fun _ => ?_) (fun h => absurd h (by decide))
    exact z_M_add_x d g np nt X many hg _ _ lf (-1) o5 o6 h1
set_option maxRecDepth 20000 in
set_option maxHeartbeats 4000000 in
theorem z_M_add_loop {G : Gt} {M : Me} (d g np nt : Nat) (X : List Nat) (many : Int32) (hg : g < 2) (c0 s0 : Nat) : ∀ (m : Nat) (M1 : Me) (lf ks : Int32) (o5 o6 : Option AV), wn M1 144 < m → iv np nt nt X M M1 → (ks = -1 ∨ ∃ b, b < 12 * nt ∧ ks = nI b ∧ ¬ me_I M1 44 0 b = 0) → jx G yt_M_add (d + 5) c0 s0 M1 10 [some (.inr (some (7, 0))), some (.inl (nI g)), some (.inl many), some (.inl lf), some (.inl ks), o5, o6] [] (fun r M' => r = none ∧ iv np nt nt X M M') := by
  intro m
  induction m with
  | zero =>
    intro M1 lf ks o5 o6 hm
    omega
  | succ m ih =>
    intro M1 lf ks o5 o6 hm h1 hb
    have hm1 := h1.2.1.1
    refine jx_of (fun _ _ kz => jw_iload_n 3 d_M_add_10 rfl rfl kz) ?_
    refine jx_if_le 128 d_M_add_11 (by decide) (fun b_11 => ?_) (fun b_11 => ?_)
    · skip
      exact z_M_add_x d g np nt X many hg _ _ lf ks o5 o6 h1
    · skip
      refine jx_of (fun _ _ kz => jw_iload d_M_add_14 rfl kz) ?_
      refine jx_if_lt 128 d_M_add_16 (by decide) (fun b_16 => ?_) (fun b_16 => ?_)
      · skip
        exact z_M_add_x d g np nt X many hg _ _ lf ks o5 o6 h1
      · skip
        obtain ⟨b, hb1, rfl, hb3⟩ := hb.resolve_left (fun q => b_16 (by rw [q]; decide))
        obtain ⟨p, hp1, hp2⟩ := h1.2.1.2.2.1.2.2 (b / 12) (by omega)
        have hnt := h1.2.1.2.2.1.2.1
        have hnp := h1.2.1.2.1.2.1
        refine jx_of (fun _ _ kz => jw_aload_n 0 d_M_add_19 rfl rfl kz) ?_
        refine jx_of (fun _ _ kz => jw_iload d_M_add_20 rfl kz) ?_
        refine jx_of (fun _ _ kz => jw_bipush 12 d_M_add_22 (by decide) kz) ?_
        refine jx_of (fun _ _ kz => jw_idiv d_M_add_24 (by decide) kz) ?_
        rw [show ((nI b) / 12 : Int32) = nI (b / 12) from pk_div (by omega) (by decide) (by decide)]
        refine jx_of (fun _ _ kz => jw_iload d_M_add_25 rfl kz) ?_
        refine jx_of (fun _ _ kz => jw_bipush 12 d_M_add_27 (by decide) kz) ?_
        refine jx_of (fun _ _ kz => jw_irem d_M_add_29 (by decide) kz) ?_
        rw [show ((nI b) - (nI b) / 12 * 12 : Int32) = nI (b % 12) from pk_rem (by omega) (by decide) (by decide)]
        refine jx_callV (z_M_argOf (d + 3) ((b / 12)) ((b % 12)) p hm1  (by omega) (by omega) hp2 (by omega)) mt_M_argOf cf_M rfl rfl ml_M_132 im_M_argOf se_M_argOf d_M_add_30 rfl rfl (Nat.le_of_ble_eq_true rfl) ?_
        rintro _ _ ⟨rfl, rfl⟩
        refine jx_eq (st2 := [.inl (me_I M1 31 0 (12 * p + (b % 12)))]) rfl rfl rfl ?_
        refine jx_callS (z_M_wants (d + 3) ((me_I M1 31 0 (12 * p + (b % 12))))) mt_M_wants ml_M_138 sm_M_wants d_M_add_33 rfl rfl (Nat.le_of_ble_eq_true rfl) ?_
        rintro _ _ ⟨rfl, rfl⟩
        refine jx_eq (st2 := [.inl (1 + ((me_I M1 31 0 (12 * p + (b % 12))) / 2))]) rfl rfl rfl ?_
        refine jx_of (fun _ _ kz => jw_aload_n 0 d_M_add_36 rfl rfl kz) ?_
        refine jx_of (fun _ _ kz => jw_getPe (some (42, 0)) fl_M_47 d_M_add_37 rfl rfl (by simp [me_I_sI, me_I_sP, me_I_nx, me_P_sI, me_P_sP, me_P_nx, me_N_sI, me_N_sP, me_N_nx, me_L_sI, me_L_sP, me_L_nx, show me_P M1 7 0 13 = some (42, 0) from hm1.1 (7, 0, 13, 42, 0) (by decide)]) kz) ?_
        refine jx_of (fun _ _ kz => jw_iload d_M_add_40 rfl kz) ?_
        refine jx_of (fun _ _ kz => jw_ialde (me_I M1 42 0 b) d_M_add_42 rfl rfl (by rw [show me_L _ 42 0 = 144 from (by simp [me_I_sI, me_I_sP, me_I_nx, me_P_sI, me_P_sP, me_P_nx, me_N_sI, me_N_sP, me_N_nx, me_L_sI, me_L_sP, me_L_nx, show me_L M1 42 0 = 144 from hm1.2 (42, 0, 144) (by decide)])]; exact (vp_in_nI (by omega) (by decide))) (by rw [nI_clamp (by omega)]) kz) ?_
        refine jx_of (fun _ _ kz => jw_isub d_M_add_43 kz) ?_
        refine jx_of (fun _ _ kz => jw_istore d_M_add_44 (Nat.le_of_ble_eq_true rfl) kz) ?_
        dsimp only [List.set]
        generalize 1 + me_I M1 31 0 (12 * p + b % 12) / 2 - me_I M1 42 0 b = rs
        refine jx_of (fun _ _ kz => jw_iload d_M_add_46 rfl kz) ?_
        refine jx_of (fun _ _ kz => jw_iload_n 3 d_M_add_48 rfl rfl kz) ?_
        refine jx_icmp_ge 57 d_M_add_49 (by decide) (fun b_49 => ?_) (fun b_49 => ?_)
        · skip
          refine jx_of (fun _ _ kz => jw_iload_n 3 d_M_add_57 rfl rfl kz) ?_
          refine jx_of (fun _ _ kz => jw_istore d_M_add_58 (Nat.le_of_ble_eq_true rfl) kz) ?_
          dsimp only [List.set]
          refine jx_of (fun _ _ kz => jw_aload_n 0 d_M_add_60 rfl rfl kz) ?_
          refine jx_of (fun _ _ kz => jw_getPe (some (42, 0)) fl_M_47 d_M_add_61 rfl rfl (by simp [me_I_sI, me_I_sP, me_I_nx, me_P_sI, me_P_sP, me_P_nx, me_N_sI, me_N_sP, me_N_nx, me_L_sI, me_L_sP, me_L_nx, show me_P M1 7 0 13 = some (42, 0) from hm1.1 (7, 0, 13, 42, 0) (by decide)]) kz) ?_
          refine jx_of (fun _ _ kz => jw_iload d_M_add_64 rfl kz) ?_
          refine jx_of (fun _ _ kz => jw_dup2 d_M_add_66 kz) ?_
          refine jx_of (fun _ _ kz => jw_ialde (me_I M1 42 0 b) d_M_add_67 rfl rfl (by rw [show me_L _ 42 0 = 144 from (by simp [me_I_sI, me_I_sP, me_I_nx, me_P_sI, me_P_sP, me_P_nx, me_N_sI, me_N_sP, me_N_nx, me_L_sI, me_L_sP, me_L_nx, show me_L M1 42 0 = 144 from hm1.2 (42, 0, 144) (by decide)])]; exact (vp_in_nI (by omega) (by decide))) (by rw [nI_clamp (by omega)]) kz) ?_
          refine jx_of (fun _ _ kz => jw_iload d_M_add_68 rfl kz) ?_
          refine jx_of (fun _ _ kz => jw_iadd d_M_add_70 kz) ?_
          refine jx_of (fun _ _ kz => jw_iast d_M_add_71 rfl rfl (by rw [show me_L _ 42 0 = 144 from (by simp [me_I_sI, me_I_sP, me_I_nx, me_P_sI, me_P_sP, me_P_nx, me_N_sI, me_N_sP, me_N_nx, me_L_sI, me_L_sP, me_L_nx, show me_L M1 42 0 = 144 from hm1.2 (42, 0, 144) (by decide)])]; exact (vp_in_nI (by omega) (by decide))) kz) ?_
          rw [nI_clamp (by omega)]
          refine jx_of (fun _ _ kz => jw_iload_n 3 d_M_add_72 rfl rfl kz) ?_
          refine jx_of (fun _ _ kz => jw_iload d_M_add_73 rfl kz) ?_
          refine jx_of (fun _ _ kz => jw_isub d_M_add_75 kz) ?_
          refine jx_of (fun _ _ kz => jw_istore_n 3 d_M_add_76 rfl (Nat.le_of_ble_eq_true rfl) kz) ?_
          dsimp only [List.set]
          refine jx_of (fun _ _ kz => jw_iload d_M_add_77 rfl kz) ?_
          refine jx_of (fun _ _ kz => jw_iload d_M_add_79 rfl kz) ?_
          refine jx_icmp_ne 109 d_M_add_81 (by decide) (fun b_81 => ?_) (fun b_81 => ?_)
          · skip
            refine jx_of (fun _ _ kz => jw_iload_n 3 d_M_add_109 rfl rfl kz) ?_
            refine jx_if_le 122 d_M_add_110 (by decide) (fun b_110 => ?_) (fun b_110 => ?_)
            · skip
              refine jx_of (fun _ _ kz => jw_iconst (-1) d_M_add_122 (by decide) kz) ?_
              refine jx_of (fun _ _ kz => jw_istore d_M_add_123 (Nat.le_of_ble_eq_true rfl) kz) ?_
              dsimp only [List.set]
              refine jx_of (fun _ _ kz => jw_goto 10 d_M_add_125 (by decide) kz) ?_
              first | exact absurd rfl b_81 | exact absurd (by rw [Int32.sub_self]; decide) b_110 | exact z_M_add_e d g np nt X many hg _ _ _ _ _ h3 | exact z_M_add_e d g np nt X many hg _ _ _ _ _ (iv_sI h1 (by unfold hl; omega)) | exact ih _ _ b2 _ _ (by omega) h3 hb2
            · skip
              refine jx_of (fun _ _ kz => jw_aload_n 0 d_M_add_113 rfl rfl kz) ?_
              refine jx_of (fun _ _ kz => jw_iconst 3 d_M_add_114 (by decide) kz) ?_
              refine jx_of (fun _ _ kz => jw_iload_n 1 d_M_add_115 rfl rfl kz) ?_
              refine jx_callV (z_M_firstAt (d + 2) 3 ((nI g)) np nt (by first | exact h3.2.1.1 | exact (iv_sI h1 (by unfold hl; omega)).2.1.1)  (by first | exact h3.2.1.2.1 | exact (iv_sI h1 (by unfold hl; omega)).2.1.2.1) (by first | exact h3.2.1.2.2.1 | exact (iv_sI h1 (by unfold hl; omega)).2.1.2.2.1)) mt_M_firstAt cf_M rfl rfl ml_M_135 im_M_firstAt se_M_firstAt d_M_add_116 rfl rfl (Nat.le_of_ble_eq_true rfl) ?_
              rintro _ _ ⟨⟨b2, rfl, hb2⟩, rfl⟩
              refine jx_eq (st2 := [.inl b2]) rfl rfl rfl ?_
              refine jx_of (fun _ _ kz => jw_goto 123 d_M_add_119 (by decide) kz) ?_
              refine jx_of (fun _ _ kz => jw_istore d_M_add_123 (Nat.le_of_ble_eq_true rfl) kz) ?_
              dsimp only [List.set]
              refine jx_of (fun _ _ kz => jw_goto 10 d_M_add_125 (by decide) kz) ?_
              first | exact absurd rfl b_81 | exact absurd (by rw [Int32.sub_self]; decide) b_110 | exact z_M_add_e d g np nt X many hg _ _ _ _ _ h3 | exact z_M_add_e d g np nt X many hg _ _ _ _ _ (iv_sI h1 (by unfold hl; omega)) | exact ih _ _ b2 _ _ (by omega) h3 hb2
          · skip
            refine jx_of (fun _ _ kz => jw_aload_n 0 d_M_add_84 rfl rfl kz) ?_
            refine jx_of (fun _ _ kz => jw_getPe (some (44, 0)) fl_M_53 d_M_add_85 rfl rfl (by simp [me_I_sI, me_I_sP, me_I_nx, me_P_sI, me_P_sP, me_P_nx, me_N_sI, me_N_sP, me_N_nx, me_L_sI, me_L_sP, me_L_nx, show me_P M1 7 0 15 = some (44, 0) from hm1.1 (7, 0, 15, 44, 0) (by decide)]) kz) ?_
            refine jx_of (fun _ _ kz => jw_iload d_M_add_88 rfl kz) ?_
            refine jx_of (fun _ _ kz => jw_iconst 0 d_M_add_90 (by decide) kz) ?_
            refine jx_of (fun _ _ kz => jw_zast d_M_add_91 rfl rfl (by rw [show me_L _ 44 0 = 144 from (by simp [me_I_sI, me_I_sP, me_I_nx, me_P_sI, me_P_sP, me_P_nx, me_N_sI, me_N_sP, me_N_nx, me_L_sI, me_L_sP, me_L_nx, show me_L M1 44 0 = 144 from hm1.2 (44, 0, 144) (by decide)])]; exact (vp_in_nI (by omega) (by decide))) (by decide) kz) ?_
            rw [nI_clamp (by omega)]
            refine jx_of (fun _ _ kz => jw_aload_n 0 d_M_add_92 rfl rfl kz) ?_
            refine jx_of (fun _ _ kz => jw_getPe (some (45, 0)) fl_M_56 d_M_add_93 rfl rfl (by simp [me_I_sI, me_I_sP, me_I_nx, me_P_sI, me_P_sP, me_P_nx, me_N_sI, me_N_sP, me_N_nx, me_L_sI, me_L_sP, me_L_nx, show me_P M1 7 0 16 = some (45, 0) from hm1.1 (7, 0, 16, 45, 0) (by decide)]) kz) ?_
            refine jx_of (fun _ _ kz => jw_iload d_M_add_96 rfl kz) ?_
            refine jx_of (fun _ _ kz => jw_iconst 1 d_M_add_98 (by decide) kz) ?_
            refine jx_of (fun _ _ kz => jw_zast d_M_add_99 rfl rfl (by rw [show me_L _ 45 0 = 144 from (by simp [me_I_sI, me_I_sP, me_I_nx, me_P_sI, me_P_sP, me_P_nx, me_N_sI, me_N_sP, me_N_nx, me_L_sI, me_L_sP, me_L_nx, show me_L M1 45 0 = 144 from hm1.2 (45, 0, 144) (by decide)])]; exact (vp_in_nI (by omega) (by decide))) (by decide) kz) ?_
            rw [nI_clamp (by omega)]
            refine jx_of (fun _ _ kz => jw_aload_n 0 d_M_add_100 rfl rfl kz) ?_
            refine jx_of (fun _ _ kz => jw_iload d_M_add_101 rfl kz) ?_
            refine jx_of (fun _ _ kz => jw_bipush 12 d_M_add_103 (by decide) kz) ?_
            refine jx_of (fun _ _ kz => jw_idiv d_M_add_105 (by decide) kz) ?_
            rw [show ((nI b) / 12 : Int32) = nI (b / 12) from pk_div (by omega) (by decide) (by decide)]
            refine jx_callV (z_M_wakeUp d ((b / 12)) nt X (iv_sI (iv_sI (iv_sI h1 (by unfold hl; omega)) (by unfold hl; omega)) (by unfold hl; omega)).2.1.1  (by omega) (iv_sI (iv_sI (iv_sI h1 (by unfold hl; omega)) (by unfold hl; omega)) (by unfold hl; omega)).2.1.2.2.2.2 (iv_sI (iv_sI (iv_sI h1 (by unfold hl; omega)) (by unfold hl; omega)) (by unfold hl; omega)).2.1.2.2.2.1) mt_M_wakeUp cf_M rfl rfl ml_M_115 im_M_wakeUp se_M_wakeUp d_M_add_106 rfl rfl (Nat.le_of_ble_eq_true rfl) ?_
            rintro _ M3 ⟨rfl, q3, c3, t3⟩
            have h3 := iv_mc (iv_sI (iv_sI (iv_sI h1 (by unfold hl; omega)) (by unfold hl; omega)) (by unfold hl; omega)) q3 c3 t3
            have e3 : wn M3 144 + 1 = wn M1 144 := (wn_lt hb3 (by rw [c3.2 44 0 b (by unfold kp; omega)]; simp [me_I_sI]) (fun k hk => by rw [c3.2 44 0 k (by unfold kp; omega)]; simp [me_I_sI, hk]) 144).1 (by omega)
            refine jx_eq (st2 := []) rfl rfl rfl ?_
            refine jx_of (fun _ _ kz => jw_iload_n 3 d_M_add_109 rfl rfl kz) ?_
            refine jx_if_le 122 d_M_add_110 (by decide) (fun b_110 => ?_) (fun b_110 => ?_)
            · skip
              refine jx_of (fun _ _ kz => jw_iconst (-1) d_M_add_122 (by decide) kz) ?_
              refine jx_of (fun _ _ kz => jw_istore d_M_add_123 (Nat.le_of_ble_eq_true rfl) kz) ?_
              dsimp only [List.set]
              refine jx_of (fun _ _ kz => jw_goto 10 d_M_add_125 (by decide) kz) ?_
              first | exact absurd rfl b_81 | exact absurd (by rw [Int32.sub_self]; decide) b_110 | exact z_M_add_e d g np nt X many hg _ _ _ _ _ h3 | exact z_M_add_e d g np nt X many hg _ _ _ _ _ (iv_sI h1 (by unfold hl; omega)) | exact ih _ _ b2 _ _ (by omega) h3 hb2
            · skip
              refine jx_of (fun _ _ kz => jw_aload_n 0 d_M_add_113 rfl rfl kz) ?_
              refine jx_of (fun _ _ kz => jw_iconst 3 d_M_add_114 (by decide) kz) ?_
              refine jx_of (fun _ _ kz => jw_iload_n 1 d_M_add_115 rfl rfl kz) ?_
              refine jx_callV (z_M_firstAt (d + 2) 3 ((nI g)) np nt (by first | exact h3.2.1.1 | exact (iv_sI h1 (by unfold hl; omega)).2.1.1)  (by first | exact h3.2.1.2.1 | exact (iv_sI h1 (by unfold hl; omega)).2.1.2.1) (by first | exact h3.2.1.2.2.1 | exact (iv_sI h1 (by unfold hl; omega)).2.1.2.2.1)) mt_M_firstAt cf_M rfl rfl ml_M_135 im_M_firstAt se_M_firstAt d_M_add_116 rfl rfl (Nat.le_of_ble_eq_true rfl) ?_
              rintro _ _ ⟨⟨b2, rfl, hb2⟩, rfl⟩
              refine jx_eq (st2 := [.inl b2]) rfl rfl rfl ?_
              refine jx_of (fun _ _ kz => jw_goto 123 d_M_add_119 (by decide) kz) ?_
              refine jx_of (fun _ _ kz => jw_istore d_M_add_123 (Nat.le_of_ble_eq_true rfl) kz) ?_
              dsimp only [List.set]
              refine jx_of (fun _ _ kz => jw_goto 10 d_M_add_125 (by decide) kz) ?_
              first | exact absurd rfl b_81 | exact absurd (by rw [Int32.sub_self]; decide) b_110 | exact z_M_add_e d g np nt X many hg _ _ _ _ _ h3 | exact z_M_add_e d g np nt X many hg _ _ _ _ _ (iv_sI h1 (by unfold hl; omega)) | exact ih _ _ b2 _ _ (by omega) h3 hb2
        · skip
          refine jx_of (fun _ _ kz => jw_iload d_M_add_52 rfl kz) ?_
          refine jx_of (fun _ _ kz => jw_goto 58 d_M_add_54 (by decide) kz) ?_
          refine jx_of (fun _ _ kz => jw_istore d_M_add_58 (Nat.le_of_ble_eq_true rfl) kz) ?_
          dsimp only [List.set]
          refine jx_of (fun _ _ kz => jw_aload_n 0 d_M_add_60 rfl rfl kz) ?_
          refine jx_of (fun _ _ kz => jw_getPe (some (42, 0)) fl_M_47 d_M_add_61 rfl rfl (by simp [me_I_sI, me_I_sP, me_I_nx, me_P_sI, me_P_sP, me_P_nx, me_N_sI, me_N_sP, me_N_nx, me_L_sI, me_L_sP, me_L_nx, show me_P M1 7 0 13 = some (42, 0) from hm1.1 (7, 0, 13, 42, 0) (by decide)]) kz) ?_
          refine jx_of (fun _ _ kz => jw_iload d_M_add_64 rfl kz) ?_
          refine jx_of (fun _ _ kz => jw_dup2 d_M_add_66 kz) ?_
          refine jx_of (fun _ _ kz => jw_ialde (me_I M1 42 0 b) d_M_add_67 rfl rfl (by rw [show me_L _ 42 0 = 144 from (by simp [me_I_sI, me_I_sP, me_I_nx, me_P_sI, me_P_sP, me_P_nx, me_N_sI, me_N_sP, me_N_nx, me_L_sI, me_L_sP, me_L_nx, show me_L M1 42 0 = 144 from hm1.2 (42, 0, 144) (by decide)])]; exact (vp_in_nI (by omega) (by decide))) (by rw [nI_clamp (by omega)]) kz) ?_
          refine jx_of (fun _ _ kz => jw_iload d_M_add_68 rfl kz) ?_
          refine jx_of (fun _ _ kz => jw_iadd d_M_add_70 kz) ?_
          refine jx_of (fun _ _ kz => jw_iast d_M_add_71 rfl rfl (by rw [show me_L _ 42 0 = 144 from (by simp [me_I_sI, me_I_sP, me_I_nx, me_P_sI, me_P_sP, me_P_nx, me_N_sI, me_N_sP, me_N_nx, me_L_sI, me_L_sP, me_L_nx, show me_L M1 42 0 = 144 from hm1.2 (42, 0, 144) (by decide)])]; exact (vp_in_nI (by omega) (by decide))) kz) ?_
          rw [nI_clamp (by omega)]
          refine jx_of (fun _ _ kz => jw_iload_n 3 d_M_add_72 rfl rfl kz) ?_
          refine jx_of (fun _ _ kz => jw_iload d_M_add_73 rfl kz) ?_
          refine jx_of (fun _ _ kz => jw_isub d_M_add_75 kz) ?_
          refine jx_of (fun _ _ kz => jw_istore_n 3 d_M_add_76 rfl (Nat.le_of_ble_eq_true rfl) kz) ?_
          dsimp only [List.set]
          refine jx_of (fun _ _ kz => jw_iload d_M_add_77 rfl kz) ?_
          refine jx_of (fun _ _ kz => jw_iload d_M_add_79 rfl kz) ?_
          refine jx_icmp_ne 109 d_M_add_81 (by decide) (fun b_81 => ?_) (fun b_81 => ?_)
          · skip
            refine jx_of (fun _ _ kz => jw_iload_n 3 d_M_add_109 rfl rfl kz) ?_
            refine jx_if_le 122 d_M_add_110 (by decide) (fun b_110 => ?_) (fun b_110 => ?_)
            · skip
              refine jx_of (fun _ _ kz => jw_iconst (-1) d_M_add_122 (by decide) kz) ?_
              refine jx_of (fun _ _ kz => jw_istore d_M_add_123 (Nat.le_of_ble_eq_true rfl) kz) ?_
              dsimp only [List.set]
              refine jx_of (fun _ _ kz => jw_goto 10 d_M_add_125 (by decide) kz) ?_
              first | exact absurd rfl b_81 | exact absurd (by rw [Int32.sub_self]; decide) b_110 | exact z_M_add_e d g np nt X many hg _ _ _ _ _ h3 | exact z_M_add_e d g np nt X many hg _ _ _ _ _ (iv_sI h1 (by unfold hl; omega)) | exact ih _ _ b2 _ _ (by omega) h3 hb2
            · skip
              refine jx_of (fun _ _ kz => jw_aload_n 0 d_M_add_113 rfl rfl kz) ?_
              refine jx_of (fun _ _ kz => jw_iconst 3 d_M_add_114 (by decide) kz) ?_
              refine jx_of (fun _ _ kz => jw_iload_n 1 d_M_add_115 rfl rfl kz) ?_
              refine jx_callV (z_M_firstAt (d + 2) 3 ((nI g)) np nt (by first | exact h3.2.1.1 | exact (iv_sI h1 (by unfold hl; omega)).2.1.1)  (by first | exact h3.2.1.2.1 | exact (iv_sI h1 (by unfold hl; omega)).2.1.2.1) (by first | exact h3.2.1.2.2.1 | exact (iv_sI h1 (by unfold hl; omega)).2.1.2.2.1)) mt_M_firstAt cf_M rfl rfl ml_M_135 im_M_firstAt se_M_firstAt d_M_add_116 rfl rfl (Nat.le_of_ble_eq_true rfl) ?_
              rintro _ _ ⟨⟨b2, rfl, hb2⟩, rfl⟩
              refine jx_eq (st2 := [.inl b2]) rfl rfl rfl ?_
              refine jx_of (fun _ _ kz => jw_goto 123 d_M_add_119 (by decide) kz) ?_
              refine jx_of (fun _ _ kz => jw_istore d_M_add_123 (Nat.le_of_ble_eq_true rfl) kz) ?_
              dsimp only [List.set]
              refine jx_of (fun _ _ kz => jw_goto 10 d_M_add_125 (by decide) kz) ?_
              first | exact absurd rfl b_81 | exact absurd (by rw [Int32.sub_self]; decide) b_110 | exact z_M_add_e d g np nt X many hg _ _ _ _ _ h3 | exact z_M_add_e d g np nt X many hg _ _ _ _ _ (iv_sI h1 (by unfold hl; omega)) | exact ih _ _ b2 _ _ (by omega) h3 hb2
          · skip
            refine jx_of (fun _ _ kz => jw_aload_n 0 d_M_add_84 rfl rfl kz) ?_
            refine jx_of (fun _ _ kz => jw_getPe (some (44, 0)) fl_M_53 d_M_add_85 rfl rfl (by simp [me_I_sI, me_I_sP, me_I_nx, me_P_sI, me_P_sP, me_P_nx, me_N_sI, me_N_sP, me_N_nx, me_L_sI, me_L_sP, me_L_nx, show me_P M1 7 0 15 = some (44, 0) from hm1.1 (7, 0, 15, 44, 0) (by decide)]) kz) ?_
            refine jx_of (fun _ _ kz => jw_iload d_M_add_88 rfl kz) ?_
            refine jx_of (fun _ _ kz => jw_iconst 0 d_M_add_90 (by decide) kz) ?_
            refine jx_of (fun _ _ kz => jw_zast d_M_add_91 rfl rfl (by rw [show me_L _ 44 0 = 144 from (by simp [me_I_sI, me_I_sP, me_I_nx, me_P_sI, me_P_sP, me_P_nx, me_N_sI, me_N_sP, me_N_nx, me_L_sI, me_L_sP, me_L_nx, show me_L M1 44 0 = 144 from hm1.2 (44, 0, 144) (by decide)])]; exact (vp_in_nI (by omega) (by decide))) (by decide) kz) ?_
            rw [nI_clamp (by omega)]
            refine jx_of (fun _ _ kz => jw_aload_n 0 d_M_add_92 rfl rfl kz) ?_
            refine jx_of (fun _ _ kz => jw_getPe (some (45, 0)) fl_M_56 d_M_add_93 rfl rfl (by simp [me_I_sI, me_I_sP, me_I_nx, me_P_sI, me_P_sP, me_P_nx, me_N_sI, me_N_sP, me_N_nx, me_L_sI, me_L_sP, me_L_nx, show me_P M1 7 0 16 = some (45, 0) from hm1.1 (7, 0, 16, 45, 0) (by decide)]) kz) ?_
            refine jx_of (fun _ _ kz => jw_iload d_M_add_96 rfl kz) ?_
            refine jx_of (fun _ _ kz => jw_iconst 1 d_M_add_98 (by decide) kz) ?_
            refine jx_of (fun _ _ kz => jw_zast d_M_add_99 rfl rfl (by rw [show me_L _ 45 0 = 144 from (by simp [me_I_sI, me_I_sP, me_I_nx, me_P_sI, me_P_sP, me_P_nx, me_N_sI, me_N_sP, me_N_nx, me_L_sI, me_L_sP, me_L_nx, show me_L M1 45 0 = 144 from hm1.2 (45, 0, 144) (by decide)])]; exact (vp_in_nI (by omega) (by decide))) (by decide) kz) ?_
            rw [nI_clamp (by omega)]
            refine jx_of (fun _ _ kz => jw_aload_n 0 d_M_add_100 rfl rfl kz) ?_
            refine jx_of (fun _ _ kz => jw_iload d_M_add_101 rfl kz) ?_
            refine jx_of (fun _ _ kz => jw_bipush 12 d_M_add_103 (by decide) kz) ?_
            refine jx_of (fun _ _ kz => jw_idiv d_M_add_105 (by decide) kz) ?_
            rw [show ((nI b) / 12 : Int32) = nI (b / 12) from pk_div (by omega) (by decide) (by decide)]
            refine jx_callV (z_M_wakeUp d ((b / 12)) nt X (iv_sI (iv_sI (iv_sI h1 (by unfold hl; omega)) (by unfold hl; omega)) (by unfold hl; omega)).2.1.1  (by omega) (iv_sI (iv_sI (iv_sI h1 (by unfold hl; omega)) (by unfold hl; omega)) (by unfold hl; omega)).2.1.2.2.2.2 (iv_sI (iv_sI (iv_sI h1 (by unfold hl; omega)) (by unfold hl; omega)) (by unfold hl; omega)).2.1.2.2.2.1) mt_M_wakeUp cf_M rfl rfl ml_M_115 im_M_wakeUp se_M_wakeUp d_M_add_106 rfl rfl (Nat.le_of_ble_eq_true rfl) ?_
            rintro _ M3 ⟨rfl, q3, c3, t3⟩
            have h3 := iv_mc (iv_sI (iv_sI (iv_sI h1 (by unfold hl; omega)) (by unfold hl; omega)) (by unfold hl; omega)) q3 c3 t3
            have e3 : wn M3 144 + 1 = wn M1 144 := (wn_lt hb3 (by rw [c3.2 44 0 b (by unfold kp; omega)]; simp [me_I_sI]) (fun k hk => by rw [c3.2 44 0 k (by unfold kp; omega)]; simp [me_I_sI, hk]) 144).1 (by omega)
            refine jx_eq (st2 := []) rfl rfl rfl ?_
            refine jx_of (fun _ _ kz => jw_iload_n 3 d_M_add_109 rfl rfl kz) ?_
            refine jx_if_le 122 d_M_add_110 (by decide) (fun b_110 => ?_) (fun b_110 => ?_)
            · skip
              refine jx_of (fun _ _ kz => jw_iconst (-1) d_M_add_122 (by decide) kz) ?_
              refine jx_of (fun _ _ kz => jw_istore d_M_add_123 (Nat.le_of_ble_eq_true rfl) kz) ?_
              dsimp only [List.set]
              refine jx_of (fun _ _ kz => jw_goto 10 d_M_add_125 (by decide) kz) ?_
              first | exact absurd rfl b_81 | exact absurd (by rw [Int32.sub_self]; decide) b_110 | exact z_M_add_e d g np nt X many hg _ _ _ _ _ h3 | exact z_M_add_e d g np nt X many hg _ _ _ _ _ (iv_sI h1 (by unfold hl; omega)) | exact ih _ _ b2 _ _ (by omega) h3 hb2
            · skip
              refine jx_of (fun _ _ kz => jw_aload_n 0 d_M_add_113 rfl rfl kz) ?_
              refine jx_of (fun _ _ kz => jw_iconst 3 d_M_add_114 (by decide) kz) ?_
              refine jx_of (fun _ _ kz => jw_iload_n 1 d_M_add_115 rfl rfl kz) ?_
              refine jx_callV (z_M_firstAt (d + 2) 3 ((nI g)) np nt (by first | exact h3.2.1.1 | exact (iv_sI h1 (by unfold hl; omega)).2.1.1)  (by first | exact h3.2.1.2.1 | exact (iv_sI h1 (by unfold hl; omega)).2.1.2.1) (by first | exact h3.2.1.2.2.1 | exact (iv_sI h1 (by unfold hl; omega)).2.1.2.2.1)) mt_M_firstAt cf_M rfl rfl ml_M_135 im_M_firstAt se_M_firstAt d_M_add_116 rfl rfl (Nat.le_of_ble_eq_true rfl) ?_
              rintro _ _ ⟨⟨b2, rfl, hb2⟩, rfl⟩
              refine jx_eq (st2 := [.inl b2]) rfl rfl rfl ?_
              refine jx_of (fun _ _ kz => jw_goto 123 d_M_add_119 (by decide) kz) ?_
              refine jx_of (fun _ _ kz => jw_istore d_M_add_123 (Nat.le_of_ble_eq_true rfl) kz) ?_
              dsimp only [List.set]
              refine jx_of (fun _ _ kz => jw_goto 10 d_M_add_125 (by decide) kz) ?_
              first | exact absurd rfl b_81 | exact absurd (by rw [Int32.sub_self]; decide) b_110 | exact z_M_add_e d g np nt X many hg _ _ _ _ _ h3 | exact z_M_add_e d g np nt X many hg _ _ _ _ _ (iv_sI h1 (by unfold hl; omega)) | exact ih _ _ b2 _ _ (by omega) h3 hb2
set_option maxRecDepth 20000 in
set_option maxHeartbeats 4000000 in
theorem z_M_add {G : Gt} {M : Me} (d : Nat) (g : Nat) (many : Int32) (np : Nat) (nt : Nat) (X : List Nat) (hI : mI M np nt X) (hg : g < 2) : sx G yt_M_add yn_M_add (d + 5) [.inr (some (7, 0)), .inl (nI g), .inl many] M (fun r M' => r = none ∧ iv np nt nt X M M') := by
  refine sx_of (k := 4) (lc := [some (.inr (some (7, 0))), some (.inl (nI g)), some (.inl many), none, none, none, none]) mt_M_add (Nat.le_of_ble_eq_true rfl) rfl ?_
  refine jx_of (fun _ _ kz => jw_iload_n 2 d_M_add_0 rfl rfl kz) ?_
  refine jx_of (fun _ _ kz => jw_istore_n 3 d_M_add_1 rfl (Nat.le_of_ble_eq_true rfl) kz) ?_
  dsimp only [List.set]
  refine jx_of (fun _ _ kz => jw_aload_n 0 d_M_add_2 rfl rfl kz) ?_
  refine jx_of (fun _ _ kz => jw_iconst 3 d_M_add_3 (by decide) kz) ?_
  refine jx_of (fun _ _ kz => jw_iload_n 1 d_M_add_4 rfl rfl kz) ?_
  refine jx_callV (z_M_firstAt (d + 2) 3 ((nI g)) np nt hI.1  hI.2.1 hI.2.2.1) mt_M_firstAt cf_M rfl rfl ml_M_135 im_M_firstAt se_M_firstAt d_M_add_5 rfl rfl (Nat.le_of_ble_eq_true rfl) ?_
  rintro _ _ ⟨⟨ks, rfl, hb⟩, rfl⟩
  refine jx_eq (st2 := [.inl ks]) rfl rfl rfl ?_
  refine jx_of (fun _ _ kz => jw_istore d_M_add_8 (Nat.le_of_ble_eq_true rfl) kz) ?_
  dsimp only [List.set]
  exact z_M_add_loop d g np nt X many hg _ _ (wn M 144 + 1) M many ks none none (by omega) (iv_rf hI) hb
set_option maxRecDepth 20000 in
set_option maxHeartbeats 4000000 in
theorem z_M_give {G : Gt} {M : Me} (d : Nat) (g : Nat) (np : Nat) (nt : Nat) (X : List Nat) (hI : mI M np nt X) (hg : g < 2) : sx G yt_M_give yn_M_give (d + 5) [.inr (some (7, 0)), .inl (nI g)] M (fun r M' => (r = some (.inl 0) ∨ r = some (.inl 1)) ∧ iv np nt nt X M M') := by
  refine sx_of (k := 1) (lc := [some (.inr (some (7, 0))), some (.inl (nI g)), none]) mt_M_give (Nat.le_of_ble_eq_true rfl) rfl ?_
  refine jx_of (fun _ _ kz => jw_aload_n 0 d_M_give_0 rfl rfl kz) ?_
  refine jx_of (fun _ _ kz => jw_iconst 5 d_M_give_1 (by decide) kz) ?_
  refine jx_of (fun _ _ kz => jw_iload_n 1 d_M_give_2 rfl rfl kz) ?_
  refine jx_callV (z_M_firstAt (d + 2) 5 ((nI g)) np nt hI.1  hI.2.1 hI.2.2.1) mt_M_firstAt cf_M rfl rfl ml_M_135 im_M_firstAt se_M_firstAt d_M_give_3 rfl rfl (Nat.le_of_ble_eq_true rfl) ?_
  rintro _ _ ⟨⟨ks, rfl, hb⟩, rfl⟩
  refine jx_eq (st2 := [.inl ks]) rfl rfl rfl ?_
  refine jx_of (fun _ _ kz => jw_istore_n 2 d_M_give_6 rfl (Nat.le_of_ble_eq_true rfl) kz) ?_
  dsimp only [List.set]
  refine jx_of (fun _ _ kz => jw_iload_n 2 d_M_give_7 rfl rfl kz) ?_
  refine jx_if_ge 21 d_M_give_8 (by decide) (fun b_8 => ?_) (fun b_8 => ?_)
  · skip
    obtain ⟨b, hb1, rfl, hb3⟩ := hb.resolve_left (fun q => absurd b_8 (by rw [q]; decide))
    have hnt := hI.2.2.1.2.1
    refine jx_of (fun _ _ kz => jw_aload_n 0 d_M_give_21 rfl rfl kz) ?_
    refine jx_of (fun _ _ kz => jw_getPe (some (44, 0)) fl_M_53 d_M_give_22 rfl rfl (by simp [me_I_sI, me_I_sP, me_I_nx, me_P_sI, me_P_sP, me_P_nx, me_N_sI, me_N_sP, me_N_nx, me_L_sI, me_L_sP, me_L_nx, show me_P M 7 0 15 = some (44, 0) from hI.1.1 (7, 0, 15, 44, 0) (by decide)]) kz) ?_
    refine jx_of (fun _ _ kz => jw_iload_n 2 d_M_give_25 rfl rfl kz) ?_
    refine jx_of (fun _ _ kz => jw_iconst 0 d_M_give_26 (by decide) kz) ?_
    refine jx_of (fun _ _ kz => jw_zast d_M_give_27 rfl rfl (by rw [show me_L _ 44 0 = 144 from (by simp [me_I_sI, me_I_sP, me_I_nx, me_P_sI, me_P_sP, me_P_nx, me_N_sI, me_N_sP, me_N_nx, me_L_sI, me_L_sP, me_L_nx, show me_L M 44 0 = 144 from hI.1.2 (44, 0, 144) (by decide)])]; exact (vp_in_nI (by omega) (by decide))) (by decide) kz) ?_
    rw [nI_clamp (by omega)]
    refine jx_of (fun _ _ kz => jw_aload_n 0 d_M_give_28 rfl rfl kz) ?_
    refine jx_of (fun _ _ kz => jw_getPe (some (45, 0)) fl_M_56 d_M_give_29 rfl rfl (by simp [me_I_sI, me_I_sP, me_I_nx, me_P_sI, me_P_sP, me_P_nx, me_N_sI, me_N_sP, me_N_nx, me_L_sI, me_L_sP, me_L_nx, show me_P M 7 0 16 = some (45, 0) from hI.1.1 (7, 0, 16, 45, 0) (by decide)]) kz) ?_
    refine jx_of (fun _ _ kz => jw_iload_n 2 d_M_give_32 rfl rfl kz) ?_
    refine jx_of (fun _ _ kz => jw_iconst 1 d_M_give_33 (by decide) kz) ?_
    refine jx_of (fun _ _ kz => jw_zast d_M_give_34 rfl rfl (by rw [show me_L _ 45 0 = 144 from (by simp [me_I_sI, me_I_sP, me_I_nx, me_P_sI, me_P_sP, me_P_nx, me_N_sI, me_N_sP, me_N_nx, me_L_sI, me_L_sP, me_L_nx, show me_L M 45 0 = 144 from hI.1.2 (45, 0, 144) (by decide)])]; exact (vp_in_nI (by omega) (by decide))) (by decide) kz) ?_
    rw [nI_clamp (by omega)]
    refine jx_of (fun _ _ kz => jw_aload_n 0 d_M_give_35 rfl rfl kz) ?_
    refine jx_of (fun _ _ kz => jw_iload_n 2 d_M_give_36 rfl rfl kz) ?_
    refine jx_of (fun _ _ kz => jw_bipush 12 d_M_give_37 (by decide) kz) ?_
    refine jx_of (fun _ _ kz => jw_idiv d_M_give_39 (by decide) kz) ?_
    rw [show ((nI b) / 12 : Int32) = nI (b / 12) from pk_div (by omega) (by decide) (by decide)]
    refine jx_callV (z_M_wakeUp d ((b / 12)) nt X (iv_sI (iv_sI (iv_rf hI) (by unfold hl; omega)) (by unfold hl; omega)).2.1.1  (by omega) (iv_sI (iv_sI (iv_rf hI) (by unfold hl; omega)) (by unfold hl; omega)).2.1.2.2.2.2 (iv_sI (iv_sI (iv_rf hI) (by unfold hl; omega)) (by unfold hl; omega)).2.1.2.2.2.1) mt_M_wakeUp cf_M rfl rfl ml_M_115 im_M_wakeUp se_M_wakeUp d_M_give_40 rfl rfl (Nat.le_of_ble_eq_true rfl) ?_
    rintro _ M3 ⟨rfl, q3, c3, t3⟩
    refine jx_eq (st2 := []) rfl rfl rfl ?_
    refine jx_of (fun _ _ kz => jw_iload_n 2 d_M_give_43 rfl rfl kz) ?_
    refine jx_if_lt 51 d_M_give_44 (by decide) (fun b_44 => ?_) (fun b_44 => ?_)
    · skip
      refine jx_of (fun _ _ kz => jw_iconst 0 d_M_give_51 (by decide) kz) ?_
      refine jx_zret d_M_give_52 rfl (by decide) ?_
      first | exact ⟨by first | exact Or.inl rfl | exact Or.inr rfl, iv_mc (iv_sI (iv_sI (iv_rf hI) (by unfold hl; omega)) (by unfold hl; omega)) q3 c3 t3⟩ | exact ⟨by first | exact Or.inl rfl | exact Or.inr rfl, iv_sI (iv_rf hI) (by unfold hl; omega)⟩
    · skip
      refine jx_of (fun _ _ kz => jw_iconst 1 d_M_give_47 (by decide) kz) ?_
      refine jx_of (fun _ _ kz => jw_goto 52 d_M_give_48 (by decide) kz) ?_
      refine jx_zret d_M_give_52 rfl (by decide) ?_
      first | exact ⟨by first | exact Or.inl rfl | exact Or.inr rfl, iv_mc (iv_sI (iv_sI (iv_rf hI) (by unfold hl; omega)) (by unfold hl; omega)) q3 c3 t3⟩ | exact ⟨by first | exact Or.inl rfl | exact Or.inr rfl, iv_sI (iv_rf hI) (by unfold hl; omega)⟩
  · skip
    refine jx_of (fun _ _ kz => jw_aload_n 0 d_M_give_11 rfl rfl kz) ?_
    refine jx_of (fun _ _ kz => jw_getPe (some (55, 0)) fl_M_86 d_M_give_12 rfl rfl (by simp [me_I_sI, me_I_sP, me_I_nx, me_P_sI, me_P_sP, me_P_nx, me_N_sI, me_N_sP, me_N_nx, me_L_sI, me_L_sP, me_L_nx, show me_P M 7 0 26 = some (55, 0) from hI.1.1 (7, 0, 26, 55, 0) (by decide)]) kz) ?_
    refine jx_of (fun _ _ kz => jw_iload_n 1 d_M_give_15 rfl rfl kz) ?_
    refine jx_of (fun _ _ kz => jw_iconst 1 d_M_give_16 (by decide) kz) ?_
    refine jx_of (fun _ _ kz => jw_zast d_M_give_17 rfl rfl (by rw [show me_L _ 55 0 = 2 from (by simp [me_I_sI, me_I_sP, me_I_nx, me_P_sI, me_P_sP, me_P_nx, me_N_sI, me_N_sP, me_N_nx, me_L_sI, me_L_sP, me_L_nx, show me_L M 55 0 = 2 from hI.1.2 (55, 0, 2) (by decide)])]; exact (vp_in_nI hg (by decide))) (by decide) kz) ?_
    rw [nI_clamp (by omega)]
    refine jx_of (fun _ _ kz => jw_goto 43 d_M_give_18 (by decide) kz) ?_
    refine jx_of (fun _ _ kz => jw_iload_n 2 d_M_give_43 rfl rfl kz) ?_
    refine jx_if_lt 51 d_M_give_44 (by decide) (fun b_44 => ?_) (fun b_44 => ?_)
    · skip
      refine jx_of (fun _ _ kz => jw_iconst 0 d_M_give_51 (by decide) kz) ?_
      refine jx_zret d_M_give_52 rfl (by decide) ?_
      first | exact ⟨by first | exact Or.inl rfl | exact Or.inr rfl, iv_mc (iv_sI (iv_sI (iv_rf hI) (by unfold hl; omega)) (by unfold hl; omega)) q3 c3 t3⟩ | exact ⟨by first | exact Or.inl rfl | exact Or.inr rfl, iv_sI (iv_rf hI) (by unfold hl; omega)⟩
    · skip
      refine jx_of (fun _ _ kz => jw_iconst 1 d_M_give_47 (by decide) kz) ?_
      refine jx_of (fun _ _ kz => jw_goto 52 d_M_give_48 (by decide) kz) ?_
      refine jx_zret d_M_give_52 rfl (by decide) ?_
      first | exact ⟨by first | exact Or.inl rfl | exact Or.inr rfl, iv_mc (iv_sI (iv_sI (iv_rf hI) (by unfold hl; omega)) (by unfold hl; omega)) q3 c3 t3⟩ | exact ⟨by first | exact Or.inl rfl | exact Or.inr rfl, iv_sI (iv_rf hI) (by unfold hl; omega)⟩
