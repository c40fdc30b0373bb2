/-- polling any part at depth j returns -/
def yq (G : Gt) (e t p n : Nat) (o : Nat → Nat) (np j : Nat) : Prop := ∀ (x : Int32) (M : Me) (nt : Nat), yI M np nt → yN M np nt → t < nt → tO M t p n o → sx G yt_Y_poll yn_Y_poll e [.inr (some (0, 0)), .inr (some (2, t)), .inl x, .inl (nI j)] M (fun r M' => (∃ v : Int32, r = some (.inl v)) ∧ ∃ nt', yv np nt nt' M M')
theorem y_hq {G : Gt} {M : Me} (d t p n : Nat) (o : Nat → Nat) (x : Int32) (j np nt : Nat) (hY : yI M np nt) (hq : yq G d t p n o np j) (hN : yN M np nt) (ht : t < nt) (hT : tO M t p n o) : sx G yt_Y_poll yn_Y_poll d [.inr (some (0, 0)), .inr (some (2, t)), .inl x, .inl (nI j)] M (fun r M' => (∃ v : Int32, r = some (.inl v)) ∧ ∃ nt', yv np nt nt' M M') := hq x M nt hY hN ht hT
set_option maxRecDepth 20000 in
set_option maxHeartbeats 4000000 in
theorem y_Y_pollReap {G : Gt} {M : Me} (d : Nat) (t : Nat) (p : Nat) (n : Nat) (o : Nat → Nat) (k : Nat) (j : Nat) (np : Nat) (nt : Nat) (hY : yI M np nt) (hq : yq G (d + 4) t p n o np (j + 1)) (hN : yN M np nt) (ht : t < nt) (hT : tO M t p n o) (hk : k < 12) : sx G yt_Y_pollReap yn_Y_pollReap (d + 5) [.inr (some (0, 0)), .inr (some (2, t)), .inl (nI k), .inl (nI j)] M (fun r M' => r = none ∧ ∃ nt', yv np nt nt' M M') := by
  refine sx_of (k := 2) (lc := [some (.inr (some (0, 0))), some (.inr (some (2, t))), some (.inl (nI k)), some (.inl (nI j)), none, none]) mt_Y_pollReap (Nat.le_of_ble_eq_true rfl) rfl ?_
  have w0 := yv_rf hY hN
  refine jx_of (fun _ _ kz => jw_iload_n 2 d_Y_pollReap_0 rfl rfl kz) ?_
  refine jx_of (fun _ _ kz => jw_iconst 1 d_Y_pollReap_1 (by decide) kz) ?_
  refine jx_of (fun _ _ kz => jw_iadd d_Y_pollReap_2 kz) ?_
  rw [show ((nI k) + 1 : Int32) = nI (k + 1) from nI_1 _]
  refine jx_of (fun _ _ kz => jw_istore d_Y_pollReap_3 (Nat.le_of_ble_eq_true rfl) kz) ?_
  dsimp only [List.set]
  refine jx_of (fun _ _ kz => jw_aload_n 0 d_Y_pollReap_5 rfl rfl kz) ?_
  refine jx_of (fun _ _ kz => jw_aload_n 1 d_Y_pollReap_6 rfl rfl kz) ?_
  refine jx_of (fun _ _ kz => jw_iload d_Y_pollReap_7 rfl kz) ?_
  refine jx_of (fun _ _ kz => jw_iload_n 3 d_Y_pollReap_9 rfl rfl kz) ?_
  refine jx_of (fun _ _ kz => jw_iconst 1 d_Y_pollReap_10 (by decide) kz) ?_
  refine jx_of (fun _ _ kz => jw_iadd d_Y_pollReap_11 kz) ?_
  rw [show ((nI j) + 1 : Int32) = nI (j + 1) from nI_1 _]
  refine jx_callV (y_hq (d + 4) t p n o ((nI (k + 1))) ((j + 1)) np nt hY  hq hN ht hT) mt_Y_poll cf_Y rfl rfl ml_Y_240 im_Y_poll se_Y_poll d_Y_pollReap_12 rfl rfl (Nat.le_of_ble_eq_true rfl) ?_
  rintro _ M1 ⟨⟨v1, rfl⟩, nt1, u1⟩
  have w1 := yv_tr w0 u1
  have h1 := w1.2.1
  have hN1 := w1.2.2.1
  have hT1 := tO_yf hT ht w1.2.2.2.1
  have ht1 : t < nt1 := by have hle := w1.1; omega
  refine jx_eq (st2 := [.inl v1]) rfl rfl rfl ?_
  refine jx_of (fun _ _ kz => jw_iconst 2 d_Y_pollReap_15 (by decide) kz) ?_
  refine jx_icmp_eq 27 d_Y_pollReap_16 (by decide) (fun b_16 => ?_) (fun b_16 => ?_)
  · skip
    refine jx_of (fun _ _ kz => jw_aload_n 0 d_Y_pollReap_27 rfl rfl kz) ?_
    refine jx_of (fun _ _ kz => jw_aload_n 1 d_Y_pollReap_28 rfl rfl kz) ?_
    refine jx_of (fun _ _ kz => jw_iload d_Y_pollReap_29 rfl kz) ?_
    refine jx_callV (y_T_resultOf (d + 2) t p n o ((nI (k + 1))) hT1) mt_T_resultOf cf_T rfl rfl ml_Y_332 im_T_resultOf se_T_resultOf d_Y_pollReap_31 rfl rfl (Nat.le_of_ble_eq_true rfl) ?_
    rintro _ _ ⟨⟨vr, rfl⟩, rfl⟩
    refine jx_eq (st2 := [.inl vr, .inr (some (0, 0))]) rfl rfl rfl ?_
    refine jx_callV (y_Y_taskAt (d + 3) vr np nt1 h1) mt_Y_taskAt cf_Y rfl rfl ml_Y_113 im_Y_taskAt se_Y_taskAt d_Y_pollReap_34 rfl rfl (Nat.le_of_ble_eq_true rfl) ?_
    rintro r _ ⟨hr, rfl⟩
    rcases hr with rfl | ⟨t9, ht9, ex9, rfl⟩
    · skip
      refine jx_eq (st2 := [.inr none]) rfl rfl rfl ?_
      refine jx_of (fun _ _ kz => jw_astore d_Y_pollReap_37 (Nat.le_of_ble_eq_true rfl) kz) ?_
      dsimp only [List.set]
      refine jx_of (fun _ _ kz => jw_aload d_Y_pollReap_39 rfl kz) ?_
      refine jx_ifnull 56 d_Y_pollReap_41 (by decide) (fun _ => ?_) (fun _ h => by cases h)
      refine jx_of (fun _ _ kz => jw_aload_n 1 d_Y_pollReap_56 rfl rfl kz) ?_
      refine jx_of (fun _ _ kz => jw_iload_n 2 d_Y_pollReap_57 rfl rfl kz) ?_
      refine jx_of (fun _ _ kz => jw_bipush 98 d_Y_pollReap_58 (by decide) kz) ?_
      refine jx_callV (y_T_makeBroken (d + 3) t p n o k 98 hT1  hk) mt_T_makeBroken cf_T rfl rfl ml_Y_295 im_T_makeBroken se_T_makeBroken d_Y_pollReap_60 rfl rfl (Nat.le_of_ble_eq_true rfl) ?_
      rintro _ M2 ⟨rfl, c2⟩
      have w2 := yv_tc w1 c2
      have h2 := w2.2.1
      have hN2 := w2.2.2.1
      have hT2 := tO_yf hT ht w2.2.2.2.1
      have ht2 : t < nt1 := by have hle := w2.1; omega
      refine jx_eq (st2 := []) rfl rfl rfl ?_
      refine jx_of (fun _ _ kz => jw_goto 134 d_Y_pollReap_63 (by decide) kz) ?_
      refine jx_vret d_Y_pollReap_134 rfl ?_
      first | exact ⟨rfl, _, w3⟩ | exact ⟨rfl, _, w2⟩ | exact ⟨rfl, _, w1⟩ | exact ⟨rfl, _, w0⟩
    · skip
      refine jx_eq (st2 := [.inr (some (2, t9))]) rfl rfl rfl ?_
      refine jx_of (fun _ _ kz => jw_astore d_Y_pollReap_37 (Nat.le_of_ble_eq_true rfl) kz) ?_
      dsimp only [List.set]
      refine jx_of (fun _ _ kz => jw_aload d_Y_pollReap_39 rfl kz) ?_
      refine jx_ifnull 56 d_Y_pollReap_41 (by decide) (fun h => by cases h) (fun _ _ => ?_)
      refine jx_of (fun _ _ kz => jw_aload d_Y_pollReap_44 rfl kz) ?_
      refine jx_of (fun _ _ kz => jw_getIe (me_I M1 2 t9 0) fl_Y_213 d_Y_pollReap_46 rfl rfl rfl kz) ?_
      refine jx_of (fun _ _ kz => jw_aload_n 1 d_Y_pollReap_49 rfl rfl kz) ?_
      refine jx_of (fun _ _ kz => jw_getIe (me_I M1 2 t 0) fl_Y_213 d_Y_pollReap_50 rfl rfl rfl kz) ?_
      refine jx_icmp_ne 66 d_Y_pollReap_53 (by decide) (fun b_53 => ?_) (fun b_53 => ?_)
      · skip
        refine jx_of (fun _ _ kz => jw_aload d_Y_pollReap_66 rfl kz) ?_
        refine jx_of (fun _ _ kz => jw_getIe (me_I M1 2 t9 3) fl_Y_123 d_Y_pollReap_68 rfl rfl rfl kz) ?_
        refine jx_of (fun _ _ kz => jw_iconst 4 d_Y_pollReap_71 (by decide) kz) ?_
        refine jx_icmp_ne 85 d_Y_pollReap_72 (by decide) (fun b_72 => ?_) (fun b_72 => ?_)
        · skip
          refine jx_of (fun _ _ kz => jw_aload d_Y_pollReap_85 rfl kz) ?_
          refine jx_of (fun _ _ kz => jw_getIe (me_I M1 2 t9 3) fl_Y_123 d_Y_pollReap_87 rfl rfl rfl kz) ?_
          refine jx_of (fun _ _ kz => jw_iconst 3 d_Y_pollReap_90 (by decide) kz) ?_
          refine jx_icmp_ne 107 d_Y_pollReap_91 (by decide) (fun b_91 => ?_) (fun b_91 => ?_)
          · skip
            refine jx_of (fun _ _ kz => jw_aload d_Y_pollReap_107 rfl kz) ?_
            refine jx_of (fun _ _ kz => jw_getIe (me_I M1 2 t9 3) fl_Y_123 d_Y_pollReap_109 rfl rfl rfl kz) ?_
            refine jx_of (fun _ _ kz => jw_iconst 2 d_Y_pollReap_112 (by decide) kz) ?_
            refine jx_icmp_ne 134 d_Y_pollReap_113 (by decide) (fun b_113 => ?_) (fun b_113 => ?_)
            · skip
              refine jx_vret d_Y_pollReap_134 rfl ?_
              first | exact ⟨rfl, _, w3⟩ | exact ⟨rfl, _, w2⟩ | exact ⟨rfl, _, w1⟩ | exact ⟨rfl, _, w0⟩
            · skip
              refine jx_of (fun _ _ kz => jw_aload_n 0 d_Y_pollReap_116 rfl rfl kz) ?_
              refine jx_of (fun _ _ kz => jw_aload_n 1 d_Y_pollReap_117 rfl rfl kz) ?_
              refine jx_callV (y_Y_spendUnit (d + 1) t np nt1 h1  ht1) mt_Y_spendUnit cf_Y rfl rfl ml_Y_322 im_Y_spendUnit se_Y_spendUnit d_Y_pollReap_118 rfl rfl (Nat.le_of_ble_eq_true rfl) ?_
              rintro r M2 ⟨hr, g2, k2⟩
              obtain ⟨v2, rfl⟩ : ∃ v : Int32, r = some (.inl v) := by rcases hr with hr | hr; exact ⟨_, hr⟩; exact ⟨_, hr⟩
              have w2 := yv_yk w1 g2 k2
              have h2 := w2.2.1
              have hN2 := w2.2.2.1
              have hT2 := tO_yf hT ht w2.2.2.2.1
              have ht2 : t < nt1 := by have hle := w2.1; omega
              refine jx_eq (st2 := [.inl v2]) rfl rfl rfl ?_
              refine jx_if_eq 134 d_Y_pollReap_121 (by decide) (fun b_121 => ?_) (fun b_121 => ?_)
              · skip
                refine jx_vret d_Y_pollReap_134 rfl ?_
                first | exact ⟨rfl, _, w3⟩ | exact ⟨rfl, _, w2⟩ | exact ⟨rfl, _, w1⟩ | exact ⟨rfl, _, w0⟩
              · skip
                refine jx_of (fun _ _ kz => jw_aload_n 1 d_Y_pollReap_124 rfl rfl kz) ?_
                refine jx_of (fun _ _ kz => jw_iload_n 2 d_Y_pollReap_125 rfl rfl kz) ?_
                refine jx_of (fun _ _ kz => jw_aload d_Y_pollReap_126 rfl kz) ?_
                refine jx_of (fun _ _ kz => jw_getIe (me_I M2 2 t9 4) fl_Y_144 d_Y_pollReap_128 rfl rfl rfl kz) ?_
                refine jx_callV (y_T_makeReady (d + 3) t p n o k ((me_I M2 2 t9 4)) hT2  hk) mt_T_makeReady cf_T rfl rfl ml_Y_272 im_T_makeReady se_T_makeReady d_Y_pollReap_131 rfl rfl (Nat.le_of_ble_eq_true rfl) ?_
                rintro _ M3 ⟨rfl, c3⟩
                have w3 := yv_tc w2 c3
                have h3 := w3.2.1
                have hN3 := w3.2.2.1
                have hT3 := tO_yf hT ht w3.2.2.2.1
                have ht3 : t < nt1 := by have hle := w3.1; omega
                refine jx_eq (st2 := []) rfl rfl rfl ?_
                refine jx_vret d_Y_pollReap_134 rfl ?_
                first | exact ⟨rfl, _, w3⟩ | exact ⟨rfl, _, w2⟩ | exact ⟨rfl, _, w1⟩ | exact ⟨rfl, _, w0⟩
          · skip
            refine jx_of (fun _ _ kz => jw_aload_n 1 d_Y_pollReap_94 rfl rfl kz) ?_
            refine jx_of (fun _ _ kz => jw_iload_n 2 d_Y_pollReap_95 rfl rfl kz) ?_
            refine jx_of (fun _ _ kz => jw_aload d_Y_pollReap_96 rfl kz) ?_
            refine jx_of (fun _ _ kz => jw_getIe (me_I M1 2 t9 4) fl_Y_144 d_Y_pollReap_98 rfl rfl rfl kz) ?_
            refine jx_callV (y_T_makeBroken (d + 3) t p n o k ((me_I M1 2 t9 4)) hT1  hk) mt_T_makeBroken cf_T rfl rfl ml_Y_295 im_T_makeBroken se_T_makeBroken d_Y_pollReap_101 rfl rfl (Nat.le_of_ble_eq_true rfl) ?_
            rintro _ M2 ⟨rfl, c2⟩
            have w2 := yv_tc w1 c2
            have h2 := w2.2.1
            have hN2 := w2.2.2.1
            have hT2 := tO_yf hT ht w2.2.2.2.1
            have ht2 : t < nt1 := by have hle := w2.1; omega
            refine jx_eq (st2 := []) rfl rfl rfl ?_
            refine jx_of (fun _ _ kz => jw_goto 134 d_Y_pollReap_104 (by decide) kz) ?_
            refine jx_vret d_Y_pollReap_134 rfl ?_
            first | exact ⟨rfl, _, w3⟩ | exact ⟨rfl, _, w2⟩ | exact ⟨rfl, _, w1⟩ | exact ⟨rfl, _, w0⟩
        · skip
          refine jx_of (fun _ _ kz => jw_aload_n 1 d_Y_pollReap_75 rfl rfl kz) ?_
          refine jx_of (fun _ _ kz => jw_iload_n 2 d_Y_pollReap_76 rfl rfl kz) ?_
          refine jx_of (fun _ _ kz => jw_bipush 99 d_Y_pollReap_77 (by decide) kz) ?_
          refine jx_callV (y_T_makeBroken (d + 3) t p n o k 99 hT1  hk) mt_T_makeBroken cf_T rfl rfl ml_Y_295 im_T_makeBroken se_T_makeBroken d_Y_pollReap_79 rfl rfl (Nat.le_of_ble_eq_true rfl) ?_
          rintro _ M2 ⟨rfl, c2⟩
          have w2 := yv_tc w1 c2
          have h2 := w2.2.1
          have hN2 := w2.2.2.1
          have hT2 := tO_yf hT ht w2.2.2.2.1
          have ht2 : t < nt1 := by have hle := w2.1; omega
          refine jx_eq (st2 := []) rfl rfl rfl ?_
          refine jx_of (fun _ _ kz => jw_goto 134 d_Y_pollReap_82 (by decide) kz) ?_
          refine jx_vret d_Y_pollReap_134 rfl ?_
          first | exact ⟨rfl, _, w3⟩ | exact ⟨rfl, _, w2⟩ | exact ⟨rfl, _, w1⟩ | exact ⟨rfl, _, w0⟩
      · skip
        refine jx_of (fun _ _ kz => jw_aload_n 1 d_Y_pollReap_56 rfl rfl kz) ?_
        refine jx_of (fun _ _ kz => jw_iload_n 2 d_Y_pollReap_57 rfl rfl kz) ?_
        refine jx_of (fun _ _ kz => jw_bipush 98 d_Y_pollReap_58 (by decide) kz) ?_
        refine jx_callV (y_T_makeBroken (d + 3) t p n o k 98 hT1  hk) mt_T_makeBroken cf_T rfl rfl ml_Y_295 im_T_makeBroken se_T_makeBroken d_Y_pollReap_60 rfl rfl (Nat.le_of_ble_eq_true rfl) ?_
        rintro _ M2 ⟨rfl, c2⟩
        have w2 := yv_tc w1 c2
        have h2 := w2.2.1
        have hN2 := w2.2.2.1
        have hT2 := tO_yf hT ht w2.2.2.2.1
        have ht2 : t < nt1 := by have hle := w2.1; omega
        refine jx_eq (st2 := []) rfl rfl rfl ?_
        refine jx_of (fun _ _ kz => jw_goto 134 d_Y_pollReap_63 (by decide) kz) ?_
        refine jx_vret d_Y_pollReap_134 rfl ?_
        first | exact ⟨rfl, _, w3⟩ | exact ⟨rfl, _, w2⟩ | exact ⟨rfl, _, w1⟩ | exact ⟨rfl, _, w0⟩
  · skip
    refine jx_of (fun _ _ kz => jw_aload_n 1 d_Y_pollReap_19 rfl rfl kz) ?_
    refine jx_of (fun _ _ kz => jw_iload_n 2 d_Y_pollReap_20 rfl rfl kz) ?_
    refine jx_of (fun _ _ kz => jw_iload d_Y_pollReap_21 rfl kz) ?_
    refine jx_callV (y_T_follow (d + 1) t p n o k ((nI (k + 1))) hT1  hk) mt_T_follow cf_T rfl rfl ml_Y_329 im_T_follow se_T_follow d_Y_pollReap_23 rfl rfl (Nat.le_of_ble_eq_true rfl) ?_
    rintro _ M2 ⟨rfl, c2⟩
    have w2 := yv_tc w1 c2
    have h2 := w2.2.1
    have hN2 := w2.2.2.1
    have hT2 := tO_yf hT ht w2.2.2.2.1
    have ht2 : t < nt1 := by have hle := w2.1; omega
    refine jx_eq (st2 := []) rfl rfl rfl ?_
    refine jx_vret d_Y_pollReap_26 rfl ?_
    first | exact ⟨rfl, _, w3⟩ | exact ⟨rfl, _, w2⟩ | exact ⟨rfl, _, w1⟩ | exact ⟨rfl, _, w0⟩
set_option maxRecDepth 20000 in
set_option maxHeartbeats 4000000 in
theorem y_Y_pollThen {G : Gt} {M : Me} (d : Nat) (t : Nat) (p : Nat) (n : Nat) (o : Nat → Nat) (k : Nat) (j : Nat) (np : Nat) (nt : Nat) (hY : yI M np nt) (hq : yq G (d + 4) t p n o np (j + 1)) (hN : yN M np nt) (ht : t < nt) (hT : tO M t p n o) (hk : k < 12) : sx G yt_Y_pollThen yn_Y_pollThen (d + 5) [.inr (some (0, 0)), .inr (some (2, t)), .inl (nI k), .inl (nI j)] M (fun r M' => r = none ∧ ∃ nt', yv np nt nt' M M') := by
  refine sx_of (k := 2) (lc := [some (.inr (some (0, 0))), some (.inr (some (2, t))), some (.inl (nI k)), some (.inl (nI j)), none, none]) mt_Y_pollThen (Nat.le_of_ble_eq_true rfl) rfl ?_
  have w0 := yv_rf hY hN
  refine jx_of (fun _ _ kz => jw_iload_n 2 d_Y_pollThen_0 rfl rfl kz) ?_
  refine jx_of (fun _ _ kz => jw_iconst 1 d_Y_pollThen_1 (by decide) kz) ?_
  refine jx_of (fun _ _ kz => jw_iadd d_Y_pollThen_2 kz) ?_
  rw [show ((nI k) + 1 : Int32) = nI (k + 1) from nI_1 _]
  refine jx_of (fun _ _ kz => jw_istore d_Y_pollThen_3 (Nat.le_of_ble_eq_true rfl) kz) ?_
  dsimp only [List.set]
  refine jx_of (fun _ _ kz => jw_aload_n 0 d_Y_pollThen_5 rfl rfl kz) ?_
  refine jx_of (fun _ _ kz => jw_aload_n 1 d_Y_pollThen_6 rfl rfl kz) ?_
  refine jx_of (fun _ _ kz => jw_iload d_Y_pollThen_7 rfl kz) ?_
  refine jx_of (fun _ _ kz => jw_iload_n 3 d_Y_pollThen_9 rfl rfl kz) ?_
  refine jx_of (fun _ _ kz => jw_iconst 1 d_Y_pollThen_10 (by decide) kz) ?_
  refine jx_of (fun _ _ kz => jw_iadd d_Y_pollThen_11 kz) ?_
  rw [show ((nI j) + 1 : Int32) = nI (j + 1) from nI_1 _]
  refine jx_callV (y_hq (d + 4) t p n o ((nI (k + 1))) ((j + 1)) np nt hY  hq hN ht hT) mt_Y_poll cf_Y rfl rfl ml_Y_240 im_Y_poll se_Y_poll d_Y_pollThen_12 rfl rfl (Nat.le_of_ble_eq_true rfl) ?_
  rintro _ M1 ⟨⟨v1, rfl⟩, nt1, u1⟩
  have w1 := yv_tr w0 u1
  have h1 := w1.2.1
  have hN1 := w1.2.2.1
  have hT1 := tO_yf hT ht w1.2.2.2.1
  have ht1 : t < nt1 := by have hle := w1.1; omega
  refine jx_eq (st2 := [.inl v1]) rfl rfl rfl ?_
  refine jx_of (fun _ _ kz => jw_iconst 2 d_Y_pollThen_15 (by decide) kz) ?_
  refine jx_icmp_eq 27 d_Y_pollThen_16 (by decide) (fun b_16 => ?_) (fun b_16 => ?_)
  · skip
    refine jx_of (fun _ _ kz => jw_aload_n 1 d_Y_pollThen_27 rfl rfl kz) ?_
    refine jx_of (fun _ _ kz => jw_getPe (some (1, p)) fl_Y_257 d_Y_pollThen_28 rfl rfl (by simp [me_I_sI, me_I_sP, me_I_nx, me_P_sI, me_P_sP, me_P_nx, me_N_sI, me_N_sP, me_N_nx, me_L_sI, me_L_sP, me_L_nx, show me_P M1 2 t 2 = some (1, p) from hT1.1.1]) kz) ?_
    refine jx_of (fun _ _ kz => jw_iload d_Y_pollThen_31 rfl kz) ?_
    refine jx_callV (y_P_endOf (d + 2) p n o ((nI (k + 1))) hT1.2) mt_P_endOf cf_P rfl rfl ml_Y_335 im_P_endOf se_P_endOf d_Y_pollThen_33 rfl rfl (Nat.le_of_ble_eq_true rfl) ?_
    rintro _ _ ⟨⟨e2, he2, rfl⟩, rfl⟩
    refine jx_eq (st2 := [.inl (nI e2)]) rfl rfl rfl ?_
    refine jx_of (fun _ _ kz => jw_istore d_Y_pollThen_36 (Nat.le_of_ble_eq_true rfl) kz) ?_
    dsimp only [List.set]
    refine jx_of (fun _ _ kz => jw_aload_n 0 d_Y_pollThen_38 rfl rfl kz) ?_
    refine jx_of (fun _ _ kz => jw_aload_n 1 d_Y_pollThen_39 rfl rfl kz) ?_
    refine jx_of (fun _ _ kz => jw_iload d_Y_pollThen_40 rfl kz) ?_
    refine jx_of (fun _ _ kz => jw_iload_n 3 d_Y_pollThen_42 rfl rfl kz) ?_
    refine jx_of (fun _ _ kz => jw_iconst 1 d_Y_pollThen_43 (by decide) kz) ?_
    refine jx_of (fun _ _ kz => jw_iadd d_Y_pollThen_44 kz) ?_
    rw [show ((nI j) + 1 : Int32) = nI (j + 1) from nI_1 _]
    refine jx_callV (y_hq (d + 4) t p n o ((nI e2)) ((j + 1)) np nt1 h1  hq hN1 ht1 hT1) mt_Y_poll cf_Y rfl rfl ml_Y_240 im_Y_poll se_Y_poll d_Y_pollThen_45 rfl rfl (Nat.le_of_ble_eq_true rfl) ?_
    rintro _ M2 ⟨⟨v2, rfl⟩, nt2, u2⟩
    have w2 := yv_tr w1 u2
    have h2 := w2.2.1
    have hN2 := w2.2.2.1
    have hT2 := tO_yf hT ht w2.2.2.2.1
    have ht2 : t < nt2 := by have hle := w2.1; omega
    refine jx_eq (st2 := [.inl v2]) rfl rfl rfl ?_
    refine jx_of (fun _ _ kz => jw_pop d_Y_pollThen_48 kz) ?_
    refine jx_of (fun _ _ kz => jw_aload_n 1 d_Y_pollThen_49 rfl rfl kz) ?_
    refine jx_of (fun _ _ kz => jw_iload_n 2 d_Y_pollThen_50 rfl rfl kz) ?_
    refine jx_of (fun _ _ kz => jw_iload d_Y_pollThen_51 rfl kz) ?_
    refine jx_callV (y_T_follow (d + 1) t p n o k ((nI e2)) hT2  hk) mt_T_follow cf_T rfl rfl ml_Y_329 im_T_follow se_T_follow d_Y_pollThen_53 rfl rfl (Nat.le_of_ble_eq_true rfl) ?_
    rintro _ M3 ⟨rfl, c3⟩
    have w3 := yv_tc w2 c3
    have h3 := w3.2.1
    have hN3 := w3.2.2.1
    have hT3 := tO_yf hT ht w3.2.2.2.1
    have ht3 : t < nt2 := by have hle := w3.1; omega
    refine jx_eq (st2 := []) rfl rfl rfl ?_
    refine jx_vret d_Y_pollThen_56 rfl ?_
    first | exact ⟨rfl, _, w3⟩ | exact ⟨rfl, _, w2⟩ | exact ⟨rfl, _, w1⟩ | exact ⟨rfl, _, w0⟩
  · skip
    refine jx_of (fun _ _ kz => jw_aload_n 1 d_Y_pollThen_19 rfl rfl kz) ?_
    refine jx_of (fun _ _ kz => jw_iload_n 2 d_Y_pollThen_20 rfl rfl kz) ?_
    refine jx_of (fun _ _ kz => jw_iload d_Y_pollThen_21 rfl kz) ?_
    refine jx_callV (y_T_follow (d + 1) t p n o k ((nI (k + 1))) hT1  hk) mt_T_follow cf_T rfl rfl ml_Y_329 im_T_follow se_T_follow d_Y_pollThen_23 rfl rfl (Nat.le_of_ble_eq_true rfl) ?_
    rintro _ M2 ⟨rfl, c2⟩
    have w2 := yv_tc w1 c2
    have h2 := w2.2.1
    have hN2 := w2.2.2.1
    have hT2 := tO_yf hT ht w2.2.2.2.1
    have ht2 : t < nt1 := by have hle := w2.1; omega
    refine jx_eq (st2 := []) rfl rfl rfl ?_
    refine jx_vret d_Y_pollThen_26 rfl ?_
    first | exact ⟨rfl, _, w3⟩ | exact ⟨rfl, _, w2⟩ | exact ⟨rfl, _, w1⟩ | exact ⟨rfl, _, w0⟩
set_option maxRecDepth 20000 in
set_option maxHeartbeats 4000000 in
theorem y_Y_pollBoth {G : Gt} {M : Me} (d : Nat) (t : Nat) (p : Nat) (n : Nat) (o : Nat → Nat) (k : Nat) (j : Nat) (np : Nat) (nt : Nat) (hY : yI M np nt) (hq : yq G (d + 4) t p n o np (j + 1)) (hN : yN M np nt) (ht : t < nt) (hT : tO M t p n o) (hk : k < 12) : sx G yt_Y_pollBoth yn_Y_pollBoth (d + 5) [.inr (some (0, 0)), .inr (some (2, t)), .inl (nI k), .inl (nI j)] M (fun r M' => r = none ∧ ∃ nt', yv np nt nt' M M') := by
  refine sx_of (k := 4) (lc := [some (.inr (some (0, 0))), some (.inr (some (2, t))), some (.inl (nI k)), some (.inl (nI j)), none, none, none, none]) mt_Y_pollBoth (Nat.le_of_ble_eq_true rfl) rfl ?_
  have w0 := yv_rf hY hN
  refine jx_of (fun _ _ kz => jw_iload_n 2 d_Y_pollBoth_0 rfl rfl kz) ?_
  refine jx_of (fun _ _ kz => jw_iconst 1 d_Y_pollBoth_1 (by decide) kz) ?_
  refine jx_of (fun _ _ kz => jw_iadd d_Y_pollBoth_2 kz) ?_
  rw [show ((nI k) + 1 : Int32) = nI (k + 1) from nI_1 _]
  refine jx_of (fun _ _ kz => jw_istore d_Y_pollBoth_3 (Nat.le_of_ble_eq_true rfl) kz) ?_
  dsimp only [List.set]
  refine jx_of (fun _ _ kz => jw_aload_n 1 d_Y_pollBoth_5 rfl rfl kz) ?_
  refine jx_of (fun _ _ kz => jw_getPe (some (1, p)) fl_Y_257 d_Y_pollBoth_6 rfl rfl (by simp [me_I_sI, me_I_sP, me_I_nx, me_P_sI, me_P_sP, me_P_nx, me_N_sI, me_N_sP, me_N_nx, me_L_sI, me_L_sP, me_L_nx, show me_P M 2 t 2 = some (1, p) from hT.1.1]) kz) ?_
  refine jx_of (fun _ _ kz => jw_iload d_Y_pollBoth_9 rfl kz) ?_
  refine jx_callV (y_P_endOf (d + 2) p n o ((nI (k + 1))) hT.2) mt_P_endOf cf_P rfl rfl ml_Y_335 im_P_endOf se_P_endOf d_Y_pollBoth_11 rfl rfl (Nat.le_of_ble_eq_true rfl) ?_
  rintro _ _ ⟨⟨e2, he2, rfl⟩, rfl⟩
  refine jx_eq (st2 := [.inl (nI e2)]) rfl rfl rfl ?_
  refine jx_of (fun _ _ kz => jw_istore d_Y_pollBoth_14 (Nat.le_of_ble_eq_true rfl) kz) ?_
  dsimp only [List.set]
  refine jx_of (fun _ _ kz => jw_aload_n 0 d_Y_pollBoth_16 rfl rfl kz) ?_
  refine jx_of (fun _ _ kz => jw_aload_n 1 d_Y_pollBoth_17 rfl rfl kz) ?_
  refine jx_of (fun _ _ kz => jw_iload d_Y_pollBoth_18 rfl kz) ?_
  refine jx_of (fun _ _ kz => jw_iload_n 3 d_Y_pollBoth_20 rfl rfl kz) ?_
  refine jx_of (fun _ _ kz => jw_iconst 1 d_Y_pollBoth_21 (by decide) kz) ?_
  refine jx_of (fun _ _ kz => jw_iadd d_Y_pollBoth_22 kz) ?_
  rw [show ((nI j) + 1 : Int32) = nI (j + 1) from nI_1 _]
  refine jx_callV (y_hq (d + 4) t p n o ((nI (k + 1))) ((j + 1)) np nt hY  hq hN ht hT) mt_Y_poll cf_Y rfl rfl ml_Y_240 im_Y_poll se_Y_poll d_Y_pollBoth_23 rfl rfl (Nat.le_of_ble_eq_true rfl) ?_
  rintro _ M1 ⟨⟨v1, rfl⟩, nt1, u1⟩
  have w1 := yv_tr w0 u1
  have h1 := w1.2.1
  have hN1 := w1.2.2.1
  have hT1 := tO_yf hT ht w1.2.2.2.1
  have ht1 : t < nt1 := by have hle := w1.1; omega
  refine jx_eq (st2 := [.inl v1]) rfl rfl rfl ?_
  refine jx_of (fun _ _ kz => jw_istore d_Y_pollBoth_26 (Nat.le_of_ble_eq_true rfl) kz) ?_
  dsimp only [List.set]
  refine jx_of (fun _ _ kz => jw_iload d_Y_pollBoth_28 rfl kz) ?_
  refine jx_of (fun _ _ kz => jw_iconst 3 d_Y_pollBoth_30 (by decide) kz) ?_
  refine jx_icmp_ne 49 d_Y_pollBoth_31 (by decide) (fun b_31 => ?_) (fun b_31 => ?_)
  · skip
    refine jx_of (fun _ _ kz => jw_aload_n 0 d_Y_pollBoth_49 rfl rfl kz) ?_
    refine jx_of (fun _ _ kz => jw_aload_n 1 d_Y_pollBoth_50 rfl rfl kz) ?_
    refine jx_of (fun _ _ kz => jw_iload d_Y_pollBoth_51 rfl kz) ?_
    refine jx_of (fun _ _ kz => jw_iload_n 3 d_Y_pollBoth_53 rfl rfl kz) ?_
    refine jx_of (fun _ _ kz => jw_iconst 1 d_Y_pollBoth_54 (by decide) kz) ?_
    refine jx_of (fun _ _ kz => jw_iadd d_Y_pollBoth_55 kz) ?_
    rw [show ((nI j) + 1 : Int32) = nI (j + 1) from nI_1 _]
    refine jx_callV (y_hq (d + 4) t p n o ((nI e2)) ((j + 1)) np nt1 h1  hq hN1 ht1 hT1) mt_Y_poll cf_Y rfl rfl ml_Y_240 im_Y_poll se_Y_poll d_Y_pollBoth_56 rfl rfl (Nat.le_of_ble_eq_true rfl) ?_
    rintro _ M2 ⟨⟨v2, rfl⟩, nt2, u2⟩
    have w2 := yv_tr w1 u2
    have h2 := w2.2.1
    have hN2 := w2.2.2.1
    have hT2 := tO_yf hT ht w2.2.2.2.1
    have ht2 : t < nt2 := by have hle := w2.1; omega
    refine jx_eq (st2 := [.inl v2]) rfl rfl rfl ?_
    refine jx_of (fun _ _ kz => jw_istore d_Y_pollBoth_59 (Nat.le_of_ble_eq_true rfl) kz) ?_
    dsimp only [List.set]
    refine jx_of (fun _ _ kz => jw_iload d_Y_pollBoth_61 rfl kz) ?_
    refine jx_of (fun _ _ kz => jw_iconst 3 d_Y_pollBoth_63 (by decide) kz) ?_
    refine jx_icmp_ne 84 d_Y_pollBoth_64 (by decide) (fun b_64 => ?_) (fun b_64 => ?_)
    · skip
      refine jx_of (fun _ _ kz => jw_iload d_Y_pollBoth_84 rfl kz) ?_
      refine jx_of (fun _ _ kz => jw_iconst 2 d_Y_pollBoth_86 (by decide) kz) ?_
      refine jx_icmp_ne 114 d_Y_pollBoth_87 (by decide) (fun b_87 => ?_) (fun b_87 => ?_)
      · skip
        refine jx_vret d_Y_pollBoth_114 rfl ?_
        first | exact ⟨rfl, _, w4⟩ | exact ⟨rfl, _, w3⟩ | exact ⟨rfl, _, w2⟩ | exact ⟨rfl, _, w1⟩ | exact ⟨rfl, _, w0⟩
      · skip
        refine jx_of (fun _ _ kz => jw_iload d_Y_pollBoth_90 rfl kz) ?_
        refine jx_of (fun _ _ kz => jw_iconst 2 d_Y_pollBoth_92 (by decide) kz) ?_
        refine jx_icmp_ne 114 d_Y_pollBoth_93 (by decide) (fun b_93 => ?_) (fun b_93 => ?_)
        · skip
          refine jx_vret d_Y_pollBoth_114 rfl ?_
          first | exact ⟨rfl, _, w4⟩ | exact ⟨rfl, _, w3⟩ | exact ⟨rfl, _, w2⟩ | exact ⟨rfl, _, w1⟩ | exact ⟨rfl, _, w0⟩
        · skip
          refine jx_of (fun _ _ kz => jw_aload_n 1 d_Y_pollBoth_96 rfl rfl kz) ?_
          refine jx_of (fun _ _ kz => jw_iload_n 2 d_Y_pollBoth_97 rfl rfl kz) ?_
          refine jx_of (fun _ _ kz => jw_aload_n 1 d_Y_pollBoth_98 rfl rfl kz) ?_
          refine jx_of (fun _ _ kz => jw_iload d_Y_pollBoth_99 rfl kz) ?_
          refine jx_callV (y_T_resultOf (d + 2) t p n o ((nI (k + 1))) hT2) mt_T_resultOf cf_T rfl rfl ml_Y_332 im_T_resultOf se_T_resultOf d_Y_pollBoth_101 rfl rfl (Nat.le_of_ble_eq_true rfl) ?_
          rintro _ _ ⟨⟨vx, rfl⟩, rfl⟩
          refine jx_eq (st2 := [.inl vx, .inl (nI k), .inr (some (2, t))]) rfl rfl rfl ?_
          refine jx_of (fun _ _ kz => jw_aload_n 1 d_Y_pollBoth_104 rfl rfl kz) ?_
          refine jx_of (fun _ _ kz => jw_iload d_Y_pollBoth_105 rfl kz) ?_
          refine jx_callV (y_T_resultOf (d + 2) t p n o ((nI e2)) hT2) mt_T_resultOf cf_T rfl rfl ml_Y_332 im_T_resultOf se_T_resultOf d_Y_pollBoth_107 rfl rfl (Nat.le_of_ble_eq_true rfl) ?_
          rintro _ _ ⟨⟨vy, rfl⟩, rfl⟩
          refine jx_eq (st2 := [.inl vy, .inl vx, .inl (nI k), .inr (some (2, t))]) rfl rfl rfl ?_
          refine jx_of (fun _ _ kz => jw_iadd d_Y_pollBoth_110 kz) ?_
          refine jx_callV (y_T_makeReady (d + 3) t p n o k ((vx + vy)) hT2  hk) mt_T_makeReady cf_T rfl rfl ml_Y_272 im_T_makeReady se_T_makeReady d_Y_pollBoth_111 rfl rfl (Nat.le_of_ble_eq_true rfl) ?_
          rintro _ M3 ⟨rfl, c3⟩
          have w3 := yv_tc w2 c3
          have h3 := w3.2.1
          have hN3 := w3.2.2.1
          have hT3 := tO_yf hT ht w3.2.2.2.1
          have ht3 : t < nt2 := by have hle := w3.1; omega
          refine jx_eq (st2 := []) rfl rfl rfl ?_
          refine jx_vret d_Y_pollBoth_114 rfl ?_
          first | exact ⟨rfl, _, w4⟩ | exact ⟨rfl, _, w3⟩ | exact ⟨rfl, _, w2⟩ | exact ⟨rfl, _, w1⟩ | exact ⟨rfl, _, w0⟩
    · skip
      refine jx_of (fun _ _ kz => jw_aload_n 0 d_Y_pollBoth_67 rfl rfl kz) ?_
      refine jx_of (fun _ _ kz => jw_aload_n 1 d_Y_pollBoth_68 rfl rfl kz) ?_
      refine jx_of (fun _ _ kz => jw_iload d_Y_pollBoth_69 rfl kz) ?_
      refine jx_callV (y_Y_drop d t p n o ((nI (k + 1))) np nt2 h2  ht2 hT2) mt_Y_drop cf_Y rfl rfl ml_Y_126 im_Y_drop se_Y_drop d_Y_pollBoth_71 rfl rfl (Nat.le_of_ble_eq_true rfl) ?_
      rintro _ M3 ⟨rfl, g3, k3⟩
      have w3 := yv_yk w2 g3 k3
      have h3 := w3.2.1
      have hN3 := w3.2.2.1
      have hT3 := tO_yf hT ht w3.2.2.2.1
      have ht3 : t < nt2 := by have hle := w3.1; omega
      refine jx_eq (st2 := []) rfl rfl rfl ?_
      refine jx_of (fun _ _ kz => jw_aload_n 1 d_Y_pollBoth_74 rfl rfl kz) ?_
      refine jx_of (fun _ _ kz => jw_iload_n 2 d_Y_pollBoth_75 rfl rfl kz) ?_
      refine jx_of (fun _ _ kz => jw_iload d_Y_pollBoth_76 rfl kz) ?_
      refine jx_callV (y_T_follow (d + 1) t p n o k ((nI e2)) hT3  hk) mt_T_follow cf_T rfl rfl ml_Y_329 im_T_follow se_T_follow d_Y_pollBoth_78 rfl rfl (Nat.le_of_ble_eq_true rfl) ?_
      rintro _ M4 ⟨rfl, c4⟩
      have w4 := yv_tc w3 c4
      have h4 := w4.2.1
      have hN4 := w4.2.2.1
      have hT4 := tO_yf hT ht w4.2.2.2.1
      have ht4 : t < nt2 := by have hle := w4.1; omega
      refine jx_eq (st2 := []) rfl rfl rfl ?_
      refine jx_of (fun _ _ kz => jw_goto 114 d_Y_pollBoth_81 (by decide) kz) ?_
      refine jx_vret d_Y_pollBoth_114 rfl ?_
      first | exact ⟨rfl, _, w4⟩ | exact ⟨rfl, _, w3⟩ | exact ⟨rfl, _, w2⟩ | exact ⟨rfl, _, w1⟩ | exact ⟨rfl, _, w0⟩
  · skip
    refine jx_of (fun _ _ kz => jw_aload_n 0 d_Y_pollBoth_34 rfl rfl kz) ?_
    refine jx_of (fun _ _ kz => jw_aload_n 1 d_Y_pollBoth_35 rfl rfl kz) ?_
    refine jx_of (fun _ _ kz => jw_iload d_Y_pollBoth_36 rfl kz) ?_
    refine jx_callV (y_Y_drop d t p n o ((nI e2)) np nt1 h1  ht1 hT1) mt_Y_drop cf_Y rfl rfl ml_Y_126 im_Y_drop se_Y_drop d_Y_pollBoth_38 rfl rfl (Nat.le_of_ble_eq_true rfl) ?_
    rintro _ M2 ⟨rfl, g2, k2⟩
    have w2 := yv_yk w1 g2 k2
    have h2 := w2.2.1
    have hN2 := w2.2.2.1
    have hT2 := tO_yf hT ht w2.2.2.2.1
    have ht2 : t < nt1 := by have hle := w2.1; omega
    refine jx_eq (st2 := []) rfl rfl rfl ?_
    refine jx_of (fun _ _ kz => jw_aload_n 1 d_Y_pollBoth_41 rfl rfl kz) ?_
    refine jx_of (fun _ _ kz => jw_iload_n 2 d_Y_pollBoth_42 rfl rfl kz) ?_
    refine jx_of (fun _ _ kz => jw_iload d_Y_pollBoth_43 rfl kz) ?_
    refine jx_callV (y_T_follow (d + 1) t p n o k ((nI (k + 1))) hT2  hk) mt_T_follow cf_T rfl rfl ml_Y_329 im_T_follow se_T_follow d_Y_pollBoth_45 rfl rfl (Nat.le_of_ble_eq_true rfl) ?_
    rintro _ M3 ⟨rfl, c3⟩
    have w3 := yv_tc w2 c3
    have h3 := w3.2.1
    have hN3 := w3.2.2.1
    have hT3 := tO_yf hT ht w3.2.2.2.1
    have ht3 : t < nt1 := by have hle := w3.1; omega
    refine jx_eq (st2 := []) rfl rfl rfl ?_
    refine jx_vret d_Y_pollBoth_48 rfl ?_
    first | exact ⟨rfl, _, w4⟩ | exact ⟨rfl, _, w3⟩ | exact ⟨rfl, _, w2⟩ | exact ⟨rfl, _, w1⟩ | exact ⟨rfl, _, w0⟩
set_option maxRecDepth 20000 in
set_option maxHeartbeats 4000000 in
theorem y_Y_pollFirst {G : Gt} {M : Me} (d : Nat) (t : Nat) (p : Nat) (n : Nat) (o : Nat → Nat) (k : Nat) (j : Nat) (np : Nat) (nt : Nat) (hY : yI M np nt) (hq : yq G (d + 4) t p n o np (j + 1)) (hN : yN M np nt) (ht : t < nt) (hT : tO M t p n o) (hk : k < 12) : sx G yt_Y_pollFirst yn_Y_pollFirst (d + 5) [.inr (some (0, 0)), .inr (some (2, t)), .inl (nI k), .inl (nI j)] M (fun r M' => r = none ∧ ∃ nt', yv np nt nt' M M') := by
  refine sx_of (k := 2) (lc := [some (.inr (some (0, 0))), some (.inr (some (2, t))), some (.inl (nI k)), some (.inl (nI j)), none, none]) mt_Y_pollFirst (Nat.le_of_ble_eq_true rfl) rfl ?_
  have w0 := yv_rf hY hN
  refine jx_of (fun _ _ kz => jw_iload_n 2 d_Y_pollFirst_0 rfl rfl kz) ?_
  refine jx_of (fun _ _ kz => jw_iconst 1 d_Y_pollFirst_1 (by decide) kz) ?_
  refine jx_of (fun _ _ kz => jw_iadd d_Y_pollFirst_2 kz) ?_
  rw [show ((nI k) + 1 : Int32) = nI (k + 1) from nI_1 _]
  refine jx_of (fun _ _ kz => jw_istore d_Y_pollFirst_3 (Nat.le_of_ble_eq_true rfl) kz) ?_
  dsimp only [List.set]
  refine jx_of (fun _ _ kz => jw_aload_n 1 d_Y_pollFirst_5 rfl rfl kz) ?_
  refine jx_of (fun _ _ kz => jw_getPe (some (1, p)) fl_Y_257 d_Y_pollFirst_6 rfl rfl (by simp [me_I_sI, me_I_sP, me_I_nx, me_P_sI, me_P_sP, me_P_nx, me_N_sI, me_N_sP, me_N_nx, me_L_sI, me_L_sP, me_L_nx, show me_P M 2 t 2 = some (1, p) from hT.1.1]) kz) ?_
  refine jx_of (fun _ _ kz => jw_iload d_Y_pollFirst_9 rfl kz) ?_
  refine jx_callV (y_P_endOf (d + 2) p n o ((nI (k + 1))) hT.2) mt_P_endOf cf_P rfl rfl ml_Y_335 im_P_endOf se_P_endOf d_Y_pollFirst_11 rfl rfl (Nat.le_of_ble_eq_true rfl) ?_
  rintro _ _ ⟨⟨e2, he2, rfl⟩, rfl⟩
  refine jx_eq (st2 := [.inl (nI e2)]) rfl rfl rfl ?_
  refine jx_of (fun _ _ kz => jw_istore d_Y_pollFirst_14 (Nat.le_of_ble_eq_true rfl) kz) ?_
  dsimp only [List.set]
  refine jx_of (fun _ _ kz => jw_aload_n 0 d_Y_pollFirst_16 rfl rfl kz) ?_
  refine jx_of (fun _ _ kz => jw_aload_n 1 d_Y_pollFirst_17 rfl rfl kz) ?_
  refine jx_of (fun _ _ kz => jw_iload d_Y_pollFirst_18 rfl kz) ?_
  refine jx_of (fun _ _ kz => jw_iload_n 3 d_Y_pollFirst_20 rfl rfl kz) ?_
  refine jx_of (fun _ _ kz => jw_iconst 1 d_Y_pollFirst_21 (by decide) kz) ?_
  refine jx_of (fun _ _ kz => jw_iadd d_Y_pollFirst_22 kz) ?_
  rw [show ((nI j) + 1 : Int32) = nI (j + 1) from nI_1 _]
  refine jx_callV (y_hq (d + 4) t p n o ((nI (k + 1))) ((j + 1)) np nt hY  hq hN ht hT) mt_Y_poll cf_Y rfl rfl ml_Y_240 im_Y_poll se_Y_poll d_Y_pollFirst_23 rfl rfl (Nat.le_of_ble_eq_true rfl) ?_
  rintro _ M1 ⟨⟨v1, rfl⟩, nt1, u1⟩
  have w1 := yv_tr w0 u1
  have h1 := w1.2.1
  have hN1 := w1.2.2.1
  have hT1 := tO_yf hT ht w1.2.2.2.1
  have ht1 : t < nt1 := by have hle := w1.1; omega
  refine jx_eq (st2 := [.inl v1]) rfl rfl rfl ?_
  refine jx_of (fun _ _ kz => jw_iconst 1 d_Y_pollFirst_26 (by decide) kz) ?_
  refine jx_icmp_eq 47 d_Y_pollFirst_27 (by decide) (fun b_27 => ?_) (fun b_27 => ?_)
  · skip
    refine jx_of (fun _ _ kz => jw_aload_n 0 d_Y_pollFirst_47 rfl rfl kz) ?_
    refine jx_of (fun _ _ kz => jw_aload_n 1 d_Y_pollFirst_48 rfl rfl kz) ?_
    refine jx_of (fun _ _ kz => jw_iload d_Y_pollFirst_49 rfl kz) ?_
    refine jx_of (fun _ _ kz => jw_iload_n 3 d_Y_pollFirst_51 rfl rfl kz) ?_
    refine jx_of (fun _ _ kz => jw_iconst 1 d_Y_pollFirst_52 (by decide) kz) ?_
    refine jx_of (fun _ _ kz => jw_iadd d_Y_pollFirst_53 kz) ?_
    rw [show ((nI j) + 1 : Int32) = nI (j + 1) from nI_1 _]
    refine jx_callV (y_hq (d + 4) t p n o ((nI e2)) ((j + 1)) np nt1 h1  hq hN1 ht1 hT1) mt_Y_poll cf_Y rfl rfl ml_Y_240 im_Y_poll se_Y_poll d_Y_pollFirst_54 rfl rfl (Nat.le_of_ble_eq_true rfl) ?_
    rintro _ M2 ⟨⟨v2, rfl⟩, nt2, u2⟩
    have w2 := yv_tr w1 u2
    have h2 := w2.2.1
    have hN2 := w2.2.2.1
    have hT2 := tO_yf hT ht w2.2.2.2.1
    have ht2 : t < nt2 := by have hle := w2.1; omega
    refine jx_eq (st2 := [.inl v2]) rfl rfl rfl ?_
    refine jx_of (fun _ _ kz => jw_iconst 1 d_Y_pollFirst_57 (by decide) kz) ?_
    refine jx_icmp_eq 75 d_Y_pollFirst_58 (by decide) (fun b_58 => ?_) (fun b_58 => ?_)
    · skip
      refine jx_vret d_Y_pollFirst_75 rfl ?_
      first | exact ⟨rfl, _, w4⟩ | exact ⟨rfl, _, w3⟩ | exact ⟨rfl, _, w2⟩ | exact ⟨rfl, _, w1⟩ | exact ⟨rfl, _, w0⟩
    · skip
      refine jx_of (fun _ _ kz => jw_aload_n 0 d_Y_pollFirst_61 rfl rfl kz) ?_
      refine jx_of (fun _ _ kz => jw_aload_n 1 d_Y_pollFirst_62 rfl rfl kz) ?_
      refine jx_of (fun _ _ kz => jw_iload d_Y_pollFirst_63 rfl kz) ?_
      refine jx_callV (y_Y_drop d t p n o ((nI (k + 1))) np nt2 h2  ht2 hT2) mt_Y_drop cf_Y rfl rfl ml_Y_126 im_Y_drop se_Y_drop d_Y_pollFirst_65 rfl rfl (Nat.le_of_ble_eq_true rfl) ?_
      rintro _ M3 ⟨rfl, g3, k3⟩
      have w3 := yv_yk w2 g3 k3
      have h3 := w3.2.1
      have hN3 := w3.2.2.1
      have hT3 := tO_yf hT ht w3.2.2.2.1
      have ht3 : t < nt2 := by have hle := w3.1; omega
      refine jx_eq (st2 := []) rfl rfl rfl ?_
      refine jx_of (fun _ _ kz => jw_aload_n 1 d_Y_pollFirst_68 rfl rfl kz) ?_
      refine jx_of (fun _ _ kz => jw_iload_n 2 d_Y_pollFirst_69 rfl rfl kz) ?_
      refine jx_of (fun _ _ kz => jw_iload d_Y_pollFirst_70 rfl kz) ?_
      refine jx_callV (y_T_follow (d + 1) t p n o k ((nI e2)) hT3  hk) mt_T_follow cf_T rfl rfl ml_Y_329 im_T_follow se_T_follow d_Y_pollFirst_72 rfl rfl (Nat.le_of_ble_eq_true rfl) ?_
      rintro _ M4 ⟨rfl, c4⟩
      have w4 := yv_tc w3 c4
      have h4 := w4.2.1
      have hN4 := w4.2.2.1
      have hT4 := tO_yf hT ht w4.2.2.2.1
      have ht4 : t < nt2 := by have hle := w4.1; omega
      refine jx_eq (st2 := []) rfl rfl rfl ?_
      refine jx_vret d_Y_pollFirst_75 rfl ?_
      first | exact ⟨rfl, _, w4⟩ | exact ⟨rfl, _, w3⟩ | exact ⟨rfl, _, w2⟩ | exact ⟨rfl, _, w1⟩ | exact ⟨rfl, _, w0⟩
  · skip
    refine jx_of (fun _ _ kz => jw_aload_n 0 d_Y_pollFirst_30 rfl rfl kz) ?_
    refine jx_of (fun _ _ kz => jw_aload_n 1 d_Y_pollFirst_31 rfl rfl kz) ?_
    refine jx_of (fun _ _ kz => jw_iload d_Y_pollFirst_32 rfl kz) ?_
    refine jx_callV (y_Y_drop d t p n o ((nI e2)) np nt1 h1  ht1 hT1) mt_Y_drop cf_Y rfl rfl ml_Y_126 im_Y_drop se_Y_drop d_Y_pollFirst_34 rfl rfl (Nat.le_of_ble_eq_true rfl) ?_
    rintro _ M2 ⟨rfl, g2, k2⟩
    have w2 := yv_yk w1 g2 k2
    have h2 := w2.2.1
    have hN2 := w2.2.2.1
    have hT2 := tO_yf hT ht w2.2.2.2.1
    have ht2 : t < nt1 := by have hle := w2.1; omega
    refine jx_eq (st2 := []) rfl rfl rfl ?_
    refine jx_of (fun _ _ kz => jw_aload_n 1 d_Y_pollFirst_37 rfl rfl kz) ?_
    refine jx_of (fun _ _ kz => jw_iload_n 2 d_Y_pollFirst_38 rfl rfl kz) ?_
    refine jx_of (fun _ _ kz => jw_iload d_Y_pollFirst_39 rfl kz) ?_
    refine jx_callV (y_T_follow (d + 1) t p n o k ((nI (k + 1))) hT2  hk) mt_T_follow cf_T rfl rfl ml_Y_329 im_T_follow se_T_follow d_Y_pollFirst_41 rfl rfl (Nat.le_of_ble_eq_true rfl) ?_
    rintro _ M3 ⟨rfl, c3⟩
    have w3 := yv_tc w2 c3
    have h3 := w3.2.1
    have hN3 := w3.2.2.1
    have hT3 := tO_yf hT ht w3.2.2.2.1
    have ht3 : t < nt1 := by have hle := w3.1; omega
    refine jx_eq (st2 := []) rfl rfl rfl ?_
    refine jx_of (fun _ _ kz => jw_goto 75 d_Y_pollFirst_44 (by decide) kz) ?_
    refine jx_vret d_Y_pollFirst_75 rfl ?_
    first | exact ⟨rfl, _, w4⟩ | exact ⟨rfl, _, w3⟩ | exact ⟨rfl, _, w2⟩ | exact ⟨rfl, _, w1⟩ | exact ⟨rfl, _, w0⟩
set_option maxRecDepth 20000 in
set_option maxHeartbeats 4000000 in
theorem y_Y_pw25 {G : Gt} {M : Me} (d t p n : Nat) (o : Nat → Nat) (k j np nt : Nat) (hq : yq G (d + 4) t p n o np (j + 1)) (ht : t < nt) (hT : tO M t p n o) (hk : k < 12) (c0 s0 : Nat) (M0 : Me) (w0 : yv np nt nt M M0) : jx G yt_Y_pollWithin (d + 5) c0 s0 M0 25 [some (.inr (some (0, 0))), some (.inr (some (2, t))), some (.inl (nI k)), some (.inl (nI j)), some (.inl (nI (k + 1)))] [] (fun r M' => r = none ∧ ∃ nt', yv np nt nt' M M') := by
  have h0 := w0.2.1
  have hN0 := w0.2.2.1
  have hT0 := tO_yf hT ht w0.2.2.2.1
  have ht0 := ht
  have h12 := hT.2.2.1
  refine jx_of (fun _ _ kz => jw_aload_n 0 d_Y_pollWithin_25 rfl rfl kz) ?_
  refine jx_of (fun _ _ kz => jw_aload_n 1 d_Y_pollWithin_26 rfl rfl kz) ?_
  refine jx_of (fun _ _ kz => jw_iload d_Y_pollWithin_27 rfl kz) ?_
  refine jx_of (fun _ _ kz => jw_iload_n 3 d_Y_pollWithin_29 rfl rfl kz) ?_
  refine jx_of (fun _ _ kz => jw_iconst 1 d_Y_pollWithin_30 (by decide) kz) ?_
  refine jx_of (fun _ _ kz => jw_iadd d_Y_pollWithin_31 kz) ?_
  rw [show ((nI j) + 1 : Int32) = nI (j + 1) from nI_1 _]
  refine jx_callV (y_hq (d + 4) t p n o ((nI (k + 1))) ((j + 1)) np nt h0  hq hN0 ht0 hT0) mt_Y_poll cf_Y rfl rfl ml_Y_240 im_Y_poll se_Y_poll d_Y_pollWithin_32 rfl rfl (Nat.le_of_ble_eq_true rfl) ?_
  rintro _ M1 ⟨⟨v1, rfl⟩, nt1, u1⟩
  have w1 := yv_tr w0 u1
  have h1 := w1.2.1
  have hN1 := w1.2.2.1
  have hT1 := tO_yf hT ht w1.2.2.2.1
  have ht1 : t < nt1 := by have hle := w1.1; omega
  refine jx_eq (st2 := [.inl v1]) rfl rfl rfl ?_
  refine jx_of (fun _ _ kz => jw_iconst 1 d_Y_pollWithin_35 (by decide) kz) ?_
  refine jx_icmp_eq 49 d_Y_pollWithin_36 (by decide) (fun b_36 => ?_) (fun b_36 => ?_)
  · skip
    refine jx_of (fun _ _ kz => jw_aload_n 0 d_Y_pollWithin_49 rfl rfl kz) ?_
    refine jx_of (fun _ _ kz => jw_getIe (_) fl_Y_66 d_Y_pollWithin_50 rfl rfl rfl kz) ?_
    refine jx_of (fun _ _ kz => jw_aload_n 1 d_Y_pollWithin_53 rfl rfl kz) ?_
    refine jx_of (fun _ _ kz => jw_getPe (some (16, t)) fl_Y_204 d_Y_pollWithin_54 rfl rfl (by simp [me_I_sI, me_I_sP, me_I_nx, me_P_sI, me_P_sP, me_P_nx, me_N_sI, me_N_sP, me_N_nx, me_L_sI, me_L_sP, me_L_nx, show me_P M1 2 t 10 = some (16, t) from hT1.1.2.2.2.1]) kz) ?_
    refine jx_of (fun _ _ kz => jw_iload_n 2 d_Y_pollWithin_57 rfl rfl kz) ?_
    refine jx_of (fun _ _ kz => jw_ialde (_) d_Y_pollWithin_58 rfl rfl (by rw [show me_L _ 16 t = 12 from (by simp [me_I_sI, me_I_sP, me_I_nx, me_P_sI, me_P_sP, me_P_nx, me_N_sI, me_N_sP, me_N_nx, me_L_sI, me_L_sP, me_L_nx, show me_L M1 16 t = 12 from hT1.1.2.2.2.2.2.2])]; exact (vp_in_nI (by omega) (by omega))) rfl kz) ?_
    refine jx_of (fun _ _ kz => jw_isub d_Y_pollWithin_59 kz) ?_
    refine jx_of (fun _ _ kz => jw_aload_n 1 d_Y_pollWithin_60 rfl rfl kz) ?_
    refine jx_of (fun _ _ kz => jw_getPe (some (1, p)) fl_Y_257 d_Y_pollWithin_61 rfl rfl (by simp [me_I_sI, me_I_sP, me_I_nx, me_P_sI, me_P_sP, me_P_nx, me_N_sI, me_N_sP, me_N_nx, me_L_sI, me_L_sP, me_L_nx, show me_P M1 2 t 2 = some (1, p) from hT1.1.1]) kz) ?_
    refine jx_of (fun _ _ kz => jw_getPe (some (12, p)) fl_Y_266 d_Y_pollWithin_64 rfl rfl (by simp [me_I_sI, me_I_sP, me_I_nx, me_P_sI, me_P_sP, me_P_nx, me_N_sI, me_N_sP, me_N_nx, me_L_sI, me_L_sP, me_L_nx, show me_P M1 1 p 1 = some (12, p) from hT1.2.1.2.1]) kz) ?_
    refine jx_of (fun _ _ kz => jw_iload_n 2 d_Y_pollWithin_67 rfl rfl kz) ?_
    refine jx_of (fun _ _ kz => jw_ialde (_) d_Y_pollWithin_68 rfl rfl (by rw [show me_L _ 12 p = 12 from (by simp [me_I_sI, me_I_sP, me_I_nx, me_P_sI, me_P_sP, me_P_nx, me_N_sI, me_N_sP, me_N_nx, me_L_sI, me_L_sP, me_L_nx, show me_L M1 12 p = 12 from hT1.2.1.2.2.2.2.1])]; exact (vp_in_nI (by omega) (by omega))) rfl kz) ?_
    refine jx_icmp_lt 85 d_Y_pollWithin_69 (by decide) (fun b_69 => ?_) (fun b_69 => ?_)
    · skip
      refine jx_vret d_Y_pollWithin_85 rfl ?_
      first | exact ⟨rfl, _, w3⟩ | exact ⟨rfl, _, w2⟩ | exact ⟨rfl, _, w1⟩ | exact ⟨rfl, _, w0⟩
    · skip
      refine jx_of (fun _ _ kz => jw_aload_n 0 d_Y_pollWithin_72 rfl rfl kz) ?_
      refine jx_of (fun _ _ kz => jw_aload_n 1 d_Y_pollWithin_73 rfl rfl kz) ?_
      refine jx_of (fun _ _ kz => jw_iload d_Y_pollWithin_74 rfl kz) ?_
      refine jx_callV (y_Y_drop d t p n o ((nI (k + 1))) np nt1 h1  ht1 hT1) mt_Y_drop cf_Y rfl rfl ml_Y_126 im_Y_drop se_Y_drop d_Y_pollWithin_76 rfl rfl (Nat.le_of_ble_eq_true rfl) ?_
      rintro _ M2 ⟨rfl, g2, k2⟩
      have w2 := yv_yk w1 g2 k2
      have h2 := w2.2.1
      have hN2 := w2.2.2.1
      have hT2 := tO_yf hT ht w2.2.2.2.1
      have ht2 : t < nt1 := by have hle := w2.1; omega
      refine jx_eq (st2 := []) rfl rfl rfl ?_
      refine jx_of (fun _ _ kz => jw_aload_n 1 d_Y_pollWithin_79 rfl rfl kz) ?_
      refine jx_of (fun _ _ kz => jw_iload_n 2 d_Y_pollWithin_80 rfl rfl kz) ?_
      refine jx_of (fun _ _ kz => jw_iconst (-1) d_Y_pollWithin_81 (by decide) kz) ?_
      refine jx_callV (y_T_makeReady (d + 3) t p n o k (((-1))) hT2  hk) mt_T_makeReady cf_T rfl rfl ml_Y_272 im_T_makeReady se_T_makeReady d_Y_pollWithin_82 rfl rfl (Nat.le_of_ble_eq_true rfl) ?_
      rintro _ M3 ⟨rfl, c3⟩
      have w3 := yv_tc w2 c3
      have h3 := w3.2.1
      have hN3 := w3.2.2.1
      have hT3 := tO_yf hT ht w3.2.2.2.1
      have ht3 : t < nt1 := by have hle := w3.1; omega
      refine jx_eq (st2 := []) rfl rfl rfl ?_
      refine jx_vret d_Y_pollWithin_85 rfl ?_
      first | exact ⟨rfl, _, w3⟩ | exact ⟨rfl, _, w2⟩ | exact ⟨rfl, _, w1⟩ | exact ⟨rfl, _, w0⟩
  · skip
    refine jx_of (fun _ _ kz => jw_aload_n 1 d_Y_pollWithin_39 rfl rfl kz) ?_
    refine jx_of (fun _ _ kz => jw_iload_n 2 d_Y_pollWithin_40 rfl rfl kz) ?_
    refine jx_of (fun _ _ kz => jw_iload d_Y_pollWithin_41 rfl kz) ?_
    refine jx_callV (y_T_follow (d + 1) t p n o k ((nI (k + 1))) hT1  hk) mt_T_follow cf_T rfl rfl ml_Y_329 im_T_follow se_T_follow d_Y_pollWithin_43 rfl rfl (Nat.le_of_ble_eq_true rfl) ?_
    rintro _ M2 ⟨rfl, c2⟩
    have w2 := yv_tc w1 c2
    have h2 := w2.2.1
    have hN2 := w2.2.2.1
    have hT2 := tO_yf hT ht w2.2.2.2.1
    have ht2 : t < nt1 := by have hle := w2.1; omega
    refine jx_eq (st2 := []) rfl rfl rfl ?_
    refine jx_of (fun _ _ kz => jw_goto 85 d_Y_pollWithin_46 (by decide) kz) ?_
    refine jx_vret d_Y_pollWithin_85 rfl ?_
    first | exact ⟨rfl, _, w3⟩ | exact ⟨rfl, _, w2⟩ | exact ⟨rfl, _, w1⟩ | exact ⟨rfl, _, w0⟩
set_option maxRecDepth 20000 in
set_option maxHeartbeats 4000000 in
theorem y_Y_pollWithin {G : Gt} {M : Me} (d : Nat) (t : Nat) (p : Nat) (n : Nat) (o : Nat → Nat) (k : Nat) (j : Nat) (np : Nat) (nt : Nat) (hY : yI M np nt) (hq : yq G (d + 4) t p n o np (j + 1)) (hN : yN M np nt) (ht : t < nt) (hT : tO M t p n o) (hk : k < 12) : sx G yt_Y_pollWithin yn_Y_pollWithin (d + 5) [.inr (some (0, 0)), .inr (some (2, t)), .inl (nI k), .inl (nI j)] M (fun r M' => r = none ∧ ∃ nt', yv np nt nt' M M') := by
  refine sx_of (k := 1) (lc := [some (.inr (some (0, 0))), some (.inr (some (2, t))), some (.inl (nI k)), some (.inl (nI j)), none]) mt_Y_pollWithin (Nat.le_of_ble_eq_true rfl) rfl ?_
  have w0 := yv_rf hY hN
  refine jx_of (fun _ _ kz => jw_iload_n 2 d_Y_pollWithin_0 rfl rfl kz) ?_
  refine jx_of (fun _ _ kz => jw_iconst 1 d_Y_pollWithin_1 (by decide) kz) ?_
  refine jx_of (fun _ _ kz => jw_iadd d_Y_pollWithin_2 kz) ?_
  rw [show ((nI k) + 1 : Int32) = nI (k + 1) from nI_1 _]
  refine jx_of (fun _ _ kz => jw_istore d_Y_pollWithin_3 (Nat.le_of_ble_eq_true rfl) kz) ?_
  dsimp only [List.set]
  refine jx_of (fun _ _ kz => jw_aload_n 1 d_Y_pollWithin_5 rfl rfl kz) ?_
  refine jx_of (fun _ _ kz => jw_getPe (some (16, t)) fl_Y_204 d_Y_pollWithin_6 rfl rfl (by simp [me_I_sI, me_I_sP, me_I_nx, me_P_sI, me_P_sP, me_P_nx, me_N_sI, me_N_sP, me_N_nx, me_L_sI, me_L_sP, me_L_nx, show me_P M 2 t 10 = some (16, t) from hT.1.2.2.2.1]) kz) ?_
  refine jx_of (fun _ _ kz => jw_iload_n 2 d_Y_pollWithin_9 rfl rfl kz) ?_
  refine jx_of (fun _ _ kz => jw_ialde (me_I M 16 t k) d_Y_pollWithin_10 rfl rfl (by rw [show me_L _ 16 t = 12 from (by simp [me_I_sI, me_I_sP, me_I_nx, me_P_sI, me_P_sP, me_P_nx, me_N_sI, me_N_sP, me_N_nx, me_L_sI, me_L_sP, me_L_nx, show me_L M 16 t = 12 from hT.1.2.2.2.2.2.2])]; exact (vp_in_nI (by omega) (by omega))) (by rw [nI_clamp (by omega)]) kz) ?_
  refine jx_of (fun _ _ kz => jw_iconst (-1) d_Y_pollWithin_11 (by decide) kz) ?_
  refine jx_icmp_ne 25 d_Y_pollWithin_12 (by decide) (fun b_12 => ?_) (fun b_12 => ?_)
  · skip
    first | exact y_Y_pw25 d t p n o k j np nt hq ht hT hk _ _ M w0 | exact y_Y_pw25 d t p n o k j np nt hq ht hT hk _ _ _ (yv_tc w0 (tc_sI tc_rf (by omega)))
  · skip
    refine jx_of (fun _ _ kz => jw_aload_n 1 d_Y_pollWithin_15 rfl rfl kz) ?_
    refine jx_of (fun _ _ kz => jw_getPe (some (16, t)) fl_Y_204 d_Y_pollWithin_16 rfl rfl (by simp [me_I_sI, me_I_sP, me_I_nx, me_P_sI, me_P_sP, me_P_nx, me_N_sI, me_N_sP, me_N_nx, me_L_sI, me_L_sP, me_L_nx, show me_P M 2 t 10 = some (16, t) from hT.1.2.2.2.1]) kz) ?_
    refine jx_of (fun _ _ kz => jw_iload_n 2 d_Y_pollWithin_19 rfl rfl kz) ?_
    refine jx_of (fun _ _ kz => jw_aload_n 0 d_Y_pollWithin_20 rfl rfl kz) ?_
    refine jx_of (fun _ _ kz => jw_getIe (me_I M 0 0 10) fl_Y_66 d_Y_pollWithin_21 rfl rfl (by simp [me_I_sI, me_I_sP, me_I_nx, me_P_sI, me_P_sP, me_P_nx, me_N_sI, me_N_sP, me_N_nx, me_L_sI, me_L_sP, me_L_nx]) kz) ?_
    refine jx_of (fun _ _ kz => jw_iast d_Y_pollWithin_24 rfl rfl (by rw [show me_L _ 16 t = 12 from (by simp [me_I_sI, me_I_sP, me_I_nx, me_P_sI, me_P_sP, me_P_nx, me_N_sI, me_N_sP, me_N_nx, me_L_sI, me_L_sP, me_L_nx, show me_L M 16 t = 12 from hT.1.2.2.2.2.2.2])]; exact (vp_in_nI (by omega) (by omega))) kz) ?_
    rw [nI_clamp (by omega)]
    first | exact y_Y_pw25 d t p n o k j np nt hq ht hT hk _ _ M w0 | exact y_Y_pw25 d t p n o k j np nt hq ht hT hk _ _ _ (yv_tc w0 (tc_sI tc_rf (by omega)))
set_option maxRecDepth 20000 in
set_option maxHeartbeats 4000000 in
theorem y_Y_pollAdd {G : Gt} {M : Me} (d : Nat) (t : Nat) (p : Nat) (n : Nat) (o : Nat → Nat) (k : Nat) (j : Nat) (np : Nat) (nt : Nat) (hY : yI M np nt) (hq : yq G (d + 4) t p n o np (j + 1)) (hN : yN M np nt) (ht : t < nt) (hT : tO M t p n o) (hk : k < 12) : sx G yt_Y_pollAdd yn_Y_pollAdd (d + 5) [.inr (some (0, 0)), .inr (some (2, t)), .inl (nI k), .inl (nI j)] M (fun r M' => r = none ∧ ∃ nt', yv np nt nt' M M') := by
  refine sx_of (k := 1) (lc := [some (.inr (some (0, 0))), some (.inr (some (2, t))), some (.inl (nI k)), some (.inl (nI j)), none]) mt_Y_pollAdd (Nat.le_of_ble_eq_true rfl) rfl ?_
  have w0 := yv_rf hY hN
  refine jx_of (fun _ _ kz => jw_iload_n 2 d_Y_pollAdd_0 rfl rfl kz) ?_
  refine jx_of (fun _ _ kz => jw_iconst 1 d_Y_pollAdd_1 (by decide) kz) ?_
  refine jx_of (fun _ _ kz => jw_iadd d_Y_pollAdd_2 kz) ?_
  rw [show ((nI k) + 1 : Int32) = nI (k + 1) from nI_1 _]
  refine jx_of (fun _ _ kz => jw_istore d_Y_pollAdd_3 (Nat.le_of_ble_eq_true rfl) kz) ?_
  dsimp only [List.set]
  refine jx_of (fun _ _ kz => jw_aload_n 0 d_Y_pollAdd_5 rfl rfl kz) ?_
  refine jx_of (fun _ _ kz => jw_aload_n 1 d_Y_pollAdd_6 rfl rfl kz) ?_
  refine jx_of (fun _ _ kz => jw_iload d_Y_pollAdd_7 rfl kz) ?_
  refine jx_of (fun _ _ kz => jw_iload_n 3 d_Y_pollAdd_9 rfl rfl kz) ?_
  refine jx_of (fun _ _ kz => jw_iconst 1 d_Y_pollAdd_10 (by decide) kz) ?_
  refine jx_of (fun _ _ kz => jw_iadd d_Y_pollAdd_11 kz) ?_
  rw [show ((nI j) + 1 : Int32) = nI (j + 1) from nI_1 _]
  refine jx_callV (y_hq (d + 4) t p n o ((nI (k + 1))) ((j + 1)) np nt hY  hq hN ht hT) mt_Y_poll cf_Y rfl rfl ml_Y_240 im_Y_poll se_Y_poll d_Y_pollAdd_12 rfl rfl (Nat.le_of_ble_eq_true rfl) ?_
  rintro _ M1 ⟨⟨v1, rfl⟩, nt1, u1⟩
  have w1 := yv_tr w0 u1
  have h1 := w1.2.1
  have hN1 := w1.2.2.1
  have hT1 := tO_yf hT ht w1.2.2.2.1
  have ht1 : t < nt1 := by have hle := w1.1; omega
  refine jx_eq (st2 := [.inl v1]) rfl rfl rfl ?_
  refine jx_of (fun _ _ kz => jw_iconst 2 d_Y_pollAdd_15 (by decide) kz) ?_
  refine jx_icmp_ne 43 d_Y_pollAdd_16 (by decide) (fun b_16 => ?_) (fun b_16 => ?_)
  · skip
    refine jx_of (fun _ _ kz => jw_aload_n 1 d_Y_pollAdd_43 rfl rfl kz) ?_
    refine jx_of (fun _ _ kz => jw_iload_n 2 d_Y_pollAdd_44 rfl rfl kz) ?_
    refine jx_of (fun _ _ kz => jw_iload d_Y_pollAdd_45 rfl kz) ?_
    refine jx_callV (y_T_follow (d + 1) t p n o k ((nI (k + 1))) hT1  hk) mt_T_follow cf_T rfl rfl ml_Y_329 im_T_follow se_T_follow d_Y_pollAdd_47 rfl rfl (Nat.le_of_ble_eq_true rfl) ?_
    rintro _ M2 ⟨rfl, c2⟩
    have w2 := yv_tc w1 c2
    have h2 := w2.2.1
    have hN2 := w2.2.2.1
    have hT2 := tO_yf hT ht w2.2.2.2.1
    have ht2 : t < nt1 := by have hle := w2.1; omega
    refine jx_eq (st2 := []) rfl rfl rfl ?_
    refine jx_vret d_Y_pollAdd_50 rfl ?_
    first | exact ⟨rfl, _, w2⟩ | exact ⟨rfl, _, w1⟩ | exact ⟨rfl, _, w0⟩
  · skip
    refine jx_of (fun _ _ kz => jw_aload_n 1 d_Y_pollAdd_19 rfl rfl kz) ?_
    refine jx_of (fun _ _ kz => jw_iload_n 2 d_Y_pollAdd_20 rfl rfl kz) ?_
    refine jx_of (fun _ _ kz => jw_aload_n 1 d_Y_pollAdd_21 rfl rfl kz) ?_
    refine jx_of (fun _ _ kz => jw_iload d_Y_pollAdd_22 rfl kz) ?_
    refine jx_callV (y_T_resultOf (d + 2) t p n o ((nI (k + 1))) hT1) mt_T_resultOf cf_T rfl rfl ml_Y_332 im_T_resultOf se_T_resultOf d_Y_pollAdd_24 rfl rfl (Nat.le_of_ble_eq_true rfl) ?_
    rintro _ _ ⟨⟨vr, rfl⟩, rfl⟩
    refine jx_eq (st2 := [.inl vr, .inl (nI k), .inr (some (2, t))]) rfl rfl rfl ?_
    refine jx_of (fun _ _ kz => jw_aload_n 1 d_Y_pollAdd_27 rfl rfl kz) ?_
    refine jx_of (fun _ _ kz => jw_getPe (some (1, p)) fl_Y_257 d_Y_pollAdd_28 rfl rfl (by simp [me_I_sI, me_I_sP, me_I_nx, me_P_sI, me_P_sP, me_P_nx, me_N_sI, me_N_sP, me_N_nx, me_L_sI, me_L_sP, me_L_nx, show me_P M1 2 t 2 = some (1, p) from hT1.1.1]) kz) ?_
    refine jx_of (fun _ _ kz => jw_getPe (some (12, p)) fl_Y_266 d_Y_pollAdd_31 rfl rfl (by simp [me_I_sI, me_I_sP, me_I_nx, me_P_sI, me_P_sP, me_P_nx, me_N_sI, me_N_sP, me_N_nx, me_L_sI, me_L_sP, me_L_nx, show me_P M1 1 p 1 = some (12, p) from hT1.2.1.2.1]) kz) ?_
    refine jx_of (fun _ _ kz => jw_iload_n 2 d_Y_pollAdd_34 rfl rfl kz) ?_
    refine jx_of (fun _ _ kz => jw_ialde (me_I M1 12 p k) d_Y_pollAdd_35 rfl rfl (by rw [show me_L _ 12 p = 12 from (by simp [me_I_sI, me_I_sP, me_I_nx, me_P_sI, me_P_sP, me_P_nx, me_N_sI, me_N_sP, me_N_nx, me_L_sI, me_L_sP, me_L_nx, show me_L M1 12 p = 12 from hT1.2.1.2.2.2.2.1])]; exact (vp_in_nI (by omega) (by omega))) (by rw [nI_clamp (by omega)]) kz) ?_
    refine jx_of (fun _ _ kz => jw_iadd d_Y_pollAdd_36 kz) ?_
    refine jx_callV (y_T_makeReady (d + 3) t p n o k ((vr + (me_I M1 12 p k))) hT1  hk) mt_T_makeReady cf_T rfl rfl ml_Y_272 im_T_makeReady se_T_makeReady d_Y_pollAdd_37 rfl rfl (Nat.le_of_ble_eq_true rfl) ?_
    rintro _ M2 ⟨rfl, c2⟩
    have w2 := yv_tc w1 c2
    have h2 := w2.2.1
    have hN2 := w2.2.2.1
    have hT2 := tO_yf hT ht w2.2.2.2.1
    have ht2 : t < nt1 := by have hle := w2.1; omega
    refine jx_eq (st2 := []) rfl rfl rfl ?_
    refine jx_of (fun _ _ kz => jw_goto 50 d_Y_pollAdd_40 (by decide) kz) ?_
    refine jx_vret d_Y_pollAdd_50 rfl ?_
    first | exact ⟨rfl, _, w2⟩ | exact ⟨rfl, _, w1⟩ | exact ⟨rfl, _, w0⟩
set_option maxRecDepth 20000 in
set_option maxHeartbeats 4000000 in
theorem y_Y_pollCatch {G : Gt} {M : Me} (d : Nat) (t : Nat) (p : Nat) (n : Nat) (o : Nat → Nat) (k : Nat) (j : Nat) (np : Nat) (nt : Nat) (hY : yI M np nt) (hq : yq G (d + 4) t p n o np (j + 1)) (hN : yN M np nt) (ht : t < nt) (hT : tO M t p n o) (hk : k < 12) : sx G yt_Y_pollCatch yn_Y_pollCatch (d + 5) [.inr (some (0, 0)), .inr (some (2, t)), .inl (nI k), .inl (nI j)] M (fun r M' => r = none ∧ ∃ nt', yv np nt nt' M M') := by
  refine sx_of (k := 1) (lc := [some (.inr (some (0, 0))), some (.inr (some (2, t))), some (.inl (nI k)), some (.inl (nI j)), none]) mt_Y_pollCatch (Nat.le_of_ble_eq_true rfl) rfl ?_
  have w0 := yv_rf hY hN
  refine jx_of (fun _ _ kz => jw_iload_n 2 d_Y_pollCatch_0 rfl rfl kz) ?_
  refine jx_of (fun _ _ kz => jw_iconst 1 d_Y_pollCatch_1 (by decide) kz) ?_
  refine jx_of (fun _ _ kz => jw_iadd d_Y_pollCatch_2 kz) ?_
  rw [show ((nI k) + 1 : Int32) = nI (k + 1) from nI_1 _]
  refine jx_of (fun _ _ kz => jw_istore d_Y_pollCatch_3 (Nat.le_of_ble_eq_true rfl) kz) ?_
  dsimp only [List.set]
  refine jx_of (fun _ _ kz => jw_aload_n 0 d_Y_pollCatch_5 rfl rfl kz) ?_
  refine jx_of (fun _ _ kz => jw_aload_n 1 d_Y_pollCatch_6 rfl rfl kz) ?_
  refine jx_of (fun _ _ kz => jw_iload d_Y_pollCatch_7 rfl kz) ?_
  refine jx_of (fun _ _ kz => jw_iload_n 3 d_Y_pollCatch_9 rfl rfl kz) ?_
  refine jx_of (fun _ _ kz => jw_iconst 1 d_Y_pollCatch_10 (by decide) kz) ?_
  refine jx_of (fun _ _ kz => jw_iadd d_Y_pollCatch_11 kz) ?_
  rw [show ((nI j) + 1 : Int32) = nI (j + 1) from nI_1 _]
  refine jx_callV (y_hq (d + 4) t p n o ((nI (k + 1))) ((j + 1)) np nt hY  hq hN ht hT) mt_Y_poll cf_Y rfl rfl ml_Y_240 im_Y_poll se_Y_poll d_Y_pollCatch_12 rfl rfl (Nat.le_of_ble_eq_true rfl) ?_
  rintro _ M1 ⟨⟨v1, rfl⟩, nt1, u1⟩
  have w1 := yv_tr w0 u1
  have h1 := w1.2.1
  have hN1 := w1.2.2.1
  have hT1 := tO_yf hT ht w1.2.2.2.1
  have ht1 : t < nt1 := by have hle := w1.1; omega
  refine jx_eq (st2 := [.inl v1]) rfl rfl rfl ?_
  refine jx_of (fun _ _ kz => jw_iconst 3 d_Y_pollCatch_15 (by decide) kz) ?_
  refine jx_icmp_ne 34 d_Y_pollCatch_16 (by decide) (fun b_16 => ?_) (fun b_16 => ?_)
  · skip
    refine jx_of (fun _ _ kz => jw_aload_n 1 d_Y_pollCatch_34 rfl rfl kz) ?_
    refine jx_of (fun _ _ kz => jw_iload_n 2 d_Y_pollCatch_35 rfl rfl kz) ?_
    refine jx_of (fun _ _ kz => jw_iload d_Y_pollCatch_36 rfl kz) ?_
    refine jx_callV (y_T_follow (d + 1) t p n o k ((nI (k + 1))) hT1  hk) mt_T_follow cf_T rfl rfl ml_Y_329 im_T_follow se_T_follow d_Y_pollCatch_38 rfl rfl (Nat.le_of_ble_eq_true rfl) ?_
    rintro _ M2 ⟨rfl, c2⟩
    have w2 := yv_tc w1 c2
    have h2 := w2.2.1
    have hN2 := w2.2.2.1
    have hT2 := tO_yf hT ht w2.2.2.2.1
    have ht2 : t < nt1 := by have hle := w2.1; omega
    refine jx_eq (st2 := []) rfl rfl rfl ?_
    refine jx_vret d_Y_pollCatch_41 rfl ?_
    first | exact ⟨rfl, _, w2⟩ | exact ⟨rfl, _, w1⟩ | exact ⟨rfl, _, w0⟩
  · skip
    refine jx_of (fun _ _ kz => jw_aload_n 1 d_Y_pollCatch_19 rfl rfl kz) ?_
    refine jx_of (fun _ _ kz => jw_iload_n 2 d_Y_pollCatch_20 rfl rfl kz) ?_
    refine jx_of (fun _ _ kz => jw_aload_n 1 d_Y_pollCatch_21 rfl rfl kz) ?_
    refine jx_of (fun _ _ kz => jw_iload d_Y_pollCatch_22 rfl kz) ?_
    refine jx_callV (y_T_resultOf (d + 2) t p n o ((nI (k + 1))) hT1) mt_T_resultOf cf_T rfl rfl ml_Y_332 im_T_resultOf se_T_resultOf d_Y_pollCatch_24 rfl rfl (Nat.le_of_ble_eq_true rfl) ?_
    rintro _ _ ⟨⟨vr, rfl⟩, rfl⟩
    refine jx_eq (st2 := [.inl vr, .inl (nI k), .inr (some (2, t))]) rfl rfl rfl ?_
    refine jx_of (fun _ _ kz => jw_ineg d_Y_pollCatch_27 kz) ?_
    refine jx_callV (y_T_makeReady (d + 3) t p n o k ((-vr)) hT1  hk) mt_T_makeReady cf_T rfl rfl ml_Y_272 im_T_makeReady se_T_makeReady d_Y_pollCatch_28 rfl rfl (Nat.le_of_ble_eq_true rfl) ?_
    rintro _ M2 ⟨rfl, c2⟩
    have w2 := yv_tc w1 c2
    have h2 := w2.2.1
    have hN2 := w2.2.2.1
    have hT2 := tO_yf hT ht w2.2.2.2.1
    have ht2 : t < nt1 := by have hle := w2.1; omega
    refine jx_eq (st2 := []) rfl rfl rfl ?_
    refine jx_of (fun _ _ kz => jw_goto 41 d_Y_pollCatch_31 (by decide) kz) ?_
    refine jx_vret d_Y_pollCatch_41 rfl ?_
    first | exact ⟨rfl, _, w2⟩ | exact ⟨rfl, _, w1⟩ | exact ⟨rfl, _, w0⟩
