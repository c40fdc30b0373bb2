set_option maxRecDepth 20000 in
set_option maxHeartbeats 4000000 in
theorem p1_end {G : Gt} {nm : String} {d : Nat} {M : Me} (g2 : G.2.2.2.2.2.1 = 3) (hb : me_C M ≤ 1000 ∧ me_S M ≤ 10000) : jx G (yt_L nm) d 0 0 M 483 [some (.inr (some (25, 0))), some (.inr (some (0, 0))), some (.inr (some (7, 0))), some (.inl 0)] [] (fun r M' => r = some (.inl 1) ∧ me_C M' ≤ 600000 ∧ me_S M' ≤ 7302250) := by
  refine jx_of (fun _ _ kz => jw_iincc 3 d_L_law_483 (by decide) rfl (Nat.le_of_ble_eq_true rfl) kz) ?_
  dsimp only [List.set]
  rw [show (0 + 3 : Int32) = 3 from by decide]
  refine jx_of (fun _ _ kz => jw_goto 18 d_L_law_486 (by decide) kz) ?_
  refine jx_of (fun _ _ kz => jw_iload_n 3 d_L_law_18 rfl rfl kz) ?_
  refine jx_of (fun _ _ kz => jw_aload_n 0 d_L_law_19 rfl rfl kz) ?_
  refine jx_of (fun _ _ kz => jw_slen d_L_law_20 kz) ?_
  rw [g2]
  refine jx_of (fun _ _ kz => jw_iconst 3 d_L_law_21 (by decide) kz) ?_
  refine jx_of (fun _ _ kz => jw_isub d_L_law_22 kz) ?_
  refine jx_icmp_gt 489 d_L_law_23 (by decide) (fun _ => ?_) (fun h => absurd (by decide) h)
  refine jx_of (fun _ _ kz => jw_iconst 1 d_L_law_489 (by decide) kz) ?_
  refine jx_zret d_L_law_490 rfl (by decide) ?_
  exact ⟨rfl, by omega, by omega⟩
set_option maxRecDepth 20000 in
set_option maxHeartbeats 4000000 in
theorem p1_body {G : Gt} {nm : String} (d : Nat) (g2 : G.2.2.2.2.2.1 = 3) : jx G (yt_L nm) (d + 10) 0 0 ma_4 18 [some (.inr (some (25, 0))), some (.inr (some (0, 0))), some (.inr (some (7, 0))), some (.inl 0)] [] (fun r M' => r = some (.inl 1) ∧ me_C M' ≤ 600000 ∧ me_S M' ≤ 7302250) := by
  refine jx_of (fun _ _ kz => jw_iload_n 3 d_L_law_18 rfl rfl kz) ?_
  refine jx_of (fun _ _ kz => jw_aload_n 0 d_L_law_19 rfl rfl kz) ?_
  refine jx_of (fun _ _ kz => jw_slen d_L_law_20 kz) ?_
  rw [g2]
  refine jx_of (fun _ _ kz => jw_iconst 3 d_L_law_21 (by decide) kz) ?_
  refine jx_of (fun _ _ kz => jw_isub d_L_law_22 kz) ?_
  refine jx_icmp_gt 489 d_L_law_23 (by decide) (fun h => absurd h (by decide)) (fun _ => ?_)
  refine jx_of (fun _ _ kz => jw_aload_n 0 d_L_law_26 rfl rfl kz) ?_
  refine jx_of (fun _ _ kz => jw_iload_n 3 d_L_law_27 rfl rfl kz) ?_
  refine jx_of (fun _ _ kz => jw_sld d_L_law_28 (by rw [g2]; unfold vp_in; decide) kz) ?_
  refine jx_of (fun _ _ kz => jw_bipush 15 d_L_law_29 (by decide) kz) ?_
  refine jx_of (fun _ _ kz => jw_iand d_L_law_31 kz) ?_
  obtain ⟨j, hj, e⟩ := pk_andE (G.2.2.2.2.2.2 (Int32.toNatClampNeg 0)) (m := 15) 4 (by decide)
  rw [e]
  rcases (show j = 0 ∨ j = 1 ∨ j = 2 ∨ j = 3 ∨ j = 4 ∨ j = 5 ∨ j = 6 ∨ j = 7 ∨ j = 8 ∨ j = 9 ∨ j = 10 ∨ j = 11 ∨ j = 12 ∨ j = 13 ∨ j = 14 ∨ j = 15 by omega) with rfl | rfl | rfl | rfl | rfl | rfl | rfl | rfl | rfl | rfl | rfl | rfl | rfl | rfl | rfl | rfl
  · skip
    refine jx_of (fun _ _ kz => jw_tabIn 108 d_L_law_32 (by decide) (by decide) rfl (by decide) kz) ?_
    obtain ⟨v, hc, hm⟩ := q_token (G := G) (M := ma_4) d (G.2.2.2.2.2.2 (Int32.toNatClampNeg 1)) (G.2.2.2.2.2.2 (Int32.toNatClampNeg 2)) ma_c ma_m
    refine jx_of (fun _ _ kz => jw_aload_n 1 d_L_law_108 rfl rfl kz) ?_
    refine jx_of (fun _ _ kz => jw_aload_n 0 d_L_law_109 rfl rfl kz) ?_
    refine jx_of (fun _ _ kz => jw_iload_n 3 d_L_law_110 rfl rfl kz) ?_
    refine jx_of (fun _ _ kz => jw_iconst 1 d_L_law_111 (by decide) kz) ?_
    refine jx_of (fun _ _ kz => jw_iadd d_L_law_112 kz) ?_
    rw [show (0 + 1 : Int32) = 1 from by decide]
    refine jx_of (fun _ _ kz => jw_sld d_L_law_113 (by rw [g2]; unfold vp_in; decide) kz) ?_
    refine jx_of (fun _ _ kz => jw_aload_n 0 d_L_law_114 rfl rfl kz) ?_
    refine jx_of (fun _ _ kz => jw_iload_n 3 d_L_law_115 rfl rfl kz) ?_
    refine jx_of (fun _ _ kz => jw_iconst 2 d_L_law_116 (by decide) kz) ?_
    refine jx_of (fun _ _ kz => jw_iadd d_L_law_117 kz) ?_
    rw [show (0 + 2 : Int32) = 2 from by decide]
    refine jx_of (fun _ _ kz => jw_sld d_L_law_118 (by rw [g2]; unfold vp_in; decide) kz) ?_
    refine jx_callV hc mt_Y_token cf_Y rfl rfl ml_L_13 im_Y_token se_Y_token d_L_law_119 rfl rfl (Nat.le_of_ble_eq_true rfl) ?_
    rintro _ M1 ⟨rfl, hk⟩
    refine jx_eq (st2 := [.inl v]) rfl rfl rfl ?_
    refine jx_of (fun _ _ kz => jw_aload_n 2 d_L_law_122 rfl rfl kz) ?_
    refine jx_of (fun _ _ kz => jw_aload_n 0 d_L_law_123 rfl rfl kz) ?_
    refine jx_of (fun _ _ kz => jw_iload_n 3 d_L_law_124 rfl rfl kz) ?_
    refine jx_of (fun _ _ kz => jw_iconst 1 d_L_law_125 (by decide) kz) ?_
    refine jx_of (fun _ _ kz => jw_iadd d_L_law_126 kz) ?_
    rw [show (0 + 1 : Int32) = 1 from by decide]
    refine jx_of (fun _ _ kz => jw_sld d_L_law_127 (by rw [g2]; unfold vp_in; decide) kz) ?_
    refine jx_of (fun _ _ kz => jw_aload_n 0 d_L_law_128 rfl rfl kz) ?_
    refine jx_of (fun _ _ kz => jw_iload_n 3 d_L_law_129 rfl rfl kz) ?_
    refine jx_of (fun _ _ kz => jw_iconst 2 d_L_law_130 (by decide) kz) ?_
    refine jx_of (fun _ _ kz => jw_iadd d_L_law_131 kz) ?_
    rw [show (0 + 2 : Int32) = 2 from by decide]
    refine jx_of (fun _ _ kz => jw_sld d_L_law_132 (by rw [g2]; unfold vp_in; decide) kz) ?_
    refine jx_callV (hm M1 hk) mt_M_token cf_M rfl rfl ml_L_17 im_M_token se_M_token d_L_law_133 rfl rfl (Nat.le_of_ble_eq_true rfl) ?_
    rintro _ M2 ⟨rfl, hn⟩
    refine jx_eq (st2 := [.inl v, .inl v]) rfl rfl rfl ?_
    refine jx_icmp_eq 483 d_L_law_136 (by decide) (fun _ => ?_) (fun h => absurd rfl h)
    exact p1_end g2 ⟨by rw [hn.1, hk.2.2.2.2.1]; exact ma_r.1, by rw [hn.2, hk.2.2.2.2.2]; exact ma_r.2⟩
  · skip
    refine jx_of (fun _ _ kz => jw_tabIn 141 d_L_law_32 (by decide) (by decide) rfl (by decide) kz) ?_
    obtain ⟨v, hc, hm⟩ := q_define (G := G) (M := ma_4) d  ma_c ma_m
    refine jx_of (fun _ _ kz => jw_aload_n 1 d_L_law_141 rfl rfl kz) ?_
    refine jx_callV hc mt_Y_define cf_Y rfl rfl ml_L_18 im_Y_define se_Y_define d_L_law_142 rfl rfl (Nat.le_of_ble_eq_true rfl) ?_
    rintro _ M1 ⟨rfl, hk⟩
    refine jx_eq (st2 := [.inl v]) rfl rfl rfl ?_
    refine jx_of (fun _ _ kz => jw_aload_n 2 d_L_law_145 rfl rfl kz) ?_
    refine jx_callV (hm M1 hk) mt_M_define cf_M rfl rfl ml_L_22 im_M_define se_M_define d_L_law_146 rfl rfl (Nat.le_of_ble_eq_true rfl) ?_
    rintro _ M2 ⟨rfl, hn⟩
    refine jx_eq (st2 := [.inl v, .inl v]) rfl rfl rfl ?_
    refine jx_icmp_eq 483 d_L_law_149 (by decide) (fun _ => ?_) (fun h => absurd rfl h)
    exact p1_end g2 ⟨by rw [hn.1, hk.2.2.2.2.1]; exact ma_r.1, by rw [hn.2, hk.2.2.2.2.2]; exact ma_r.2⟩
  · skip
    refine jx_of (fun _ _ kz => jw_tabIn 154 d_L_law_32 (by decide) (by decide) rfl (by decide) kz) ?_
    obtain ⟨v, hc, hm⟩ := q_clear (G := G) (M := ma_4) d  ma_c ma_m
    refine jx_of (fun _ _ kz => jw_aload_n 1 d_L_law_154 rfl rfl kz) ?_
    refine jx_callV hc mt_Y_clear cf_Y rfl rfl ml_L_23 im_Y_clear se_Y_clear d_L_law_155 rfl rfl (Nat.le_of_ble_eq_true rfl) ?_
    rintro _ M1 ⟨rfl, hk⟩
    refine jx_eq (st2 := [.inl v]) rfl rfl rfl ?_
    refine jx_of (fun _ _ kz => jw_aload_n 2 d_L_law_158 rfl rfl kz) ?_
    refine jx_callV (hm M1 hk) mt_M_clear cf_M rfl rfl ml_L_26 im_M_clear se_M_clear d_L_law_159 rfl rfl (Nat.le_of_ble_eq_true rfl) ?_
    rintro _ M2 ⟨rfl, hn⟩
    refine jx_eq (st2 := [.inl v, .inl v]) rfl rfl rfl ?_
    refine jx_icmp_eq 483 d_L_law_162 (by decide) (fun _ => ?_) (fun h => absurd rfl h)
    exact p1_end g2 ⟨by rw [hn.1, hk.2.2.2.2.1]; exact ma_r.1, by rw [hn.2, hk.2.2.2.2.2]; exact ma_r.2⟩
  · skip
    refine jx_of (fun _ _ kz => jw_tabIn 167 d_L_law_32 (by decide) (by decide) rfl (by decide) kz) ?_
    obtain ⟨v, hc, hm⟩ := q_spawn (G := G) (M := ma_4) d (G.2.2.2.2.2.2 (Int32.toNatClampNeg 1)) ma_c ma_m
    refine jx_of (fun _ _ kz => jw_aload_n 1 d_L_law_167 rfl rfl kz) ?_
    refine jx_of (fun _ _ kz => jw_aload_n 0 d_L_law_168 rfl rfl kz) ?_
    refine jx_of (fun _ _ kz => jw_iload_n 3 d_L_law_169 rfl rfl kz) ?_
    refine jx_of (fun _ _ kz => jw_iconst 1 d_L_law_170 (by decide) kz) ?_
    refine jx_of (fun _ _ kz => jw_iadd d_L_law_171 kz) ?_
    rw [show (0 + 1 : Int32) = 1 from by decide]
    refine jx_of (fun _ _ kz => jw_sld d_L_law_172 (by rw [g2]; unfold vp_in; decide) kz) ?_
    refine jx_callV hc mt_Y_spawn cf_Y rfl rfl ml_L_27 im_Y_spawn se_Y_spawn d_L_law_173 rfl rfl (Nat.le_of_ble_eq_true rfl) ?_
    rintro _ M1 ⟨rfl, hk⟩
    refine jx_eq (st2 := [.inl v]) rfl rfl rfl ?_
    refine jx_of (fun _ _ kz => jw_aload_n 2 d_L_law_176 rfl rfl kz) ?_
    refine jx_of (fun _ _ kz => jw_aload_n 0 d_L_law_177 rfl rfl kz) ?_
    refine jx_of (fun _ _ kz => jw_iload_n 3 d_L_law_178 rfl rfl kz) ?_
    refine jx_of (fun _ _ kz => jw_iconst 1 d_L_law_179 (by decide) kz) ?_
    refine jx_of (fun _ _ kz => jw_iadd d_L_law_180 kz) ?_
    rw [show (0 + 1 : Int32) = 1 from by decide]
    refine jx_of (fun _ _ kz => jw_sld d_L_law_181 (by rw [g2]; unfold vp_in; decide) kz) ?_
    refine jx_callV (hm M1 hk) mt_M_spawn cf_M rfl rfl ml_L_31 im_M_spawn se_M_spawn d_L_law_182 rfl rfl (Nat.le_of_ble_eq_true rfl) ?_
    rintro _ M2 ⟨rfl, hn⟩
    refine jx_eq (st2 := [.inl v, .inl v]) rfl rfl rfl ?_
    refine jx_icmp_eq 483 d_L_law_185 (by decide) (fun _ => ?_) (fun h => absurd rfl h)
    exact p1_end g2 ⟨by rw [hn.1, hk.2.2.2.2.1]; exact ma_r.1, by rw [hn.2, hk.2.2.2.2.2]; exact ma_r.2⟩
  · skip
    refine jx_of (fun _ _ kz => jw_tabIn 190 d_L_law_32 (by decide) (by decide) rfl (by decide) kz) ?_
    obtain ⟨v, hc, hm⟩ := q_turn (G := G) (M := ma_4) d (G.2.2.2.2.2.2 (Int32.toNatClampNeg 1)) ma_c ma_m
    refine jx_of (fun _ _ kz => jw_aload_n 1 d_L_law_190 rfl rfl kz) ?_
    refine jx_of (fun _ _ kz => jw_aload_n 0 d_L_law_191 rfl rfl kz) ?_
    refine jx_of (fun _ _ kz => jw_iload_n 3 d_L_law_192 rfl rfl kz) ?_
    refine jx_of (fun _ _ kz => jw_iconst 1 d_L_law_193 (by decide) kz) ?_
    refine jx_of (fun _ _ kz => jw_iadd d_L_law_194 kz) ?_
    rw [show (0 + 1 : Int32) = 1 from by decide]
    refine jx_of (fun _ _ kz => jw_sld d_L_law_195 (by rw [g2]; unfold vp_in; decide) kz) ?_
    refine jx_callV hc mt_Y_turn cf_Y rfl rfl ml_L_32 im_Y_turn se_Y_turn d_L_law_196 rfl rfl (Nat.le_of_ble_eq_true rfl) ?_
    rintro _ M1 ⟨rfl, hk⟩
    refine jx_eq (st2 := [.inl v]) rfl rfl rfl ?_
    refine jx_of (fun _ _ kz => jw_aload_n 2 d_L_law_199 rfl rfl kz) ?_
    refine jx_of (fun _ _ kz => jw_aload_n 0 d_L_law_200 rfl rfl kz) ?_
    refine jx_of (fun _ _ kz => jw_iload_n 3 d_L_law_201 rfl rfl kz) ?_
    refine jx_of (fun _ _ kz => jw_iconst 1 d_L_law_202 (by decide) kz) ?_
    refine jx_of (fun _ _ kz => jw_iadd d_L_law_203 kz) ?_
    rw [show (0 + 1 : Int32) = 1 from by decide]
    refine jx_of (fun _ _ kz => jw_sld d_L_law_204 (by rw [g2]; unfold vp_in; decide) kz) ?_
    refine jx_callV (hm M1 hk) mt_M_turn cf_M rfl rfl ml_L_35 im_M_turn se_M_turn d_L_law_205 rfl rfl (Nat.le_of_ble_eq_true rfl) ?_
    rintro _ M2 ⟨rfl, hn⟩
    refine jx_eq (st2 := [.inl v, .inl v]) rfl rfl rfl ?_
    refine jx_icmp_eq 483 d_L_law_208 (by decide) (fun _ => ?_) (fun h => absurd rfl h)
    exact p1_end g2 ⟨by rw [hn.1, hk.2.2.2.2.1]; exact ma_r.1, by rw [hn.2, hk.2.2.2.2.2]; exact ma_r.2⟩
  · skip
    refine jx_of (fun _ _ kz => jw_tabIn 213 d_L_law_32 (by decide) (by decide) rfl (by decide) kz) ?_
    obtain ⟨v, hc, hm⟩ := q_run (G := G) (M := ma_4) d (G.2.2.2.2.2.2 (Int32.toNatClampNeg 1)) ma_c ma_m
    refine jx_of (fun _ _ kz => jw_aload_n 1 d_L_law_213 rfl rfl kz) ?_
    refine jx_of (fun _ _ kz => jw_aload_n 0 d_L_law_214 rfl rfl kz) ?_
    refine jx_of (fun _ _ kz => jw_iload_n 3 d_L_law_215 rfl rfl kz) ?_
    refine jx_of (fun _ _ kz => jw_iconst 1 d_L_law_216 (by decide) kz) ?_
    refine jx_of (fun _ _ kz => jw_iadd d_L_law_217 kz) ?_
    rw [show (0 + 1 : Int32) = 1 from by decide]
    refine jx_of (fun _ _ kz => jw_sld d_L_law_218 (by rw [g2]; unfold vp_in; decide) kz) ?_
    refine jx_callV hc mt_Y_run cf_Y rfl rfl ml_L_36 im_Y_run se_Y_run d_L_law_219 rfl rfl (Nat.le_of_ble_eq_true rfl) ?_
    rintro _ M1 ⟨rfl, hk⟩
    refine jx_eq (st2 := [.inl v]) rfl rfl rfl ?_
    refine jx_of (fun _ _ kz => jw_aload_n 2 d_L_law_222 rfl rfl kz) ?_
    refine jx_of (fun _ _ kz => jw_aload_n 0 d_L_law_223 rfl rfl kz) ?_
    refine jx_of (fun _ _ kz => jw_iload_n 3 d_L_law_224 rfl rfl kz) ?_
    refine jx_of (fun _ _ kz => jw_iconst 1 d_L_law_225 (by decide) kz) ?_
    refine jx_of (fun _ _ kz => jw_iadd d_L_law_226 kz) ?_
    rw [show (0 + 1 : Int32) = 1 from by decide]
    refine jx_of (fun _ _ kz => jw_sld d_L_law_227 (by rw [g2]; unfold vp_in; decide) kz) ?_
    refine jx_callV (hm M1 hk) mt_M_run cf_M rfl rfl ml_L_39 im_M_run se_M_run d_L_law_228 rfl rfl (Nat.le_of_ble_eq_true rfl) ?_
    rintro _ M2 ⟨rfl, hn⟩
    refine jx_eq (st2 := [.inl v, .inl v]) rfl rfl rfl ?_
    refine jx_icmp_eq 483 d_L_law_231 (by decide) (fun _ => ?_) (fun h => absurd rfl h)
    exact p1_end g2 ⟨by rw [hn.1, hk.2.2.2.2.1]; exact ma_r.1, by rw [hn.2, hk.2.2.2.2.2]; exact ma_r.2⟩
  · skip
    refine jx_of (fun _ _ kz => jw_tabIn 236 d_L_law_32 (by decide) (by decide) rfl (by decide) kz) ?_
    obtain ⟨v, hc, hm⟩ := q_tick (G := G) (M := ma_4) d (G.2.2.2.2.2.2 (Int32.toNatClampNeg 1)) ma_c ma_m
    refine jx_of (fun _ _ kz => jw_aload_n 1 d_L_law_236 rfl rfl kz) ?_
    refine jx_of (fun _ _ kz => jw_aload_n 0 d_L_law_237 rfl rfl kz) ?_
    refine jx_of (fun _ _ kz => jw_iload_n 3 d_L_law_238 rfl rfl kz) ?_
    refine jx_of (fun _ _ kz => jw_iconst 1 d_L_law_239 (by decide) kz) ?_
    refine jx_of (fun _ _ kz => jw_iadd d_L_law_240 kz) ?_
    rw [show (0 + 1 : Int32) = 1 from by decide]
    refine jx_of (fun _ _ kz => jw_sld d_L_law_241 (by rw [g2]; unfold vp_in; decide) kz) ?_
    refine jx_callV hc mt_Y_tick cf_Y rfl rfl ml_L_40 im_Y_tick se_Y_tick d_L_law_242 rfl rfl (Nat.le_of_ble_eq_true rfl) ?_
    rintro _ M1 ⟨rfl, hk⟩
    refine jx_eq (st2 := [.inl v]) rfl rfl rfl ?_
    refine jx_of (fun _ _ kz => jw_aload_n 2 d_L_law_245 rfl rfl kz) ?_
    refine jx_of (fun _ _ kz => jw_aload_n 0 d_L_law_246 rfl rfl kz) ?_
    refine jx_of (fun _ _ kz => jw_iload_n 3 d_L_law_247 rfl rfl kz) ?_
    refine jx_of (fun _ _ kz => jw_iconst 1 d_L_law_248 (by decide) kz) ?_
    refine jx_of (fun _ _ kz => jw_iadd d_L_law_249 kz) ?_
    rw [show (0 + 1 : Int32) = 1 from by decide]
    refine jx_of (fun _ _ kz => jw_sld d_L_law_250 (by rw [g2]; unfold vp_in; decide) kz) ?_
    refine jx_callV (hm M1 hk) mt_M_tick cf_M rfl rfl ml_L_43 im_M_tick se_M_tick d_L_law_251 rfl rfl (Nat.le_of_ble_eq_true rfl) ?_
    rintro _ M2 ⟨rfl, hn⟩
    refine jx_eq (st2 := [.inl v, .inl v]) rfl rfl rfl ?_
    refine jx_icmp_eq 483 d_L_law_254 (by decide) (fun _ => ?_) (fun h => absurd rfl h)
    exact p1_end g2 ⟨by rw [hn.1, hk.2.2.2.2.1]; exact ma_r.1, by rw [hn.2, hk.2.2.2.2.2]; exact ma_r.2⟩
  · skip
    refine jx_of (fun _ _ kz => jw_tabIn 259 d_L_law_32 (by decide) (by decide) rfl (by decide) kz) ?_
    obtain ⟨v, hc, hm⟩ := q_abort (G := G) (M := ma_4) d (G.2.2.2.2.2.2 (Int32.toNatClampNeg 1)) ma_c ma_m
    refine jx_of (fun _ _ kz => jw_aload_n 1 d_L_law_259 rfl rfl kz) ?_
    refine jx_of (fun _ _ kz => jw_aload_n 0 d_L_law_260 rfl rfl kz) ?_
    refine jx_of (fun _ _ kz => jw_iload_n 3 d_L_law_261 rfl rfl kz) ?_
    refine jx_of (fun _ _ kz => jw_iconst 1 d_L_law_262 (by decide) kz) ?_
    refine jx_of (fun _ _ kz => jw_iadd d_L_law_263 kz) ?_
    rw [show (0 + 1 : Int32) = 1 from by decide]
    refine jx_of (fun _ _ kz => jw_sld d_L_law_264 (by rw [g2]; unfold vp_in; decide) kz) ?_
    refine jx_callV hc mt_Y_abort cf_Y rfl rfl ml_L_44 im_Y_abort se_Y_abort d_L_law_265 rfl rfl (Nat.le_of_ble_eq_true rfl) ?_
    rintro _ M1 ⟨rfl, hk⟩
    refine jx_eq (st2 := [.inl v]) rfl rfl rfl ?_
    refine jx_of (fun _ _ kz => jw_aload_n 2 d_L_law_268 rfl rfl kz) ?_
    refine jx_of (fun _ _ kz => jw_aload_n 0 d_L_law_269 rfl rfl kz) ?_
    refine jx_of (fun _ _ kz => jw_iload_n 3 d_L_law_270 rfl rfl kz) ?_
    refine jx_of (fun _ _ kz => jw_iconst 1 d_L_law_271 (by decide) kz) ?_
    refine jx_of (fun _ _ kz => jw_iadd d_L_law_272 kz) ?_
    rw [show (0 + 1 : Int32) = 1 from by decide]
    refine jx_of (fun _ _ kz => jw_sld d_L_law_273 (by rw [g2]; unfold vp_in; decide) kz) ?_
    refine jx_callV (hm M1 hk) mt_M_abort cf_M rfl rfl ml_L_48 im_M_abort se_M_abort d_L_law_274 rfl rfl (Nat.le_of_ble_eq_true rfl) ?_
    rintro _ M2 ⟨rfl, hn⟩
    refine jx_eq (st2 := [.inl v, .inl v]) rfl rfl rfl ?_
    refine jx_icmp_eq 483 d_L_law_277 (by decide) (fun _ => ?_) (fun h => absurd rfl h)
    exact p1_end g2 ⟨by rw [hn.1, hk.2.2.2.2.1]; exact ma_r.1, by rw [hn.2, hk.2.2.2.2.2]; exact ma_r.2⟩
  · skip
    refine jx_of (fun _ _ kz => jw_tabIn 282 d_L_law_32 (by decide) (by decide) rfl (by decide) kz) ?_
    obtain ⟨v, hc, hm⟩ := q_put (G := G) (M := ma_4) d (G.2.2.2.2.2.2 (Int32.toNatClampNeg 1)) (G.2.2.2.2.2.2 (Int32.toNatClampNeg 2)) ma_c ma_m
    refine jx_of (fun _ _ kz => jw_aload_n 1 d_L_law_282 rfl rfl kz) ?_
    refine jx_of (fun _ _ kz => jw_aload_n 0 d_L_law_283 rfl rfl kz) ?_
    refine jx_of (fun _ _ kz => jw_iload_n 3 d_L_law_284 rfl rfl kz) ?_
    refine jx_of (fun _ _ kz => jw_iconst 1 d_L_law_285 (by decide) kz) ?_
    refine jx_of (fun _ _ kz => jw_iadd d_L_law_286 kz) ?_
    rw [show (0 + 1 : Int32) = 1 from by decide]
    refine jx_of (fun _ _ kz => jw_sld d_L_law_287 (by rw [g2]; unfold vp_in; decide) kz) ?_
    refine jx_of (fun _ _ kz => jw_aload_n 0 d_L_law_288 rfl rfl kz) ?_
    refine jx_of (fun _ _ kz => jw_iload_n 3 d_L_law_289 rfl rfl kz) ?_
    refine jx_of (fun _ _ kz => jw_iconst 2 d_L_law_290 (by decide) kz) ?_
    refine jx_of (fun _ _ kz => jw_iadd d_L_law_291 kz) ?_
    rw [show (0 + 2 : Int32) = 2 from by decide]
    refine jx_of (fun _ _ kz => jw_sld d_L_law_292 (by rw [g2]; unfold vp_in; decide) kz) ?_
    refine jx_callV hc mt_Y_put cf_Y rfl rfl ml_L_49 im_Y_put se_Y_put d_L_law_293 rfl rfl (Nat.le_of_ble_eq_true rfl) ?_
    rintro _ M1 ⟨rfl, hk⟩
    refine jx_eq (st2 := [.inl v]) rfl rfl rfl ?_
    refine jx_of (fun _ _ kz => jw_aload_n 2 d_L_law_296 rfl rfl kz) ?_
    refine jx_of (fun _ _ kz => jw_aload_n 0 d_L_law_297 rfl rfl kz) ?_
    refine jx_of (fun _ _ kz => jw_iload_n 3 d_L_law_298 rfl rfl kz) ?_
    refine jx_of (fun _ _ kz => jw_iconst 1 d_L_law_299 (by decide) kz) ?_
    refine jx_of (fun _ _ kz => jw_iadd d_L_law_300 kz) ?_
    rw [show (0 + 1 : Int32) = 1 from by decide]
    refine jx_of (fun _ _ kz => jw_sld d_L_law_301 (by rw [g2]; unfold vp_in; decide) kz) ?_
    refine jx_of (fun _ _ kz => jw_aload_n 0 d_L_law_302 rfl rfl kz) ?_
    refine jx_of (fun _ _ kz => jw_iload_n 3 d_L_law_303 rfl rfl kz) ?_
    refine jx_of (fun _ _ kz => jw_iconst 2 d_L_law_304 (by decide) kz) ?_
    refine jx_of (fun _ _ kz => jw_iadd d_L_law_305 kz) ?_
    rw [show (0 + 2 : Int32) = 2 from by decide]
    refine jx_of (fun _ _ kz => jw_sld d_L_law_306 (by rw [g2]; unfold vp_in; decide) kz) ?_
    refine jx_callV (hm M1 hk) mt_M_put cf_M rfl rfl ml_L_52 im_M_put se_M_put d_L_law_307 rfl rfl (Nat.le_of_ble_eq_true rfl) ?_
    rintro _ M2 ⟨rfl, hn⟩
    refine jx_eq (st2 := [.inl v, .inl v]) rfl rfl rfl ?_
    refine jx_icmp_eq 483 d_L_law_310 (by decide) (fun _ => ?_) (fun h => absurd rfl h)
    exact p1_end g2 ⟨by rw [hn.1, hk.2.2.2.2.1]; exact ma_r.1, by rw [hn.2, hk.2.2.2.2.2]; exact ma_r.2⟩
  · skip
    refine jx_of (fun _ _ kz => jw_tabIn 315 d_L_law_32 (by decide) (by decide) rfl (by decide) kz) ?_
    obtain ⟨v, hc, hm⟩ := q_wake (G := G) (M := ma_4) d (G.2.2.2.2.2.2 (Int32.toNatClampNeg 1)) ma_c ma_m
    refine jx_of (fun _ _ kz => jw_aload_n 1 d_L_law_315 rfl rfl kz) ?_
    refine jx_of (fun _ _ kz => jw_aload_n 0 d_L_law_316 rfl rfl kz) ?_
    refine jx_of (fun _ _ kz => jw_iload_n 3 d_L_law_317 rfl rfl kz) ?_
    refine jx_of (fun _ _ kz => jw_iconst 1 d_L_law_318 (by decide) kz) ?_
    refine jx_of (fun _ _ kz => jw_iadd d_L_law_319 kz) ?_
    rw [show (0 + 1 : Int32) = 1 from by decide]
    refine jx_of (fun _ _ kz => jw_sld d_L_law_320 (by rw [g2]; unfold vp_in; decide) kz) ?_
    refine jx_callV hc mt_Y_wake cf_Y rfl rfl ml_L_53 im_Y_wake se_Y_wake d_L_law_321 rfl rfl (Nat.le_of_ble_eq_true rfl) ?_
    rintro _ M1 ⟨rfl, hk⟩
    refine jx_eq (st2 := [.inl v]) rfl rfl rfl ?_
    refine jx_of (fun _ _ kz => jw_aload_n 2 d_L_law_324 rfl rfl kz) ?_
    refine jx_of (fun _ _ kz => jw_aload_n 0 d_L_law_325 rfl rfl kz) ?_
    refine jx_of (fun _ _ kz => jw_iload_n 3 d_L_law_326 rfl rfl kz) ?_
    refine jx_of (fun _ _ kz => jw_iconst 1 d_L_law_327 (by decide) kz) ?_
    refine jx_of (fun _ _ kz => jw_iadd d_L_law_328 kz) ?_
    rw [show (0 + 1 : Int32) = 1 from by decide]
    refine jx_of (fun _ _ kz => jw_sld d_L_law_329 (by rw [g2]; unfold vp_in; decide) kz) ?_
    refine jx_callV (hm M1 hk) mt_M_wake cf_M rfl rfl ml_L_56 im_M_wake se_M_wake d_L_law_330 rfl rfl (Nat.le_of_ble_eq_true rfl) ?_
    rintro _ M2 ⟨rfl, hn⟩
    refine jx_eq (st2 := [.inl v, .inl v]) rfl rfl rfl ?_
    refine jx_icmp_eq 483 d_L_law_333 (by decide) (fun _ => ?_) (fun h => absurd rfl h)
    exact p1_end g2 ⟨by rw [hn.1, hk.2.2.2.2.1]; exact ma_r.1, by rw [hn.2, hk.2.2.2.2.2]; exact ma_r.2⟩
  · skip
    refine jx_of (fun _ _ kz => jw_tabIn 338 d_L_law_32 (by decide) (by decide) rfl (by decide) kz) ?_
    obtain ⟨v, hc, hm⟩ := q_task (G := G) (M := ma_4) d (G.2.2.2.2.2.2 (Int32.toNatClampNeg 1)) (G.2.2.2.2.2.2 (Int32.toNatClampNeg 2)) ma_c ma_m
    refine jx_of (fun _ _ kz => jw_aload_n 1 d_L_law_338 rfl rfl kz) ?_
    refine jx_of (fun _ _ kz => jw_aload_n 0 d_L_law_339 rfl rfl kz) ?_
    refine jx_of (fun _ _ kz => jw_iload_n 3 d_L_law_340 rfl rfl kz) ?_
    refine jx_of (fun _ _ kz => jw_iconst 1 d_L_law_341 (by decide) kz) ?_
    refine jx_of (fun _ _ kz => jw_iadd d_L_law_342 kz) ?_
    rw [show (0 + 1 : Int32) = 1 from by decide]
    refine jx_of (fun _ _ kz => jw_sld d_L_law_343 (by rw [g2]; unfold vp_in; decide) kz) ?_
    refine jx_of (fun _ _ kz => jw_aload_n 0 d_L_law_344 rfl rfl kz) ?_
    refine jx_of (fun _ _ kz => jw_iload_n 3 d_L_law_345 rfl rfl kz) ?_
    refine jx_of (fun _ _ kz => jw_iconst 2 d_L_law_346 (by decide) kz) ?_
    refine jx_of (fun _ _ kz => jw_iadd d_L_law_347 kz) ?_
    rw [show (0 + 2 : Int32) = 2 from by decide]
    refine jx_of (fun _ _ kz => jw_sld d_L_law_348 (by rw [g2]; unfold vp_in; decide) kz) ?_
    refine jx_callV hc mt_Y_task cf_Y rfl rfl ml_L_57 im_Y_task se_Y_task d_L_law_349 rfl rfl (Nat.le_of_ble_eq_true rfl) ?_
    rintro _ M1 ⟨rfl, hk⟩
    refine jx_eq (st2 := [.inl v]) rfl rfl rfl ?_
    refine jx_of (fun _ _ kz => jw_aload_n 2 d_L_law_352 rfl rfl kz) ?_
    refine jx_of (fun _ _ kz => jw_aload_n 0 d_L_law_353 rfl rfl kz) ?_
    refine jx_of (fun _ _ kz => jw_iload_n 3 d_L_law_354 rfl rfl kz) ?_
    refine jx_of (fun _ _ kz => jw_iconst 1 d_L_law_355 (by decide) kz) ?_
    refine jx_of (fun _ _ kz => jw_iadd d_L_law_356 kz) ?_
    rw [show (0 + 1 : Int32) = 1 from by decide]
    refine jx_of (fun _ _ kz => jw_sld d_L_law_357 (by rw [g2]; unfold vp_in; decide) kz) ?_
    refine jx_of (fun _ _ kz => jw_aload_n 0 d_L_law_358 rfl rfl kz) ?_
    refine jx_of (fun _ _ kz => jw_iload_n 3 d_L_law_359 rfl rfl kz) ?_
    refine jx_of (fun _ _ kz => jw_iconst 2 d_L_law_360 (by decide) kz) ?_
    refine jx_of (fun _ _ kz => jw_iadd d_L_law_361 kz) ?_
    rw [show (0 + 2 : Int32) = 2 from by decide]
    refine jx_of (fun _ _ kz => jw_sld d_L_law_362 (by rw [g2]; unfold vp_in; decide) kz) ?_
    refine jx_callV (hm M1 hk) mt_M_task cf_M rfl rfl ml_L_60 im_M_task se_M_task d_L_law_363 rfl rfl (Nat.le_of_ble_eq_true rfl) ?_
    rintro _ M2 ⟨rfl, hn⟩
    refine jx_eq (st2 := [.inl v, .inl v]) rfl rfl rfl ?_
    refine jx_icmp_eq 483 d_L_law_366 (by decide) (fun _ => ?_) (fun h => absurd rfl h)
    exact p1_end g2 ⟨by rw [hn.1, hk.2.2.2.2.1]; exact ma_r.1, by rw [hn.2, hk.2.2.2.2.2]; exact ma_r.2⟩
  · skip
    refine jx_of (fun _ _ kz => jw_tabIn 371 d_L_law_32 (by decide) (by decide) rfl (by decide) kz) ?_
    obtain ⟨v, hc, hm⟩ := q_worker (G := G) (M := ma_4) d (G.2.2.2.2.2.2 (Int32.toNatClampNeg 1)) (G.2.2.2.2.2.2 (Int32.toNatClampNeg 2)) ma_c ma_m
    refine jx_of (fun _ _ kz => jw_aload_n 1 d_L_law_371 rfl rfl kz) ?_
    refine jx_of (fun _ _ kz => jw_aload_n 0 d_L_law_372 rfl rfl kz) ?_
    refine jx_of (fun _ _ kz => jw_iload_n 3 d_L_law_373 rfl rfl kz) ?_
    refine jx_of (fun _ _ kz => jw_iconst 1 d_L_law_374 (by decide) kz) ?_
    refine jx_of (fun _ _ kz => jw_iadd d_L_law_375 kz) ?_
    rw [show (0 + 1 : Int32) = 1 from by decide]
    refine jx_of (fun _ _ kz => jw_sld d_L_law_376 (by rw [g2]; unfold vp_in; decide) kz) ?_
    refine jx_of (fun _ _ kz => jw_aload_n 0 d_L_law_377 rfl rfl kz) ?_
    refine jx_of (fun _ _ kz => jw_iload_n 3 d_L_law_378 rfl rfl kz) ?_
    refine jx_of (fun _ _ kz => jw_iconst 2 d_L_law_379 (by decide) kz) ?_
    refine jx_of (fun _ _ kz => jw_iadd d_L_law_380 kz) ?_
    rw [show (0 + 2 : Int32) = 2 from by decide]
    refine jx_of (fun _ _ kz => jw_sld d_L_law_381 (by rw [g2]; unfold vp_in; decide) kz) ?_
    refine jx_callV hc mt_Y_worker cf_Y rfl rfl ml_L_61 im_Y_worker se_Y_worker d_L_law_382 rfl rfl (Nat.le_of_ble_eq_true rfl) ?_
    rintro _ M1 ⟨rfl, hk⟩
    refine jx_eq (st2 := [.inl v]) rfl rfl rfl ?_
    refine jx_of (fun _ _ kz => jw_aload_n 2 d_L_law_385 rfl rfl kz) ?_
    refine jx_of (fun _ _ kz => jw_aload_n 0 d_L_law_386 rfl rfl kz) ?_
    refine jx_of (fun _ _ kz => jw_iload_n 3 d_L_law_387 rfl rfl kz) ?_
    refine jx_of (fun _ _ kz => jw_iconst 1 d_L_law_388 (by decide) kz) ?_
    refine jx_of (fun _ _ kz => jw_iadd d_L_law_389 kz) ?_
    rw [show (0 + 1 : Int32) = 1 from by decide]
    refine jx_of (fun _ _ kz => jw_sld d_L_law_390 (by rw [g2]; unfold vp_in; decide) kz) ?_
    refine jx_of (fun _ _ kz => jw_aload_n 0 d_L_law_391 rfl rfl kz) ?_
    refine jx_of (fun _ _ kz => jw_iload_n 3 d_L_law_392 rfl rfl kz) ?_
    refine jx_of (fun _ _ kz => jw_iconst 2 d_L_law_393 (by decide) kz) ?_
    refine jx_of (fun _ _ kz => jw_iadd d_L_law_394 kz) ?_
    rw [show (0 + 2 : Int32) = 2 from by decide]
    refine jx_of (fun _ _ kz => jw_sld d_L_law_395 (by rw [g2]; unfold vp_in; decide) kz) ?_
    refine jx_callV (hm M1 hk) mt_M_worker cf_M rfl rfl ml_L_64 im_M_worker se_M_worker d_L_law_396 rfl rfl (Nat.le_of_ble_eq_true rfl) ?_
    rintro _ M2 ⟨rfl, hn⟩
    refine jx_eq (st2 := [.inl v, .inl v]) rfl rfl rfl ?_
    refine jx_icmp_eq 483 d_L_law_399 (by decide) (fun _ => ?_) (fun h => absurd rfl h)
    exact p1_end g2 ⟨by rw [hn.1, hk.2.2.2.2.1]; exact ma_r.1, by rw [hn.2, hk.2.2.2.2.2]; exact ma_r.2⟩
  · skip
    refine jx_of (fun _ _ kz => jw_tabIn 404 d_L_law_32 (by decide) (by decide) rfl (by decide) kz) ?_
    obtain ⟨v, hc, hm⟩ := q_injected (G := G) (M := ma_4) d (G.2.2.2.2.2.2 (Int32.toNatClampNeg 1)) ma_c ma_m
    refine jx_of (fun _ _ kz => jw_aload_n 1 d_L_law_404 rfl rfl kz) ?_
    refine jx_of (fun _ _ kz => jw_aload_n 0 d_L_law_405 rfl rfl kz) ?_
    refine jx_of (fun _ _ kz => jw_iload_n 3 d_L_law_406 rfl rfl kz) ?_
    refine jx_of (fun _ _ kz => jw_iconst 1 d_L_law_407 (by decide) kz) ?_
    refine jx_of (fun _ _ kz => jw_iadd d_L_law_408 kz) ?_
    rw [show (0 + 1 : Int32) = 1 from by decide]
    refine jx_of (fun _ _ kz => jw_sld d_L_law_409 (by rw [g2]; unfold vp_in; decide) kz) ?_
    refine jx_callV hc mt_Y_injected cf_Y rfl rfl ml_L_65 im_Y_injected se_Y_injected d_L_law_410 rfl rfl (Nat.le_of_ble_eq_true rfl) ?_
    rintro _ M1 ⟨rfl, hk⟩
    refine jx_eq (st2 := [.inl v]) rfl rfl rfl ?_
    refine jx_of (fun _ _ kz => jw_aload_n 2 d_L_law_413 rfl rfl kz) ?_
    refine jx_of (fun _ _ kz => jw_aload_n 0 d_L_law_414 rfl rfl kz) ?_
    refine jx_of (fun _ _ kz => jw_iload_n 3 d_L_law_415 rfl rfl kz) ?_
    refine jx_of (fun _ _ kz => jw_iconst 1 d_L_law_416 (by decide) kz) ?_
    refine jx_of (fun _ _ kz => jw_iadd d_L_law_417 kz) ?_
    rw [show (0 + 1 : Int32) = 1 from by decide]
    refine jx_of (fun _ _ kz => jw_sld d_L_law_418 (by rw [g2]; unfold vp_in; decide) kz) ?_
    refine jx_callV (hm M1 hk) mt_M_injected cf_M rfl rfl ml_L_68 im_M_injected se_M_injected d_L_law_419 rfl rfl (Nat.le_of_ble_eq_true rfl) ?_
    rintro _ M2 ⟨rfl, hn⟩
    refine jx_eq (st2 := [.inl v, .inl v]) rfl rfl rfl ?_
    refine jx_icmp_eq 483 d_L_law_422 (by decide) (fun _ => ?_) (fun h => absurd rfl h)
    exact p1_end g2 ⟨by rw [hn.1, hk.2.2.2.2.1]; exact ma_r.1, by rw [hn.2, hk.2.2.2.2.2]; exact ma_r.2⟩
  · skip
    refine jx_of (fun _ _ kz => jw_tabIn 427 d_L_law_32 (by decide) (by decide) rfl (by decide) kz) ?_
    obtain ⟨v, hc, hm⟩ := q_gate (G := G) (M := ma_4) d (G.2.2.2.2.2.2 (Int32.toNatClampNeg 1)) (G.2.2.2.2.2.2 (Int32.toNatClampNeg 2)) ma_c ma_m
    refine jx_of (fun _ _ kz => jw_aload_n 1 d_L_law_427 rfl rfl kz) ?_
    refine jx_of (fun _ _ kz => jw_aload_n 0 d_L_law_428 rfl rfl kz) ?_
    refine jx_of (fun _ _ kz => jw_iload_n 3 d_L_law_429 rfl rfl kz) ?_
    refine jx_of (fun _ _ kz => jw_iconst 1 d_L_law_430 (by decide) kz) ?_
    refine jx_of (fun _ _ kz => jw_iadd d_L_law_431 kz) ?_
    rw [show (0 + 1 : Int32) = 1 from by decide]
    refine jx_of (fun _ _ kz => jw_sld d_L_law_432 (by rw [g2]; unfold vp_in; decide) kz) ?_
    refine jx_of (fun _ _ kz => jw_aload_n 0 d_L_law_433 rfl rfl kz) ?_
    refine jx_of (fun _ _ kz => jw_iload_n 3 d_L_law_434 rfl rfl kz) ?_
    refine jx_of (fun _ _ kz => jw_iconst 2 d_L_law_435 (by decide) kz) ?_
    refine jx_of (fun _ _ kz => jw_iadd d_L_law_436 kz) ?_
    rw [show (0 + 2 : Int32) = 2 from by decide]
    refine jx_of (fun _ _ kz => jw_sld d_L_law_437 (by rw [g2]; unfold vp_in; decide) kz) ?_
    refine jx_callV hc mt_Y_gate cf_Y rfl rfl ml_L_69 im_Y_gate se_Y_gate d_L_law_438 rfl rfl (Nat.le_of_ble_eq_true rfl) ?_
    rintro _ M1 ⟨rfl, hk⟩
    refine jx_eq (st2 := [.inl v]) rfl rfl rfl ?_
    refine jx_of (fun _ _ kz => jw_aload_n 2 d_L_law_441 rfl rfl kz) ?_
    refine jx_of (fun _ _ kz => jw_aload_n 0 d_L_law_442 rfl rfl kz) ?_
    refine jx_of (fun _ _ kz => jw_iload_n 3 d_L_law_443 rfl rfl kz) ?_
    refine jx_of (fun _ _ kz => jw_iconst 1 d_L_law_444 (by decide) kz) ?_
    refine jx_of (fun _ _ kz => jw_iadd d_L_law_445 kz) ?_
    rw [show (0 + 1 : Int32) = 1 from by decide]
    refine jx_of (fun _ _ kz => jw_sld d_L_law_446 (by rw [g2]; unfold vp_in; decide) kz) ?_
    refine jx_of (fun _ _ kz => jw_aload_n 0 d_L_law_447 rfl rfl kz) ?_
    refine jx_of (fun _ _ kz => jw_iload_n 3 d_L_law_448 rfl rfl kz) ?_
    refine jx_of (fun _ _ kz => jw_iconst 2 d_L_law_449 (by decide) kz) ?_
    refine jx_of (fun _ _ kz => jw_iadd d_L_law_450 kz) ?_
    rw [show (0 + 2 : Int32) = 2 from by decide]
    refine jx_of (fun _ _ kz => jw_sld d_L_law_451 (by rw [g2]; unfold vp_in; decide) kz) ?_
    refine jx_callV (hm M1 hk) mt_M_gate cf_M rfl rfl ml_L_72 im_M_gate se_M_gate d_L_law_452 rfl rfl (Nat.le_of_ble_eq_true rfl) ?_
    rintro _ M2 ⟨rfl, hn⟩
    refine jx_eq (st2 := [.inl v, .inl v]) rfl rfl rfl ?_
    refine jx_icmp_eq 483 d_L_law_455 (by decide) (fun _ => ?_) (fun h => absurd rfl h)
    exact p1_end g2 ⟨by rw [hn.1, hk.2.2.2.2.1]; exact ma_r.1, by rw [hn.2, hk.2.2.2.2.2]; exact ma_r.2⟩
  · skip
    refine jx_of (fun _ _ kz => jw_tabIn 460 d_L_law_32 (by decide) (by decide) rfl (by decide) kz) ?_
    obtain ⟨v, hc, hm⟩ := q_count (G := G) (M := ma_4) d (G.2.2.2.2.2.2 (Int32.toNatClampNeg 1)) ma_c ma_m
    refine jx_of (fun _ _ kz => jw_aload_n 1 d_L_law_460 rfl rfl kz) ?_
    refine jx_of (fun _ _ kz => jw_aload_n 0 d_L_law_461 rfl rfl kz) ?_
    refine jx_of (fun _ _ kz => jw_iload_n 3 d_L_law_462 rfl rfl kz) ?_
    refine jx_of (fun _ _ kz => jw_iconst 1 d_L_law_463 (by decide) kz) ?_
    refine jx_of (fun _ _ kz => jw_iadd d_L_law_464 kz) ?_
    rw [show (0 + 1 : Int32) = 1 from by decide]
    refine jx_of (fun _ _ kz => jw_sld d_L_law_465 (by rw [g2]; unfold vp_in; decide) kz) ?_
    refine jx_callV hc mt_Y_count cf_Y rfl rfl ml_L_73 im_Y_count se_Y_count d_L_law_466 rfl rfl (Nat.le_of_ble_eq_true rfl) ?_
    rintro _ M1 ⟨rfl, hk⟩
    refine jx_eq (st2 := [.inl v]) rfl rfl rfl ?_
    refine jx_of (fun _ _ kz => jw_aload_n 2 d_L_law_469 rfl rfl kz) ?_
    refine jx_of (fun _ _ kz => jw_aload_n 0 d_L_law_470 rfl rfl kz) ?_
    refine jx_of (fun _ _ kz => jw_iload_n 3 d_L_law_471 rfl rfl kz) ?_
    refine jx_of (fun _ _ kz => jw_iconst 1 d_L_law_472 (by decide) kz) ?_
    refine jx_of (fun _ _ kz => jw_iadd d_L_law_473 kz) ?_
    rw [show (0 + 1 : Int32) = 1 from by decide]
    refine jx_of (fun _ _ kz => jw_sld d_L_law_474 (by rw [g2]; unfold vp_in; decide) kz) ?_
    refine jx_callV (hm M1 hk) mt_M_count cf_M rfl rfl ml_L_76 im_M_count se_M_count d_L_law_475 rfl rfl (Nat.le_of_ble_eq_true rfl) ?_
    rintro _ M2 ⟨rfl, hn⟩
    refine jx_eq (st2 := [.inl v, .inl v]) rfl rfl rfl ?_
    refine jx_icmp_eq 483 d_L_law_478 (by decide) (fun _ => ?_) (fun h => absurd rfl h)
    exact p1_end g2 ⟨by rw [hn.1, hk.2.2.2.2.1]; exact ma_r.1, by rw [hn.2, hk.2.2.2.2.2]; exact ma_r.2⟩
  · skip
    refine jx_of (fun _ _ kz => jw_tabOut 483 d_L_law_32 (by decide) (by decide) kz) ?_
    exact p1_end g2 ma_r
set_option maxRecDepth 20000 in
set_option maxHeartbeats 4000000 in
theorem p1_law {G : Gt} {nm : String} (d L : Nat) (hL : L ≤ 3) (g2 : G.2.2.2.2.2.1 = L) : jx G (yt_L nm) (d + 10) 0 0 ma_0 0 [some (.inr (some (25, 0))), none, none, none] [] (fun r M' => r = some (.inl 1) ∧ me_C M' ≤ 600000 ∧ me_S M' ≤ 7302250) := by
  refine jx_of (fun _ _ kz => jw_newe (s := 0) 0 cf_Y df_Y cl_L_7 it_Y ii_Y d_L_law_0 rfl rfl (by decide) kz) ?_
  refine jx_eq (M2 := ma_1) rfl rfl rfl ?_
  refine jx_of (fun _ _ kz => jw_dup d_L_law_3 kz) ?_
  refine jx_callI (ma_Y (d + 6)) mt_Y_init rfl rfl ml_L_9 im_Y_init d_L_law_4 rfl rfl (Nat.le_of_ble_eq_true rfl) (fun _ _ h => h.1) ?_
  rintro _ ⟨_, rfl⟩
  refine jx_of (fun _ _ kz => jw_astore_n 1 d_L_law_7 rfl (Nat.le_of_ble_eq_true rfl) kz) ?_
  dsimp only [List.set]
  refine jx_of (fun _ _ kz => jw_newe (s := 7) 0 cf_M df_M cl_L_10 it_M ii_M d_L_law_8 rfl rfl (by decide +kernel) kz) ?_
  refine jx_eq (M2 := ma_3) rfl rfl rfl ?_
  refine jx_of (fun _ _ kz => jw_dup d_L_law_11 kz) ?_
  refine jx_callI (ma_M (d + 8)) mt_M_init rfl rfl ml_L_12 im_M_init d_L_law_12 rfl rfl (Nat.le_of_ble_eq_true rfl) (fun _ _ h => h.1) ?_
  rintro _ ⟨_, rfl⟩
  refine jx_of (fun _ _ kz => jw_astore_n 2 d_L_law_15 rfl (Nat.le_of_ble_eq_true rfl) kz) ?_
  dsimp only [List.set]
  refine jx_of (fun _ _ kz => jw_iconst 0 d_L_law_16 (by decide) kz) ?_
  refine jx_of (fun _ _ kz => jw_istore_n 3 d_L_law_17 rfl (Nat.le_of_ble_eq_true rfl) kz) ?_
  dsimp only [List.set]
  rcases (show L = 0 ∨ L = 1 ∨ L = 2 ∨ L = 3 by omega) with rfl | rfl | rfl | rfl
  · skip
    refine jx_of (fun _ _ kz => jw_iload_n 3 d_L_law_18 rfl rfl kz) ?_
    refine jx_of (fun _ _ kz => jw_aload_n 0 d_L_law_19 rfl rfl kz) ?_
    refine jx_of (fun _ _ kz => jw_slen d_L_law_20 kz) ?_
    rw [g2]
    refine jx_of (fun _ _ kz => jw_iconst 3 d_L_law_21 (by decide) kz) ?_
    refine jx_of (fun _ _ kz => jw_isub d_L_law_22 kz) ?_
    refine jx_icmp_gt 489 d_L_law_23 (by decide) (fun _ => ?_) (fun h => absurd (by decide) h)
    refine jx_of (fun _ _ kz => jw_iconst 1 d_L_law_489 (by decide) kz) ?_
    refine jx_zret d_L_law_490 rfl (by decide) ?_
    exact ⟨rfl, by have := ma_r; omega, by have := ma_r; omega⟩
  · skip
    refine jx_of (fun _ _ kz => jw_iload_n 3 d_L_law_18 rfl rfl kz) ?_
    refine jx_of (fun _ _ kz => jw_aload_n 0 d_L_law_19 rfl rfl kz) ?_
    refine jx_of (fun _ _ kz => jw_slen d_L_law_20 kz) ?_
    rw [g2]
    refine jx_of (fun _ _ kz => jw_iconst 3 d_L_law_21 (by decide) kz) ?_
    refine jx_of (fun _ _ kz => jw_isub d_L_law_22 kz) ?_
    refine jx_icmp_gt 489 d_L_law_23 (by decide) (fun _ => ?_) (fun h => absurd (by decide) h)
    refine jx_of (fun _ _ kz => jw_iconst 1 d_L_law_489 (by decide) kz) ?_
    refine jx_zret d_L_law_490 rfl (by decide) ?_
    exact ⟨rfl, by have := ma_r; omega, by have := ma_r; omega⟩
  · skip
    refine jx_of (fun _ _ kz => jw_iload_n 3 d_L_law_18 rfl rfl kz) ?_
    refine jx_of (fun _ _ kz => jw_aload_n 0 d_L_law_19 rfl rfl kz) ?_
    refine jx_of (fun _ _ kz => jw_slen d_L_law_20 kz) ?_
    rw [g2]
    refine jx_of (fun _ _ kz => jw_iconst 3 d_L_law_21 (by decide) kz) ?_
    refine jx_of (fun _ _ kz => jw_isub d_L_law_22 kz) ?_
    refine jx_icmp_gt 489 d_L_law_23 (by decide) (fun _ => ?_) (fun h => absurd (by decide) h)
    refine jx_of (fun _ _ kz => jw_iconst 1 d_L_law_489 (by decide) kz) ?_
    refine jx_zret d_L_law_490 rfl (by decide) ?_
    exact ⟨rfl, by have := ma_r; omega, by have := ma_r; omega⟩
  · exact p1_body d g2
