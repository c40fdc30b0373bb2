theorem l3 {L i : Nat} (hL : L ≤ 2000) (hi : i ≤ 2000) : (nI L - 3 < nI i) ↔ L < i + 3 := by
  rw [Int32.lt_iff_toInt_lt, Int32.toInt_sub, nI_toInt (by omega), nI_toInt (by omega), show (3 : Int32).toInt = 3 from by decide, Int.bmod_eq_of_le (by omega) (by omega)]
  omega
set_option maxRecDepth 20000 in
set_option maxHeartbeats 4000000 in
theorem lw_inc {G : Gt} {nm : String} {d i : Nat} {M : Me} {Q : Option AV → Me → Prop} (h : jx G (yt_L nm) d 0 0 M 18 [some (.inr (some (25, 0))), some (.inr (some (0, 0))), some (.inr (some (7, 0))), some (.inl (nI (i + 3)))] [] Q) : jx G (yt_L nm) d 0 0 M 483 [some (.inr (some (25, 0))), some (.inr (some (0, 0))), some (.inr (some (7, 0))), some (.inl (nI i))] [] Q := by
  refine jx_of (fun _ _ kz => jw_iincc 3 d_L_law_483 (by decide) rfl (Nat.le_of_ble_eq_true rfl) kz) ?_
  dsimp only [List.set]
  rw [show (nI i + 3 : Int32) = nI (i + 3) from nI_add i 3]
  refine jx_of (fun _ _ kz => jw_goto 18 d_L_law_486 (by decide) kz) ?_
  exact h
set_option maxRecDepth 20000 in
set_option maxHeartbeats 4000000 in
theorem lw_loop {G : Gt} {nm : String} (d L : Nat) (hL : L ≤ 1536) (g2 : G.2.2.2.2.2.1 = L) : ∀ (m i : Nat) (M : Me), rl M → L ≤ i + 3 * m + 2 → i ≤ 1540 → jx G (yt_L nm) (d + 33) 0 0 M 18 [some (.inr (some (25, 0))), some (.inr (some (0, 0))), some (.inr (some (7, 0))), some (.inl (nI i))] [] (fun r M' => r = some (.inl 1) ∧ me_C M' ≤ 600000 ∧ me_S M' ≤ 7302250) := by
  intro m
  induction m with
  | zero =>
    intro i M hr hm hi
    refine jx_of (fun _ _ kz => jw_iload_n 3 d_L_law_18 rfl rfl kz) ?_
    refine jx_of (fun _ _ kz => jw_aload_n 0 d_L_law_19 rfl rfl kz) ?_
    refine jx_of (fun _ _ kz => jw_slen d_L_law_20 kz) ?_
    rw [g2]
    refine jx_of (fun _ _ kz => jw_iconst 3 d_L_law_21 (by decide) kz) ?_
    refine jx_of (fun _ _ kz => jw_isub d_L_law_22 kz) ?_
    refine jx_icmp_gt 489 d_L_law_23 (by decide) (fun _ => ?_) (fun h => absurd ((l3 (by omega) (by omega)).mpr (by omega)) h)
    refine jx_of (fun _ _ kz => jw_iconst 1 d_L_law_489 (by decide) kz) ?_
    refine jx_zret d_L_law_490 rfl (by decide) ?_
    obtain ⟨np, nt, nt2, dl, o, h1, h2, h3, h4, h5, h6, h7, h8⟩ := hr
    have n6 := h1.2.1.1
    have n12 := h1.2.2.1
    exact ⟨rfl, by omega, by omega⟩
  | succ m ih =>
    intro i M hr hm hi
    refine jx_of (fun _ _ kz => jw_iload_n 3 d_L_law_18 rfl rfl kz) ?_
    refine jx_of (fun _ _ kz => jw_aload_n 0 d_L_law_19 rfl rfl kz) ?_
    refine jx_of (fun _ _ kz => jw_slen d_L_law_20 kz) ?_
    rw [g2]
    refine jx_of (fun _ _ kz => jw_iconst 3 d_L_law_21 (by decide) kz) ?_
    refine jx_of (fun _ _ kz => jw_isub d_L_law_22 kz) ?_
    refine jx_icmp_gt 489 d_L_law_23 (by decide) (fun _ => ?_) (fun hb => ?_)
    · skip
      refine jx_of (fun _ _ kz => jw_iconst 1 d_L_law_489 (by decide) kz) ?_
      refine jx_zret d_L_law_490 rfl (by decide) ?_
      obtain ⟨np, nt, nt2, dl, o, h1, h2, h3, h4, h5, h6, h7, h8⟩ := hr
      have n6 := h1.2.1.1
      have n12 := h1.2.2.1
      exact ⟨rfl, by omega, by omega⟩
    have hi3 : i + 3 ≤ L := Nat.le_of_not_lt (fun q => hb ((l3 (by omega) (by omega)).mpr q))
    refine jx_of (fun _ _ kz => jw_aload_n 0 d_L_law_26 rfl rfl kz) ?_
    refine jx_of (fun _ _ kz => jw_iload_n 3 d_L_law_27 rfl rfl kz) ?_
    refine jx_of (fun _ _ kz => jw_sld d_L_law_28 (by rw [g2]; exact vp_in_nI (by omega) (by omega)) kz) ?_
    refine jx_of (fun _ _ kz => jw_bipush 15 d_L_law_29 (by decide) kz) ?_
    refine jx_of (fun _ _ kz => jw_iand d_L_law_31 kz) ?_
    obtain ⟨j, hj, e⟩ := pk_andE (G.2.2.2.2.2.2 (Int32.toNatClampNeg (nI i))) (m := 15) 4 (by decide)
    rw [e]
    rcases (show j = 0 ∨ j = 1 ∨ j = 2 ∨ j = 3 ∨ j = 4 ∨ j = 5 ∨ j = 6 ∨ j = 7 ∨ j = 8 ∨ j = 9 ∨ j = 10 ∨ j = 11 ∨ j = 12 ∨ j = 13 ∨ j = 14 ∨ j = 15 by omega) with rfl | rfl | rfl | rfl | rfl | rfl | rfl | rfl | rfl | rfl | rfl | rfl | rfl | rfl | rfl | rfl
    · skip
      refine jx_of (fun _ _ kz => jw_tabIn 108 d_L_law_32 (by decide) (by decide) rfl (by decide) kz) ?_
      refine jx_of (fun _ _ kz => jw_aload_n 1 d_L_law_108 rfl rfl kz) ?_
      refine jx_of (fun _ _ kz => jw_aload_n 0 d_L_law_109 rfl rfl kz) ?_
      refine jx_of (fun _ _ kz => jw_iload_n 3 d_L_law_110 rfl rfl kz) ?_
      refine jx_of (fun _ _ kz => jw_iconst 1 d_L_law_111 (by decide) kz) ?_
      refine jx_of (fun _ _ kz => jw_iadd d_L_law_112 kz) ?_
      rw [show (nI i + 1 : Int32) = nI (i + 1) from nI_add i 1]
      refine jx_of (fun _ _ kz => jw_sld d_L_law_113 (by rw [g2]; exact vp_in_nI (by omega) (by omega)) kz) ?_
      refine jx_of (fun _ _ kz => jw_aload_n 0 d_L_law_114 rfl rfl kz) ?_
      refine jx_of (fun _ _ kz => jw_iload_n 3 d_L_law_115 rfl rfl kz) ?_
      refine jx_of (fun _ _ kz => jw_iconst 2 d_L_law_116 (by decide) kz) ?_
      refine jx_of (fun _ _ kz => jw_iadd d_L_law_117 kz) ?_
      rw [show (nI i + 2 : Int32) = nI (i + 2) from nI_add i 2]
      refine jx_of (fun _ _ kz => jw_sld d_L_law_118 (by rw [g2]; exact vp_in_nI (by omega) (by omega)) kz) ?_
      refine jx_callV (b_token d (G.2.2.2.2.2.2 (Int32.toNatClampNeg (nI (i + 1)))) (G.2.2.2.2.2.2 (Int32.toNatClampNeg (nI (i + 2)))) hr) mt_Y_token cf_Y rfl rfl ml_L_13 im_Y_token se_Y_token d_L_law_119 rfl rfl (Nat.le_of_ble_eq_true rfl) ?_
      rintro _ M1 ⟨v, rfl, hm1⟩
      refine jx_eq (st2 := [.inl v]) rfl rfl rfl ?_
      refine jx_of (fun _ _ kz => jw_pop d_L_law_122 kz) ?_
      refine jx_of (fun _ _ kz => jw_aload_n 2 d_L_law_123 rfl rfl kz) ?_
      refine jx_of (fun _ _ kz => jw_aload_n 0 d_L_law_124 rfl rfl kz) ?_
      refine jx_of (fun _ _ kz => jw_iload_n 3 d_L_law_125 rfl rfl kz) ?_
      refine jx_of (fun _ _ kz => jw_iconst 1 d_L_law_126 (by decide) kz) ?_
      refine jx_of (fun _ _ kz => jw_iadd d_L_law_127 kz) ?_
      rw [show (nI i + 1 : Int32) = nI (i + 1) from nI_add i 1]
      refine jx_of (fun _ _ kz => jw_sld d_L_law_128 (by rw [g2]; exact vp_in_nI (by omega) (by omega)) kz) ?_
      refine jx_of (fun _ _ kz => jw_aload_n 0 d_L_law_129 rfl rfl kz) ?_
      refine jx_of (fun _ _ kz => jw_iload_n 3 d_L_law_130 rfl rfl kz) ?_
      refine jx_of (fun _ _ kz => jw_iconst 2 d_L_law_131 (by decide) kz) ?_
      refine jx_of (fun _ _ kz => jw_iadd d_L_law_132 kz) ?_
      rw [show (nI i + 2 : Int32) = nI (i + 2) from nI_add i 2]
      refine jx_of (fun _ _ kz => jw_sld d_L_law_133 (by rw [g2]; exact vp_in_nI (by omega) (by omega)) kz) ?_
      refine jx_callV hm1 mt_M_token cf_M rfl rfl ml_L_17 im_M_token se_M_token d_L_law_134 rfl rfl (Nat.le_of_ble_eq_true rfl) ?_
      rintro _ M2 ⟨v2, rfl, he, hr2⟩
      refine jx_eq (st2 := [.inl v2]) rfl rfl rfl ?_
      refine jx_of (fun _ _ kz => jw_pop d_L_law_137 kz) ?_
      refine jx_of (fun _ _ kz => jw_goto 483 d_L_law_138 (by decide) kz) ?_
      exact lw_inc (ih (i + 3) M2 hr2 (by omega) (by omega))
    · skip
      refine jx_of (fun _ _ kz => jw_tabIn 141 d_L_law_32 (by decide) (by decide) rfl (by decide) kz) ?_
      refine jx_of (fun _ _ kz => jw_aload_n 1 d_L_law_141 rfl rfl kz) ?_
      refine jx_callV (b_define d  hr) mt_Y_define cf_Y rfl rfl ml_L_18 im_Y_define se_Y_define d_L_law_142 rfl rfl (Nat.le_of_ble_eq_true rfl) ?_
      rintro _ M1 ⟨v, rfl, hm1⟩
      refine jx_eq (st2 := [.inl v]) rfl rfl rfl ?_
      refine jx_of (fun _ _ kz => jw_pop d_L_law_145 kz) ?_
      refine jx_of (fun _ _ kz => jw_aload_n 2 d_L_law_146 rfl rfl kz) ?_
      refine jx_callV hm1 mt_M_define cf_M rfl rfl ml_L_22 im_M_define se_M_define d_L_law_147 rfl rfl (Nat.le_of_ble_eq_true rfl) ?_
      rintro _ M2 ⟨v2, rfl, he, hr2⟩
      refine jx_eq (st2 := [.inl v2]) rfl rfl rfl ?_
      refine jx_of (fun _ _ kz => jw_pop d_L_law_150 kz) ?_
      refine jx_of (fun _ _ kz => jw_goto 483 d_L_law_151 (by decide) kz) ?_
      exact lw_inc (ih (i + 3) M2 hr2 (by omega) (by omega))
    · skip
      refine jx_of (fun _ _ kz => jw_tabIn 154 d_L_law_32 (by decide) (by decide) rfl (by decide) kz) ?_
      refine jx_of (fun _ _ kz => jw_aload_n 1 d_L_law_154 rfl rfl kz) ?_
      refine jx_callV (b_clear d  hr) mt_Y_clear cf_Y rfl rfl ml_L_23 im_Y_clear se_Y_clear d_L_law_155 rfl rfl (Nat.le_of_ble_eq_true rfl) ?_
      rintro _ M1 ⟨v, rfl, hm1⟩
      refine jx_eq (st2 := [.inl v]) rfl rfl rfl ?_
      refine jx_of (fun _ _ kz => jw_pop d_L_law_158 kz) ?_
      refine jx_of (fun _ _ kz => jw_aload_n 2 d_L_law_159 rfl rfl kz) ?_
      refine jx_callV hm1 mt_M_clear cf_M rfl rfl ml_L_26 im_M_clear se_M_clear d_L_law_160 rfl rfl (Nat.le_of_ble_eq_true rfl) ?_
      rintro _ M2 ⟨v2, rfl, he, hr2⟩
      refine jx_eq (st2 := [.inl v2]) rfl rfl rfl ?_
      refine jx_of (fun _ _ kz => jw_pop d_L_law_163 kz) ?_
      refine jx_of (fun _ _ kz => jw_goto 483 d_L_law_164 (by decide) kz) ?_
      exact lw_inc (ih (i + 3) M2 hr2 (by omega) (by omega))
    · skip
      refine jx_of (fun _ _ kz => jw_tabIn 167 d_L_law_32 (by decide) (by decide) rfl (by decide) kz) ?_
      refine jx_of (fun _ _ kz => jw_aload_n 1 d_L_law_167 rfl rfl kz) ?_
      refine jx_of (fun _ _ kz => jw_aload_n 0 d_L_law_168 rfl rfl kz) ?_
      refine jx_of (fun _ _ kz => jw_iload_n 3 d_L_law_169 rfl rfl kz) ?_
      refine jx_of (fun _ _ kz => jw_iconst 1 d_L_law_170 (by decide) kz) ?_
      refine jx_of (fun _ _ kz => jw_iadd d_L_law_171 kz) ?_
      rw [show (nI i + 1 : Int32) = nI (i + 1) from nI_add i 1]
      refine jx_of (fun _ _ kz => jw_sld d_L_law_172 (by rw [g2]; exact vp_in_nI (by omega) (by omega)) kz) ?_
      refine jx_callV (b_spawn d (G.2.2.2.2.2.2 (Int32.toNatClampNeg (nI (i + 1)))) hr) mt_Y_spawn cf_Y rfl rfl ml_L_27 im_Y_spawn se_Y_spawn d_L_law_173 rfl rfl (Nat.le_of_ble_eq_true rfl) ?_
      rintro _ M1 ⟨v, rfl, hm1⟩
      refine jx_eq (st2 := [.inl v]) rfl rfl rfl ?_
      refine jx_of (fun _ _ kz => jw_pop d_L_law_176 kz) ?_
      refine jx_of (fun _ _ kz => jw_aload_n 2 d_L_law_177 rfl rfl kz) ?_
      refine jx_of (fun _ _ kz => jw_aload_n 0 d_L_law_178 rfl rfl kz) ?_
      refine jx_of (fun _ _ kz => jw_iload_n 3 d_L_law_179 rfl rfl kz) ?_
      refine jx_of (fun _ _ kz => jw_iconst 1 d_L_law_180 (by decide) kz) ?_
      refine jx_of (fun _ _ kz => jw_iadd d_L_law_181 kz) ?_
      rw [show (nI i + 1 : Int32) = nI (i + 1) from nI_add i 1]
      refine jx_of (fun _ _ kz => jw_sld d_L_law_182 (by rw [g2]; exact vp_in_nI (by omega) (by omega)) kz) ?_
      refine jx_callV hm1 mt_M_spawn cf_M rfl rfl ml_L_31 im_M_spawn se_M_spawn d_L_law_183 rfl rfl (Nat.le_of_ble_eq_true rfl) ?_
      rintro _ M2 ⟨v2, rfl, he, hr2⟩
      refine jx_eq (st2 := [.inl v2]) rfl rfl rfl ?_
      refine jx_of (fun _ _ kz => jw_pop d_L_law_186 kz) ?_
      refine jx_of (fun _ _ kz => jw_goto 483 d_L_law_187 (by decide) kz) ?_
      exact lw_inc (ih (i + 3) M2 hr2 (by omega) (by omega))
    · skip
      refine jx_of (fun _ _ kz => jw_tabIn 190 d_L_law_32 (by decide) (by decide) rfl (by decide) kz) ?_
      refine jx_of (fun _ _ kz => jw_aload_n 1 d_L_law_190 rfl rfl kz) ?_
      refine jx_of (fun _ _ kz => jw_aload_n 0 d_L_law_191 rfl rfl kz) ?_
      refine jx_of (fun _ _ kz => jw_iload_n 3 d_L_law_192 rfl rfl kz) ?_
      refine jx_of (fun _ _ kz => jw_iconst 1 d_L_law_193 (by decide) kz) ?_
      refine jx_of (fun _ _ kz => jw_iadd d_L_law_194 kz) ?_
      rw [show (nI i + 1 : Int32) = nI (i + 1) from nI_add i 1]
      refine jx_of (fun _ _ kz => jw_sld d_L_law_195 (by rw [g2]; exact vp_in_nI (by omega) (by omega)) kz) ?_
      refine jx_callV (b_turn d (G.2.2.2.2.2.2 (Int32.toNatClampNeg (nI (i + 1)))) hr) mt_Y_turn cf_Y rfl rfl ml_L_32 im_Y_turn se_Y_turn d_L_law_196 rfl rfl (Nat.le_of_ble_eq_true rfl) ?_
      rintro _ M1 ⟨v, rfl, hm1⟩
      refine jx_eq (st2 := [.inl v]) rfl rfl rfl ?_
      refine jx_of (fun _ _ kz => jw_pop d_L_law_199 kz) ?_
      refine jx_of (fun _ _ kz => jw_aload_n 2 d_L_law_200 rfl rfl kz) ?_
      refine jx_of (fun _ _ kz => jw_aload_n 0 d_L_law_201 rfl rfl kz) ?_
      refine jx_of (fun _ _ kz => jw_iload_n 3 d_L_law_202 rfl rfl kz) ?_
      refine jx_of (fun _ _ kz => jw_iconst 1 d_L_law_203 (by decide) kz) ?_
      refine jx_of (fun _ _ kz => jw_iadd d_L_law_204 kz) ?_
      rw [show (nI i + 1 : Int32) = nI (i + 1) from nI_add i 1]
      refine jx_of (fun _ _ kz => jw_sld d_L_law_205 (by rw [g2]; exact vp_in_nI (by omega) (by omega)) kz) ?_
      refine jx_callV hm1 mt_M_turn cf_M rfl rfl ml_L_35 im_M_turn se_M_turn d_L_law_206 rfl rfl (Nat.le_of_ble_eq_true rfl) ?_
      rintro _ M2 ⟨v2, rfl, he, hr2⟩
      refine jx_eq (st2 := [.inl v2]) rfl rfl rfl ?_
      refine jx_of (fun _ _ kz => jw_pop d_L_law_209 kz) ?_
      refine jx_of (fun _ _ kz => jw_goto 483 d_L_law_210 (by decide) kz) ?_
      exact lw_inc (ih (i + 3) M2 hr2 (by omega) (by omega))
    · skip
      refine jx_of (fun _ _ kz => jw_tabIn 213 d_L_law_32 (by decide) (by decide) rfl (by decide) kz) ?_
      refine jx_of (fun _ _ kz => jw_aload_n 1 d_L_law_213 rfl rfl kz) ?_
      refine jx_of (fun _ _ kz => jw_aload_n 0 d_L_law_214 rfl rfl kz) ?_
      refine jx_of (fun _ _ kz => jw_iload_n 3 d_L_law_215 rfl rfl kz) ?_
      refine jx_of (fun _ _ kz => jw_iconst 1 d_L_law_216 (by decide) kz) ?_
      refine jx_of (fun _ _ kz => jw_iadd d_L_law_217 kz) ?_
      rw [show (nI i + 1 : Int32) = nI (i + 1) from nI_add i 1]
      refine jx_of (fun _ _ kz => jw_sld d_L_law_218 (by rw [g2]; exact vp_in_nI (by omega) (by omega)) kz) ?_
      refine jx_callV (b_run d (G.2.2.2.2.2.2 (Int32.toNatClampNeg (nI (i + 1)))) hr) mt_Y_run cf_Y rfl rfl ml_L_36 im_Y_run se_Y_run d_L_law_219 rfl rfl (Nat.le_of_ble_eq_true rfl) ?_
      rintro _ M1 ⟨v, rfl, hm1⟩
      refine jx_eq (st2 := [.inl v]) rfl rfl rfl ?_
      refine jx_of (fun _ _ kz => jw_pop d_L_law_222 kz) ?_
      refine jx_of (fun _ _ kz => jw_aload_n 2 d_L_law_223 rfl rfl kz) ?_
      refine jx_of (fun _ _ kz => jw_aload_n 0 d_L_law_224 rfl rfl kz) ?_
      refine jx_of (fun _ _ kz => jw_iload_n 3 d_L_law_225 rfl rfl kz) ?_
      refine jx_of (fun _ _ kz => jw_iconst 1 d_L_law_226 (by decide) kz) ?_
      refine jx_of (fun _ _ kz => jw_iadd d_L_law_227 kz) ?_
      rw [show (nI i + 1 : Int32) = nI (i + 1) from nI_add i 1]
      refine jx_of (fun _ _ kz => jw_sld d_L_law_228 (by rw [g2]; exact vp_in_nI (by omega) (by omega)) kz) ?_
      refine jx_callV hm1 mt_M_run cf_M rfl rfl ml_L_39 im_M_run se_M_run d_L_law_229 rfl rfl (Nat.le_of_ble_eq_true rfl) ?_
      rintro _ M2 ⟨v2, rfl, he, hr2⟩
      refine jx_eq (st2 := [.inl v2]) rfl rfl rfl ?_
      refine jx_of (fun _ _ kz => jw_pop d_L_law_232 kz) ?_
      refine jx_of (fun _ _ kz => jw_goto 483 d_L_law_233 (by decide) kz) ?_
      exact lw_inc (ih (i + 3) M2 hr2 (by omega) (by omega))
    · skip
      refine jx_of (fun _ _ kz => jw_tabIn 236 d_L_law_32 (by decide) (by decide) rfl (by decide) kz) ?_
      refine jx_of (fun _ _ kz => jw_aload_n 1 d_L_law_236 rfl rfl kz) ?_
      refine jx_of (fun _ _ kz => jw_aload_n 0 d_L_law_237 rfl rfl kz) ?_
      refine jx_of (fun _ _ kz => jw_iload_n 3 d_L_law_238 rfl rfl kz) ?_
      refine jx_of (fun _ _ kz => jw_iconst 1 d_L_law_239 (by decide) kz) ?_
      refine jx_of (fun _ _ kz => jw_iadd d_L_law_240 kz) ?_
      rw [show (nI i + 1 : Int32) = nI (i + 1) from nI_add i 1]
      refine jx_of (fun _ _ kz => jw_sld d_L_law_241 (by rw [g2]; exact vp_in_nI (by omega) (by omega)) kz) ?_
      refine jx_callV (b_tick d (G.2.2.2.2.2.2 (Int32.toNatClampNeg (nI (i + 1)))) hr) mt_Y_tick cf_Y rfl rfl ml_L_40 im_Y_tick se_Y_tick d_L_law_242 rfl rfl (Nat.le_of_ble_eq_true rfl) ?_
      rintro _ M1 ⟨v, rfl, hm1⟩
      refine jx_eq (st2 := [.inl v]) rfl rfl rfl ?_
      refine jx_of (fun _ _ kz => jw_aload_n 2 d_L_law_245 rfl rfl kz) ?_
      refine jx_of (fun _ _ kz => jw_aload_n 0 d_L_law_246 rfl rfl kz) ?_
      refine jx_of (fun _ _ kz => jw_iload_n 3 d_L_law_247 rfl rfl kz) ?_
      refine jx_of (fun _ _ kz => jw_iconst 1 d_L_law_248 (by decide) kz) ?_
      refine jx_of (fun _ _ kz => jw_iadd d_L_law_249 kz) ?_
      rw [show (nI i + 1 : Int32) = nI (i + 1) from nI_add i 1]
      refine jx_of (fun _ _ kz => jw_sld d_L_law_250 (by rw [g2]; exact vp_in_nI (by omega) (by omega)) kz) ?_
      refine jx_callV hm1 mt_M_tick cf_M rfl rfl ml_L_43 im_M_tick se_M_tick d_L_law_251 rfl rfl (Nat.le_of_ble_eq_true rfl) ?_
      rintro _ M2 ⟨v2, rfl, he, hr2⟩
      refine jx_eq (st2 := [.inl v2, .inl v]) rfl rfl rfl ?_
      refine jx_icmp_eq 483 d_L_law_254 (by decide) (fun _ => ?_) (fun h => absurd (he trivial) h)
      exact lw_inc (ih (i + 3) M2 hr2 (by omega) (by omega))
    · skip
      refine jx_of (fun _ _ kz => jw_tabIn 259 d_L_law_32 (by decide) (by decide) rfl (by decide) kz) ?_
      refine jx_of (fun _ _ kz => jw_aload_n 1 d_L_law_259 rfl rfl kz) ?_
      refine jx_of (fun _ _ kz => jw_aload_n 0 d_L_law_260 rfl rfl kz) ?_
      refine jx_of (fun _ _ kz => jw_iload_n 3 d_L_law_261 rfl rfl kz) ?_
      refine jx_of (fun _ _ kz => jw_iconst 1 d_L_law_262 (by decide) kz) ?_
      refine jx_of (fun _ _ kz => jw_iadd d_L_law_263 kz) ?_
      rw [show (nI i + 1 : Int32) = nI (i + 1) from nI_add i 1]
      refine jx_of (fun _ _ kz => jw_sld d_L_law_264 (by rw [g2]; exact vp_in_nI (by omega) (by omega)) kz) ?_
      refine jx_callV (b_abort d (G.2.2.2.2.2.2 (Int32.toNatClampNeg (nI (i + 1)))) hr) mt_Y_abort cf_Y rfl rfl ml_L_44 im_Y_abort se_Y_abort d_L_law_265 rfl rfl (Nat.le_of_ble_eq_true rfl) ?_
      rintro _ M1 ⟨v, rfl, hm1⟩
      refine jx_eq (st2 := [.inl v]) rfl rfl rfl ?_
      refine jx_of (fun _ _ kz => jw_pop d_L_law_268 kz) ?_
      refine jx_of (fun _ _ kz => jw_aload_n 2 d_L_law_269 rfl rfl kz) ?_
      refine jx_of (fun _ _ kz => jw_aload_n 0 d_L_law_270 rfl rfl kz) ?_
      refine jx_of (fun _ _ kz => jw_iload_n 3 d_L_law_271 rfl rfl kz) ?_
      refine jx_of (fun _ _ kz => jw_iconst 1 d_L_law_272 (by decide) kz) ?_
      refine jx_of (fun _ _ kz => jw_iadd d_L_law_273 kz) ?_
      rw [show (nI i + 1 : Int32) = nI (i + 1) from nI_add i 1]
      refine jx_of (fun _ _ kz => jw_sld d_L_law_274 (by rw [g2]; exact vp_in_nI (by omega) (by omega)) kz) ?_
      refine jx_callV hm1 mt_M_abort cf_M rfl rfl ml_L_48 im_M_abort se_M_abort d_L_law_275 rfl rfl (Nat.le_of_ble_eq_true rfl) ?_
      rintro _ M2 ⟨v2, rfl, he, hr2⟩
      refine jx_eq (st2 := [.inl v2]) rfl rfl rfl ?_
      refine jx_of (fun _ _ kz => jw_pop d_L_law_278 kz) ?_
      refine jx_of (fun _ _ kz => jw_goto 483 d_L_law_279 (by decide) kz) ?_
      exact lw_inc (ih (i + 3) M2 hr2 (by omega) (by omega))
    · skip
      refine jx_of (fun _ _ kz => jw_tabIn 282 d_L_law_32 (by decide) (by decide) rfl (by decide) kz) ?_
      refine jx_of (fun _ _ kz => jw_aload_n 1 d_L_law_282 rfl rfl kz) ?_
      refine jx_of (fun _ _ kz => jw_aload_n 0 d_L_law_283 rfl rfl kz) ?_
      refine jx_of (fun _ _ kz => jw_iload_n 3 d_L_law_284 rfl rfl kz) ?_
      refine jx_of (fun _ _ kz => jw_iconst 1 d_L_law_285 (by decide) kz) ?_
      refine jx_of (fun _ _ kz => jw_iadd d_L_law_286 kz) ?_
      rw [show (nI i + 1 : Int32) = nI (i + 1) from nI_add i 1]
      refine jx_of (fun _ _ kz => jw_sld d_L_law_287 (by rw [g2]; exact vp_in_nI (by omega) (by omega)) kz) ?_
      refine jx_of (fun _ _ kz => jw_aload_n 0 d_L_law_288 rfl rfl kz) ?_
      refine jx_of (fun _ _ kz => jw_iload_n 3 d_L_law_289 rfl rfl kz) ?_
      refine jx_of (fun _ _ kz => jw_iconst 2 d_L_law_290 (by decide) kz) ?_
      refine jx_of (fun _ _ kz => jw_iadd d_L_law_291 kz) ?_
      rw [show (nI i + 2 : Int32) = nI (i + 2) from nI_add i 2]
      refine jx_of (fun _ _ kz => jw_sld d_L_law_292 (by rw [g2]; exact vp_in_nI (by omega) (by omega)) kz) ?_
      refine jx_callV (b_put d (G.2.2.2.2.2.2 (Int32.toNatClampNeg (nI (i + 1)))) (G.2.2.2.2.2.2 (Int32.toNatClampNeg (nI (i + 2)))) hr) mt_Y_put cf_Y rfl rfl ml_L_49 im_Y_put se_Y_put d_L_law_293 rfl rfl (Nat.le_of_ble_eq_true rfl) ?_
      rintro _ M1 ⟨v, rfl, hm1⟩
      refine jx_eq (st2 := [.inl v]) rfl rfl rfl ?_
      refine jx_of (fun _ _ kz => jw_pop d_L_law_296 kz) ?_
      refine jx_of (fun _ _ kz => jw_aload_n 2 d_L_law_297 rfl rfl kz) ?_
      refine jx_of (fun _ _ kz => jw_aload_n 0 d_L_law_298 rfl rfl kz) ?_
      refine jx_of (fun _ _ kz => jw_iload_n 3 d_L_law_299 rfl rfl kz) ?_
      refine jx_of (fun _ _ kz => jw_iconst 1 d_L_law_300 (by decide) kz) ?_
      refine jx_of (fun _ _ kz => jw_iadd d_L_law_301 kz) ?_
      rw [show (nI i + 1 : Int32) = nI (i + 1) from nI_add i 1]
      refine jx_of (fun _ _ kz => jw_sld d_L_law_302 (by rw [g2]; exact vp_in_nI (by omega) (by omega)) kz) ?_
      refine jx_of (fun _ _ kz => jw_aload_n 0 d_L_law_303 rfl rfl kz) ?_
      refine jx_of (fun _ _ kz => jw_iload_n 3 d_L_law_304 rfl rfl kz) ?_
      refine jx_of (fun _ _ kz => jw_iconst 2 d_L_law_305 (by decide) kz) ?_
      refine jx_of (fun _ _ kz => jw_iadd d_L_law_306 kz) ?_
      rw [show (nI i + 2 : Int32) = nI (i + 2) from nI_add i 2]
      refine jx_of (fun _ _ kz => jw_sld d_L_law_307 (by rw [g2]; exact vp_in_nI (by omega) (by omega)) kz) ?_
      refine jx_callV hm1 mt_M_put cf_M rfl rfl ml_L_52 im_M_put se_M_put d_L_law_308 rfl rfl (Nat.le_of_ble_eq_true rfl) ?_
      rintro _ M2 ⟨v2, rfl, he, hr2⟩
      refine jx_eq (st2 := [.inl v2]) rfl rfl rfl ?_
      refine jx_of (fun _ _ kz => jw_pop d_L_law_311 kz) ?_
      refine jx_of (fun _ _ kz => jw_goto 483 d_L_law_312 (by decide) kz) ?_
      exact lw_inc (ih (i + 3) M2 hr2 (by omega) (by omega))
    · skip
      refine jx_of (fun _ _ kz => jw_tabIn 315 d_L_law_32 (by decide) (by decide) rfl (by decide) kz) ?_
      refine jx_of (fun _ _ kz => jw_aload_n 1 d_L_law_315 rfl rfl kz) ?_
      refine jx_of (fun _ _ kz => jw_aload_n 0 d_L_law_316 rfl rfl kz) ?_
      refine jx_of (fun _ _ kz => jw_iload_n 3 d_L_law_317 rfl rfl kz) ?_
      refine jx_of (fun _ _ kz => jw_iconst 1 d_L_law_318 (by decide) kz) ?_
      refine jx_of (fun _ _ kz => jw_iadd d_L_law_319 kz) ?_
      rw [show (nI i + 1 : Int32) = nI (i + 1) from nI_add i 1]
      refine jx_of (fun _ _ kz => jw_sld d_L_law_320 (by rw [g2]; exact vp_in_nI (by omega) (by omega)) kz) ?_
      refine jx_callV (b_wake d (G.2.2.2.2.2.2 (Int32.toNatClampNeg (nI (i + 1)))) hr) mt_Y_wake cf_Y rfl rfl ml_L_53 im_Y_wake se_Y_wake d_L_law_321 rfl rfl (Nat.le_of_ble_eq_true rfl) ?_
      rintro _ M1 ⟨v, rfl, hm1⟩
      refine jx_eq (st2 := [.inl v]) rfl rfl rfl ?_
      refine jx_of (fun _ _ kz => jw_pop d_L_law_324 kz) ?_
      refine jx_of (fun _ _ kz => jw_aload_n 2 d_L_law_325 rfl rfl kz) ?_
      refine jx_of (fun _ _ kz => jw_aload_n 0 d_L_law_326 rfl rfl kz) ?_
      refine jx_of (fun _ _ kz => jw_iload_n 3 d_L_law_327 rfl rfl kz) ?_
      refine jx_of (fun _ _ kz => jw_iconst 1 d_L_law_328 (by decide) kz) ?_
      refine jx_of (fun _ _ kz => jw_iadd d_L_law_329 kz) ?_
      rw [show (nI i + 1 : Int32) = nI (i + 1) from nI_add i 1]
      refine jx_of (fun _ _ kz => jw_sld d_L_law_330 (by rw [g2]; exact vp_in_nI (by omega) (by omega)) kz) ?_
      refine jx_callV hm1 mt_M_wake cf_M rfl rfl ml_L_56 im_M_wake se_M_wake d_L_law_331 rfl rfl (Nat.le_of_ble_eq_true rfl) ?_
      rintro _ M2 ⟨v2, rfl, he, hr2⟩
      refine jx_eq (st2 := [.inl v2]) rfl rfl rfl ?_
      refine jx_of (fun _ _ kz => jw_pop d_L_law_334 kz) ?_
      refine jx_of (fun _ _ kz => jw_goto 483 d_L_law_335 (by decide) kz) ?_
      exact lw_inc (ih (i + 3) M2 hr2 (by omega) (by omega))
    · skip
      refine jx_of (fun _ _ kz => jw_tabIn 338 d_L_law_32 (by decide) (by decide) rfl (by decide) kz) ?_
      refine jx_of (fun _ _ kz => jw_aload_n 1 d_L_law_338 rfl rfl kz) ?_
      refine jx_of (fun _ _ kz => jw_aload_n 0 d_L_law_339 rfl rfl kz) ?_
      refine jx_of (fun _ _ kz => jw_iload_n 3 d_L_law_340 rfl rfl kz) ?_
      refine jx_of (fun _ _ kz => jw_iconst 1 d_L_law_341 (by decide) kz) ?_
      refine jx_of (fun _ _ kz => jw_iadd d_L_law_342 kz) ?_
      rw [show (nI i + 1 : Int32) = nI (i + 1) from nI_add i 1]
      refine jx_of (fun _ _ kz => jw_sld d_L_law_343 (by rw [g2]; exact vp_in_nI (by omega) (by omega)) kz) ?_
      refine jx_of (fun _ _ kz => jw_aload_n 0 d_L_law_344 rfl rfl kz) ?_
      refine jx_of (fun _ _ kz => jw_iload_n 3 d_L_law_345 rfl rfl kz) ?_
      refine jx_of (fun _ _ kz => jw_iconst 2 d_L_law_346 (by decide) kz) ?_
      refine jx_of (fun _ _ kz => jw_iadd d_L_law_347 kz) ?_
      rw [show (nI i + 2 : Int32) = nI (i + 2) from nI_add i 2]
      refine jx_of (fun _ _ kz => jw_sld d_L_law_348 (by rw [g2]; exact vp_in_nI (by omega) (by omega)) kz) ?_
      refine jx_callV (b_task d (G.2.2.2.2.2.2 (Int32.toNatClampNeg (nI (i + 1)))) (G.2.2.2.2.2.2 (Int32.toNatClampNeg (nI (i + 2)))) hr) mt_Y_task cf_Y rfl rfl ml_L_57 im_Y_task se_Y_task d_L_law_349 rfl rfl (Nat.le_of_ble_eq_true rfl) ?_
      rintro _ M1 ⟨v, rfl, hm1⟩
      refine jx_eq (st2 := [.inl v]) rfl rfl rfl ?_
      refine jx_of (fun _ _ kz => jw_pop d_L_law_352 kz) ?_
      refine jx_of (fun _ _ kz => jw_aload_n 2 d_L_law_353 rfl rfl kz) ?_
      refine jx_of (fun _ _ kz => jw_aload_n 0 d_L_law_354 rfl rfl kz) ?_
      refine jx_of (fun _ _ kz => jw_iload_n 3 d_L_law_355 rfl rfl kz) ?_
      refine jx_of (fun _ _ kz => jw_iconst 1 d_L_law_356 (by decide) kz) ?_
      refine jx_of (fun _ _ kz => jw_iadd d_L_law_357 kz) ?_
      rw [show (nI i + 1 : Int32) = nI (i + 1) from nI_add i 1]
      refine jx_of (fun _ _ kz => jw_sld d_L_law_358 (by rw [g2]; exact vp_in_nI (by omega) (by omega)) kz) ?_
      refine jx_of (fun _ _ kz => jw_aload_n 0 d_L_law_359 rfl rfl kz) ?_
      refine jx_of (fun _ _ kz => jw_iload_n 3 d_L_law_360 rfl rfl kz) ?_
      refine jx_of (fun _ _ kz => jw_iconst 2 d_L_law_361 (by decide) kz) ?_
      refine jx_of (fun _ _ kz => jw_iadd d_L_law_362 kz) ?_
      rw [show (nI i + 2 : Int32) = nI (i + 2) from nI_add i 2]
      refine jx_of (fun _ _ kz => jw_sld d_L_law_363 (by rw [g2]; exact vp_in_nI (by omega) (by omega)) kz) ?_
      refine jx_callV hm1 mt_M_task cf_M rfl rfl ml_L_60 im_M_task se_M_task d_L_law_364 rfl rfl (Nat.le_of_ble_eq_true rfl) ?_
      rintro _ M2 ⟨v2, rfl, he, hr2⟩
      refine jx_eq (st2 := [.inl v2]) rfl rfl rfl ?_
      refine jx_of (fun _ _ kz => jw_pop d_L_law_367 kz) ?_
      refine jx_of (fun _ _ kz => jw_goto 483 d_L_law_368 (by decide) kz) ?_
      exact lw_inc (ih (i + 3) M2 hr2 (by omega) (by omega))
    · skip
      refine jx_of (fun _ _ kz => jw_tabIn 371 d_L_law_32 (by decide) (by decide) rfl (by decide) kz) ?_
      refine jx_of (fun _ _ kz => jw_aload_n 1 d_L_law_371 rfl rfl kz) ?_
      refine jx_of (fun _ _ kz => jw_aload_n 0 d_L_law_372 rfl rfl kz) ?_
      refine jx_of (fun _ _ kz => jw_iload_n 3 d_L_law_373 rfl rfl kz) ?_
      refine jx_of (fun _ _ kz => jw_iconst 1 d_L_law_374 (by decide) kz) ?_
      refine jx_of (fun _ _ kz => jw_iadd d_L_law_375 kz) ?_
      rw [show (nI i + 1 : Int32) = nI (i + 1) from nI_add i 1]
      refine jx_of (fun _ _ kz => jw_sld d_L_law_376 (by rw [g2]; exact vp_in_nI (by omega) (by omega)) kz) ?_
      refine jx_of (fun _ _ kz => jw_aload_n 0 d_L_law_377 rfl rfl kz) ?_
      refine jx_of (fun _ _ kz => jw_iload_n 3 d_L_law_378 rfl rfl kz) ?_
      refine jx_of (fun _ _ kz => jw_iconst 2 d_L_law_379 (by decide) kz) ?_
      refine jx_of (fun _ _ kz => jw_iadd d_L_law_380 kz) ?_
      rw [show (nI i + 2 : Int32) = nI (i + 2) from nI_add i 2]
      refine jx_of (fun _ _ kz => jw_sld d_L_law_381 (by rw [g2]; exact vp_in_nI (by omega) (by omega)) kz) ?_
      refine jx_callV (b_worker d (G.2.2.2.2.2.2 (Int32.toNatClampNeg (nI (i + 1)))) (G.2.2.2.2.2.2 (Int32.toNatClampNeg (nI (i + 2)))) hr) mt_Y_worker cf_Y rfl rfl ml_L_61 im_Y_worker se_Y_worker d_L_law_382 rfl rfl (Nat.le_of_ble_eq_true rfl) ?_
      rintro _ M1 ⟨v, rfl, hm1⟩
      refine jx_eq (st2 := [.inl v]) rfl rfl rfl ?_
      refine jx_of (fun _ _ kz => jw_pop d_L_law_385 kz) ?_
      refine jx_of (fun _ _ kz => jw_aload_n 2 d_L_law_386 rfl rfl kz) ?_
      refine jx_of (fun _ _ kz => jw_aload_n 0 d_L_law_387 rfl rfl kz) ?_
      refine jx_of (fun _ _ kz => jw_iload_n 3 d_L_law_388 rfl rfl kz) ?_
      refine jx_of (fun _ _ kz => jw_iconst 1 d_L_law_389 (by decide) kz) ?_
      refine jx_of (fun _ _ kz => jw_iadd d_L_law_390 kz) ?_
      rw [show (nI i + 1 : Int32) = nI (i + 1) from nI_add i 1]
      refine jx_of (fun _ _ kz => jw_sld d_L_law_391 (by rw [g2]; exact vp_in_nI (by omega) (by omega)) kz) ?_
      refine jx_of (fun _ _ kz => jw_aload_n 0 d_L_law_392 rfl rfl kz) ?_
      refine jx_of (fun _ _ kz => jw_iload_n 3 d_L_law_393 rfl rfl kz) ?_
      refine jx_of (fun _ _ kz => jw_iconst 2 d_L_law_394 (by decide) kz) ?_
      refine jx_of (fun _ _ kz => jw_iadd d_L_law_395 kz) ?_
      rw [show (nI i + 2 : Int32) = nI (i + 2) from nI_add i 2]
      refine jx_of (fun _ _ kz => jw_sld d_L_law_396 (by rw [g2]; exact vp_in_nI (by omega) (by omega)) kz) ?_
      refine jx_callV hm1 mt_M_worker cf_M rfl rfl ml_L_64 im_M_worker se_M_worker d_L_law_397 rfl rfl (Nat.le_of_ble_eq_true rfl) ?_
      rintro _ M2 ⟨v2, rfl, he, hr2⟩
      refine jx_eq (st2 := [.inl v2]) rfl rfl rfl ?_
      refine jx_of (fun _ _ kz => jw_pop d_L_law_400 kz) ?_
      refine jx_of (fun _ _ kz => jw_goto 483 d_L_law_401 (by decide) kz) ?_
      exact lw_inc (ih (i + 3) M2 hr2 (by omega) (by omega))
    · skip
      refine jx_of (fun _ _ kz => jw_tabIn 404 d_L_law_32 (by decide) (by decide) rfl (by decide) kz) ?_
      refine jx_of (fun _ _ kz => jw_aload_n 1 d_L_law_404 rfl rfl kz) ?_
      refine jx_of (fun _ _ kz => jw_aload_n 0 d_L_law_405 rfl rfl kz) ?_
      refine jx_of (fun _ _ kz => jw_iload_n 3 d_L_law_406 rfl rfl kz) ?_
      refine jx_of (fun _ _ kz => jw_iconst 1 d_L_law_407 (by decide) kz) ?_
      refine jx_of (fun _ _ kz => jw_iadd d_L_law_408 kz) ?_
      rw [show (nI i + 1 : Int32) = nI (i + 1) from nI_add i 1]
      refine jx_of (fun _ _ kz => jw_sld d_L_law_409 (by rw [g2]; exact vp_in_nI (by omega) (by omega)) kz) ?_
      refine jx_callV (b_injected d (G.2.2.2.2.2.2 (Int32.toNatClampNeg (nI (i + 1)))) hr) mt_Y_injected cf_Y rfl rfl ml_L_65 im_Y_injected se_Y_injected d_L_law_410 rfl rfl (Nat.le_of_ble_eq_true rfl) ?_
      rintro _ M1 ⟨v, rfl, hm1⟩
      refine jx_eq (st2 := [.inl v]) rfl rfl rfl ?_
      refine jx_of (fun _ _ kz => jw_pop d_L_law_413 kz) ?_
      refine jx_of (fun _ _ kz => jw_aload_n 2 d_L_law_414 rfl rfl kz) ?_
      refine jx_of (fun _ _ kz => jw_aload_n 0 d_L_law_415 rfl rfl kz) ?_
      refine jx_of (fun _ _ kz => jw_iload_n 3 d_L_law_416 rfl rfl kz) ?_
      refine jx_of (fun _ _ kz => jw_iconst 1 d_L_law_417 (by decide) kz) ?_
      refine jx_of (fun _ _ kz => jw_iadd d_L_law_418 kz) ?_
      rw [show (nI i + 1 : Int32) = nI (i + 1) from nI_add i 1]
      refine jx_of (fun _ _ kz => jw_sld d_L_law_419 (by rw [g2]; exact vp_in_nI (by omega) (by omega)) kz) ?_
      refine jx_callV hm1 mt_M_injected cf_M rfl rfl ml_L_68 im_M_injected se_M_injected d_L_law_420 rfl rfl (Nat.le_of_ble_eq_true rfl) ?_
      rintro _ M2 ⟨v2, rfl, he, hr2⟩
      refine jx_eq (st2 := [.inl v2]) rfl rfl rfl ?_
      refine jx_of (fun _ _ kz => jw_pop d_L_law_423 kz) ?_
      refine jx_of (fun _ _ kz => jw_goto 483 d_L_law_424 (by decide) kz) ?_
      exact lw_inc (ih (i + 3) M2 hr2 (by omega) (by omega))
    · skip
      refine jx_of (fun _ _ kz => jw_tabIn 427 d_L_law_32 (by decide) (by decide) rfl (by decide) kz) ?_
      refine jx_of (fun _ _ kz => jw_aload_n 1 d_L_law_427 rfl rfl kz) ?_
      refine jx_of (fun _ _ kz => jw_aload_n 0 d_L_law_428 rfl rfl kz) ?_
      refine jx_of (fun _ _ kz => jw_iload_n 3 d_L_law_429 rfl rfl kz) ?_
      refine jx_of (fun _ _ kz => jw_iconst 1 d_L_law_430 (by decide) kz) ?_
      refine jx_of (fun _ _ kz => jw_iadd d_L_law_431 kz) ?_
      rw [show (nI i + 1 : Int32) = nI (i + 1) from nI_add i 1]
      refine jx_of (fun _ _ kz => jw_sld d_L_law_432 (by rw [g2]; exact vp_in_nI (by omega) (by omega)) kz) ?_
      refine jx_of (fun _ _ kz => jw_aload_n 0 d_L_law_433 rfl rfl kz) ?_
      refine jx_of (fun _ _ kz => jw_iload_n 3 d_L_law_434 rfl rfl kz) ?_
      refine jx_of (fun _ _ kz => jw_iconst 2 d_L_law_435 (by decide) kz) ?_
      refine jx_of (fun _ _ kz => jw_iadd d_L_law_436 kz) ?_
      rw [show (nI i + 2 : Int32) = nI (i + 2) from nI_add i 2]
      refine jx_of (fun _ _ kz => jw_sld d_L_law_437 (by rw [g2]; exact vp_in_nI (by omega) (by omega)) kz) ?_
      refine jx_callV (b_gate d (G.2.2.2.2.2.2 (Int32.toNatClampNeg (nI (i + 1)))) (G.2.2.2.2.2.2 (Int32.toNatClampNeg (nI (i + 2)))) hr) mt_Y_gate cf_Y rfl rfl ml_L_69 im_Y_gate se_Y_gate d_L_law_438 rfl rfl (Nat.le_of_ble_eq_true rfl) ?_
      rintro _ M1 ⟨v, rfl, hm1⟩
      refine jx_eq (st2 := [.inl v]) rfl rfl rfl ?_
      refine jx_of (fun _ _ kz => jw_pop d_L_law_441 kz) ?_
      refine jx_of (fun _ _ kz => jw_aload_n 2 d_L_law_442 rfl rfl kz) ?_
      refine jx_of (fun _ _ kz => jw_aload_n 0 d_L_law_443 rfl rfl kz) ?_
      refine jx_of (fun _ _ kz => jw_iload_n 3 d_L_law_444 rfl rfl kz) ?_
      refine jx_of (fun _ _ kz => jw_iconst 1 d_L_law_445 (by decide) kz) ?_
      refine jx_of (fun _ _ kz => jw_iadd d_L_law_446 kz) ?_
      rw [show (nI i + 1 : Int32) = nI (i + 1) from nI_add i 1]
      refine jx_of (fun _ _ kz => jw_sld d_L_law_447 (by rw [g2]; exact vp_in_nI (by omega) (by omega)) kz) ?_
      refine jx_of (fun _ _ kz => jw_aload_n 0 d_L_law_448 rfl rfl kz) ?_
      refine jx_of (fun _ _ kz => jw_iload_n 3 d_L_law_449 rfl rfl kz) ?_
      refine jx_of (fun _ _ kz => jw_iconst 2 d_L_law_450 (by decide) kz) ?_
      refine jx_of (fun _ _ kz => jw_iadd d_L_law_451 kz) ?_
      rw [show (nI i + 2 : Int32) = nI (i + 2) from nI_add i 2]
      refine jx_of (fun _ _ kz => jw_sld d_L_law_452 (by rw [g2]; exact vp_in_nI (by omega) (by omega)) kz) ?_
      refine jx_callV hm1 mt_M_gate cf_M rfl rfl ml_L_72 im_M_gate se_M_gate d_L_law_453 rfl rfl (Nat.le_of_ble_eq_true rfl) ?_
      rintro _ M2 ⟨v2, rfl, he, hr2⟩
      refine jx_eq (st2 := [.inl v2]) rfl rfl rfl ?_
      refine jx_of (fun _ _ kz => jw_pop d_L_law_456 kz) ?_
      refine jx_of (fun _ _ kz => jw_goto 483 d_L_law_457 (by decide) kz) ?_
      exact lw_inc (ih (i + 3) M2 hr2 (by omega) (by omega))
    · skip
      refine jx_of (fun _ _ kz => jw_tabIn 460 d_L_law_32 (by decide) (by decide) rfl (by decide) kz) ?_
      refine jx_of (fun _ _ kz => jw_aload_n 1 d_L_law_460 rfl rfl kz) ?_
      refine jx_of (fun _ _ kz => jw_aload_n 0 d_L_law_461 rfl rfl kz) ?_
      refine jx_of (fun _ _ kz => jw_iload_n 3 d_L_law_462 rfl rfl kz) ?_
      refine jx_of (fun _ _ kz => jw_iconst 1 d_L_law_463 (by decide) kz) ?_
      refine jx_of (fun _ _ kz => jw_iadd d_L_law_464 kz) ?_
      rw [show (nI i + 1 : Int32) = nI (i + 1) from nI_add i 1]
      refine jx_of (fun _ _ kz => jw_sld d_L_law_465 (by rw [g2]; exact vp_in_nI (by omega) (by omega)) kz) ?_
      refine jx_callV (b_count d (G.2.2.2.2.2.2 (Int32.toNatClampNeg (nI (i + 1)))) hr) mt_Y_count cf_Y rfl rfl ml_L_73 im_Y_count se_Y_count d_L_law_466 rfl rfl (Nat.le_of_ble_eq_true rfl) ?_
      rintro _ M1 ⟨v, rfl, hm1⟩
      refine jx_eq (st2 := [.inl v]) rfl rfl rfl ?_
      refine jx_of (fun _ _ kz => jw_pop d_L_law_469 kz) ?_
      refine jx_of (fun _ _ kz => jw_aload_n 2 d_L_law_470 rfl rfl kz) ?_
      refine jx_of (fun _ _ kz => jw_aload_n 0 d_L_law_471 rfl rfl kz) ?_
      refine jx_of (fun _ _ kz => jw_iload_n 3 d_L_law_472 rfl rfl kz) ?_
      refine jx_of (fun _ _ kz => jw_iconst 1 d_L_law_473 (by decide) kz) ?_
      refine jx_of (fun _ _ kz => jw_iadd d_L_law_474 kz) ?_
      rw [show (nI i + 1 : Int32) = nI (i + 1) from nI_add i 1]
      refine jx_of (fun _ _ kz => jw_sld d_L_law_475 (by rw [g2]; exact vp_in_nI (by omega) (by omega)) kz) ?_
      refine jx_callV hm1 mt_M_count cf_M rfl rfl ml_L_76 im_M_count se_M_count d_L_law_476 rfl rfl (Nat.le_of_ble_eq_true rfl) ?_
      rintro _ M2 ⟨v2, rfl, he, hr2⟩
      refine jx_eq (st2 := [.inl v2]) rfl rfl rfl ?_
      refine jx_of (fun _ _ kz => jw_pop d_L_law_479 kz) ?_
      refine jx_of (fun _ _ kz => jw_goto 483 d_L_law_480 (by decide) kz) ?_
      exact lw_inc (ih (i + 3) M2 hr2 (by omega) (by omega))
    · skip
      refine jx_of (fun _ _ kz => jw_tabOut 483 d_L_law_32 (by decide) (by decide) kz) ?_
      exact lw_inc (ih (i + 3) M hr (by omega) (by omega))
theorem ma_pO : pO ma_4 0 0 (fun _ => 0) := by
  refine ⟨⟨by decide +kernel, by decide +kernel, by decide +kernel, by decide +kernel, by decide +kernel, by decide +kernel⟩, by omega, by decide +kernel, fun k hk => by omega, fun k hk => ⟨0, by omega, ?_⟩⟩
  rcases (show k = 0 ∨ k = 1 ∨ k = 2 ∨ k = 3 ∨ k = 4 ∨ k = 5 ∨ k = 6 ∨ k = 7 ∨ k = 8 ∨ k = 9 ∨ k = 10 ∨ k = 11 by omega) with rfl | rfl | rfl | rfl | rfl | rfl | rfl | rfl | rfl | rfl | rfl | rfl <;> decide +kernel
theorem ma_rl : rl ma_4 := by
  refine ⟨0, 0, 0, 0, fun _ => 0, ?_, ?_, ?_, ?_, ?_, ?_, ?_, ?_⟩
  · refine ⟨⟨by decide +kernel, by decide +kernel, ?_⟩, ⟨by omega, by decide +kernel, by decide +kernel, fun p hp => by omega, ?_, ?_, ⟨0, by omega, by decide +kernel⟩⟩, by omega, by decide +kernel, fun t ht => by omega⟩
    · intro i hi
      rcases (show i = 0 ∨ i = 1 ∨ i = 2 ∨ i = 3 ∨ i = 4 ∨ i = 5 ∨ i = 6 ∨ i = 7 ∨ i = 8 by omega) with rfl | rfl | rfl | rfl | rfl | rfl | rfl | rfl | rfl <;> exact ⟨by decide +kernel, by decide +kernel, 0, by omega, by decide +kernel⟩
    · intro i hi
      rw [show i = 0 by omega]
      exact ⟨0, fun _ => 0, ma_pO⟩
    · intro w hw
      rcases w3 hw with rfl | rfl | rfl <;> decide +kernel
  · refine ⟨fun s hs => ?_, fun s hs => ?_⟩
    · rcases hs with rfl | rfl | rfl | rfl <;> decide +kernel
    · rcases hs with rfl | rfl | rfl | rfl <;> decide +kernel
  · exact ma_pO
  · refine ⟨⟨⟨by decide +kernel, by decide +kernel⟩, ⟨by decide +kernel, by omega, fun p hp => by omega⟩, ⟨by decide +kernel, by omega, fun t ht => by omega⟩, ⟨[], fun _ => [], fun _ => none, ?_⟩, Or.inl (by decide +kernel)⟩, by decide +kernel, 0, by omega, by decide +kernel⟩
    refine ⟨⟨by decide +kernel, fun k t h => by simp at h⟩, fun w hw => ⟨?_, by simp, fun k t h => by simp at h⟩, fun w hw => ?_, ⟨fun a => ?_, fun a h => ?_, by omega⟩, ⟨fun t h => by simp at h, fun w hw t h => by simp at h, fun w hw t h => by simp at h, fun t ht h => ?_⟩, fun t ht => by omega⟩
    · rcases w3 hw with rfl | rfl | rfl <;> decide +kernel
    · rcases w3 hw with rfl | rfl | rfl <;> decide +kernel
    · simp [qC, slc]
    · simp [qC, slc] at h
    · rcases (show t = 0 ∨ t = 1 ∨ t = 2 ∨ t = 3 ∨ t = 4 ∨ t = 5 ∨ t = 6 ∨ t = 7 ∨ t = 8 ∨ t = 9 ∨ t = 10 ∨ t = 11 by omega) with rfl | rfl | rfl | rfl | rfl | rfl | rfl | rfl | rfl | rfl | rfl | rfl <;> decide +kernel
  · exact ⟨by decide +kernel, by omega, fun k hk => by omega⟩
  · decide +kernel
  · have := ma_r.1; omega
  · have := ma_r.2; omega
set_option maxRecDepth 20000 in
set_option maxHeartbeats 4000000 in
theorem part_law {G : Gt} {nm : String} (d L : Nat) (hL : L ≤ 1536) (g2 : G.2.2.2.2.2.1 = L) : jx G (yt_L nm) (d + 33) 0 0 ma_0 0 [some (.inr (some (25, 0))), none, none, none] [] (fun r M' => r = some (.inl 1) ∧ me_C M' ≤ 600000 ∧ me_S M' ≤ 7302250) := by
  refine jx_of (fun _ _ kz => jw_newe (s := 0) 0 cf_Y df_Y cl_L_7 it_Y ii_Y d_L_law_0 rfl rfl (by decide) kz) ?_
  refine jx_eq (M2 := ma_1) rfl rfl rfl ?_
  refine jx_of (fun _ _ kz => jw_dup d_L_law_3 kz) ?_
  refine jx_callI (ma_Y (d + 29)) mt_Y_init rfl rfl ml_L_9 im_Y_init d_L_law_4 rfl rfl (Nat.le_of_ble_eq_true rfl) (fun _ _ h => h.1) ?_
  rintro _ ⟨_, rfl⟩
  refine jx_of (fun _ _ kz => jw_astore_n 1 d_L_law_7 rfl (Nat.le_of_ble_eq_true rfl) kz) ?_
  dsimp only [List.set]
  refine jx_of (fun _ _ kz => jw_newe (s := 7) 0 cf_M df_M cl_L_10 it_M ii_M d_L_law_8 rfl rfl (by decide +kernel) kz) ?_
  refine jx_eq (M2 := ma_3) rfl rfl rfl ?_
  refine jx_of (fun _ _ kz => jw_dup d_L_law_11 kz) ?_
  refine jx_callI (ma_M (d + 31)) mt_M_init rfl rfl ml_L_12 im_M_init d_L_law_12 rfl rfl (Nat.le_of_ble_eq_true rfl) (fun _ _ h => h.1) ?_
  rintro _ ⟨_, rfl⟩
  refine jx_of (fun _ _ kz => jw_astore_n 2 d_L_law_15 rfl (Nat.le_of_ble_eq_true rfl) kz) ?_
  dsimp only [List.set]
  refine jx_of (fun _ _ kz => jw_iconst 0 d_L_law_16 (by decide) kz) ?_
  refine jx_of (fun _ _ kz => jw_istore_n 3 d_L_law_17 rfl (Nat.le_of_ble_eq_true rfl) kz) ?_
  dsimp only [List.set]
  exact lw_loop d L hL g2 512 0 ma_4 ma_rl (by omega) (by omega)
