theorem qX_ext {M M' : Me} {nt : Nat} {inj : List Nat} {rg : Nat → List Nat} {sl : Nat → Option Nat} {X : List Nat} (h : qX M nt inj rg sl X) (e : ∀ s j, me_I M' s 0 j = me_I M s 0 j) : qX M' nt inj rg sl X := by
  unfold qX
  simp only [e]
  exact h
theorem un_c {M M' : Me} {s k t : Nat} {v : Int32} {s0 b lo hi : Nat} (hs0 : s0 ≠ 38) (hs : s ≠ 38) (h : shf s0 b lo hi (me_sI (me_sI M 38 0 t 0) s 0 k v) M') : shf s0 b lo hi (me_sI M s 0 k v) (me_sI M' 38 0 t (me_I M 38 0 t)) ∧ me_I M' 38 0 t = 0 := by
  have z : me_I M' 38 0 t = 0 := by rw [h.2.1 38 0 t (Or.inl (fun e => hs0 e.symm)), mx_ne (Or.inl (fun e => hs e.symm))]; simp [me_I_sI]
  refine ⟨⟨h.1, fun s' i j q => ?_, fun j => ?_⟩, z⟩
  · by_cases e : s' = 38 ∧ i = 0 ∧ j = t
    · rw [e.1, e.2.1, e.2.2, me_I_sI, if_pos ⟨rfl, rfl, rfl⟩, mx_ne (Or.inl (fun e => hs e.symm))]
    · rw [me_I_sI, if_neg e, h.2.1 s' i j q]
      simp only [me_I_sI, if_neg e]
  · rw [mx_ne (Or.inl hs0), h.2.2 j]
    have a : ∀ x, me_I (me_sI (me_sI M 38 0 t 0) s 0 k v) s0 0 x = me_I (me_sI M s 0 k v) s0 0 x := fun x => by
      simp [me_I_sI, hs0]
    rw [a, a]
theorem un_e {M : Me} {nt t : Nat} {v : Int32} {inj : List Nat} {rg : Nat → List Nat} {sl : Nat → Option Nat} (h : qX (me_sI M 38 0 t v) nt inj rg sl [t]) (z : me_I M 38 0 t = 0) : mQ M nt [] := by
  have h3 := qX_wh (v := 0) h
  have h4 := qX_zero h3 (by simp [me_I_sI])
  refine ⟨_, _, _, qX_ext h4 (fun s j => ?_)⟩
  rw [me_I_sI]
  split
  · rename_i e; rw [e.1, e.2.2]; exact z
  · rename_i e; rw [me_I_sI, if_neg e]
theorem un_i {M M' : Me} {nt t i : Nat} {inj : List Nat} {rg : Nat → List Nat} {sl : Nat → Option Nat} (hq : qX M nt inj rg sl []) (hi : inj[i]? = some t) (hs : shf 53 0 i (inj.length - 1) (me_sI (me_sI M 38 0 t 0) 7 0 28 (nI (inj.length - 1))) M') : mQ M' nt [] := by
  obtain ⟨a, z⟩ := un_c (by decide) (by decide) hs
  exact un_e (qX_rmi hq hi a) z
theorem un_r {M M' : Me} {nt t i w : Nat} {inj : List Nat} {rg : Nat → List Nat} {sl : Nat → Option Nat} (hq : qX M nt inj rg sl []) (hw : w < 3) (hi : (rg w)[i]? = some t) (hs : shf 51 (4 * w) i ((rg w).length - 1) (me_sI (me_sI M 38 0 t 0) 52 0 w (nI ((rg w).length - 1))) M') : mQ M' nt [] := by
  obtain ⟨a, z⟩ := un_c (by decide) (by decide) hs
  exact un_e (qX_rmr hq hw hi a) z
theorem un_s {M : Me} {nt t w : Nat} {inj : List Nat} {rg : Nat → List Nat} {sl : Nat → Option Nat} (hq : qX M nt inj rg sl []) (hw : w < 3) (hi : sl w = some t) : mQ (me_sI (me_sI M 38 0 t 0) 48 0 w (-1)) nt [] := by
  have h := qX_unslot hq hw hi
  refine un_e (v := me_I M 38 0 t) (qX_ext h (fun s j => ?_)) (by rw [mx_ne (by omega)]; simp [me_I_sI])
  by_cases e : s = 38 ∧ j = t
  · rw [e.1, e.2, me_I_sI, if_pos ⟨rfl, rfl, rfl⟩, mx_ne (by omega)]
  · simp only [me_I_sI, true_and, if_neg e]
theorem un_0 {M : Me} {nt t : Nat} {inj : List Nat} {rg : Nat → List Nat} {sl : Nat → Option Nat} (hq : qX M nt inj rg sl []) (z : me_I M 38 0 t = 0) : mQ (me_sI M 38 0 t 0) nt [] := by
  refine ⟨_, _, _, qX_ext hq (fun s j => ?_)⟩
  rw [me_I_sI]; split
  · rename_i e; rw [e.1, e.2.2]; exact z.symm
  · rfl
theorem mc_shf {M M1 M' : Me} {s b lo hi : Nat} (h : mc M M1) (k : shf s b lo hi M1 M') (hs : s = 51 ∨ s = 53) : mc M M' :=
  ⟨sq_tr h.1 k.1, fun s' i j q => (k.2.1 s' i j (Or.inl (by unfold kp at q; omega))).trans (h.2 s' i j q)⟩
theorem gi {l : List Nat} {i t : Nat} (h : l[i]? = some t) : i < l.length := by
  rcases Nat.lt_or_ge i l.length with q | q
  · exact q
  · rw [List.getElem?_eq_none q] at h; exact absurd h (by simp)
theorem gex {l : List Nat} {k : Nat} (h : k < l.length) : ∃ b, l[k]? = some b := ⟨l[k], List.getElem?_eq_getElem h⟩
theorem w3 {w : Nat} (hw : w < 3) : w = 0 ∨ w = 1 ∨ w = 2 := by omega
theorem n_m5 (w : Nat) : nI (5 + w) - 5 = nI w := by rw [← nI_add, Int32.add_comm, show (nI 5 : Int32) = 5 from rfl, Int32.add_sub_cancel]
theorem n_m2 (w : Nat) : nI (2 + w) - 2 = nI w := by rw [← nI_add, Int32.add_comm, show (nI 2 : Int32) = 2 from rfl, Int32.add_sub_cancel]
set_option maxRecDepth 20000 in
set_option maxHeartbeats 4000000 in
theorem un_si {G : Gt} {M1 : Me} (d t i nt : Nat) (inj : List Nat) (v : Int32) (o4 : Option AV) (c0 s0 : Nat) (Q : Option AV → Me → Prop) (hm1 : mSh M1) (h12 : inj.length ≤ 12) (ht : t < 12) (hv : ∀ k t, inj[k]? = some t → me_I M1 53 0 k = nI t) (hl9 : ∀ a ∈ inj, a < 12) (hi : inj[i]? = some t) (hK : ∀ k, inj[k]? = some t → jx G yt_M_unqueue (d + 2) c0 s0 M1 37 [some (.inr (some (7, 0))), some (.inl (nI t)), some (.inl v), some (.inl (nI k)), o4] [] Q) : ∀ (m k : Nat), k + m = i → jx G yt_M_unqueue (d + 2) c0 s0 M1 21 [some (.inr (some (7, 0))), some (.inl (nI t)), some (.inl v), some (.inl (nI k)), o4] [] Q := by
  intro m
  induction m with
  | zero =>
    intro k hk
    have hil := gi hi
    obtain ⟨b, hb⟩ := gex (l := inj) (k := k) (by omega)
    have hbl := hl9 b (List.mem_of_getElem? hb)
    have hbt : k = i → b = t := fun e => by rw [e, hi] at hb; exact (Option.some.inj hb).symm
    have ih : ∀ k, k + 0 = i + 1 → False → jx G yt_M_unqueue (d + 2) c0 s0 M1 21 [some (.inr (some (7, 0))), some (.inl (nI t)), some (.inl v), some (.inl (nI k)), o4] [] Q := fun _ _ f => f.elim
    refine jx_of (fun _ _ kz => jw_aload_n 0 d_M_unqueue_21 rfl rfl kz) ?_
    refine jx_of (fun _ _ kz => jw_getPe (some (53, 0)) fl_M_80 d_M_unqueue_22 rfl rfl (by simp [me_I_sI, me_I_sP, me_I_nx, me_P_sI, me_P_sP, me_P_nx, me_N_sI, me_N_sP, me_N_nx, me_L_sI, me_L_sP, me_L_nx, show me_P M1 7 0 24 = some (53, 0) from hm1.1 (7, 0, 24, 53, 0) (by decide)]) kz) ?_
    refine jx_of (fun _ _ kz => jw_iload_n 3 d_M_unqueue_25 rfl rfl kz) ?_
    refine jx_of (fun _ _ kz => jw_ialde (nI b) d_M_unqueue_26 rfl rfl (by rw [show me_L _ 53 0 = 12 from (by simp [me_I_sI, me_I_sP, me_I_nx, me_P_sI, me_P_sP, me_P_nx, me_N_sI, me_N_sP, me_N_nx, me_L_sI, me_L_sP, me_L_nx, show me_L M1 53 0 = 12 from hm1.2 (53, 0, 12) (by decide)])]; exact (vp_in_nI (by omega) (by decide))) (by rw [nI_clamp (by omega)]; exact hv k b hb) kz) ?_
    refine jx_of (fun _ _ kz => jw_iload_n 1 d_M_unqueue_27 rfl rfl kz) ?_
    refine jx_icmp_eq 37 d_M_unqueue_28 (by decide) (fun b_28 => ?_) (fun b_28 => ?_)
    · skip
      exact hK k (by rw [hb, (nI_eq (by omega) (by omega)).mp b_28])
    · skip
      refine jx_of (fun _ _ kz => jw_iincc 1 d_M_unqueue_31 (by decide) rfl (Nat.le_of_ble_eq_true rfl) kz) ?_
      dsimp only [List.set]
      refine jx_of (fun _ _ kz => jw_goto 21 d_M_unqueue_34 (by decide) kz) ?_
      rw [nI_1]
      first | exact ih (k + 1) (by omega) | exact absurd (by rw [hbt (by omega)]) b_28
  | succ m ih =>
    intro k hk
    have hil := gi hi
    obtain ⟨b, hb⟩ := gex (l := inj) (k := k) (by omega)
    have hbl := hl9 b (List.mem_of_getElem? hb)
    refine jx_of (fun _ _ kz => jw_aload_n 0 d_M_unqueue_21 rfl rfl kz) ?_
    refine jx_of (fun _ _ kz => jw_getPe (some (53, 0)) fl_M_80 d_M_unqueue_22 rfl rfl (by simp [me_I_sI, me_I_sP, me_I_nx, me_P_sI, me_P_sP, me_P_nx, me_N_sI, me_N_sP, me_N_nx, me_L_sI, me_L_sP, me_L_nx, show me_P M1 7 0 24 = some (53, 0) from hm1.1 (7, 0, 24, 53, 0) (by decide)]) kz) ?_
    refine jx_of (fun _ _ kz => jw_iload_n 3 d_M_unqueue_25 rfl rfl kz) ?_
    refine jx_of (fun _ _ kz => jw_ialde (nI b) d_M_unqueue_26 rfl rfl (by rw [show me_L _ 53 0 = 12 from (by simp [me_I_sI, me_I_sP, me_I_nx, me_P_sI, me_P_sP, me_P_nx, me_N_sI, me_N_sP, me_N_nx, me_L_sI, me_L_sP, me_L_nx, show me_L M1 53 0 = 12 from hm1.2 (53, 0, 12) (by decide)])]; exact (vp_in_nI (by omega) (by decide))) (by rw [nI_clamp (by omega)]; exact hv k b hb) kz) ?_
    refine jx_of (fun _ _ kz => jw_iload_n 1 d_M_unqueue_27 rfl rfl kz) ?_
    refine jx_icmp_eq 37 d_M_unqueue_28 (by decide) (fun b_28 => ?_) (fun b_28 => ?_)
    · skip
      exact hK k (by rw [hb, (nI_eq (by omega) (by omega)).mp b_28])
    · skip
      refine jx_of (fun _ _ kz => jw_iincc 1 d_M_unqueue_31 (by decide) rfl (Nat.le_of_ble_eq_true rfl) kz) ?_
      dsimp only [List.set]
      refine jx_of (fun _ _ kz => jw_goto 21 d_M_unqueue_34 (by decide) kz) ?_
      rw [nI_1]
      first | exact ih (k + 1) (by omega) | exact absurd (by rw [hbt (by omega)]) b_28
set_option maxRecDepth 20000 in
set_option maxHeartbeats 4000000 in
theorem un_hi {G : Gt} (M0 : Me) (d t i n : Nat) (v : Int32) (o4 : Option AV) (hn4 : n ≤ 11) (hn : me_I M0 7 0 28 = nI n) (c0 s0 : Nat) : ∀ (m k : Nat) (M1 : Me), k + m = n → i ≤ k → shf 53 0 i k M0 M1 → mSh M1 → jx G yt_M_unqueue (d + 2) c0 s0 M1 47 [some (.inr (some (7, 0))), some (.inl (nI t)), some (.inl v), some (.inl (nI k)), o4] [] (fun r M' => r = none ∧ shf 53 0 i n M0 M') := by
  intro m
  induction m with
  | zero =>
    intro k M1 hk hik hs hm1
    refine jx_of (fun _ _ kz => jw_iload_n 3 d_M_unqueue_47 rfl rfl kz) ?_
    refine jx_of (fun _ _ kz => jw_aload_n 0 d_M_unqueue_48 rfl rfl kz) ?_
    refine jx_of (fun _ _ kz => jw_getIe (nI n) fl_M_119 d_M_unqueue_49 rfl rfl (by rw [shf_o hs (by decide)]; exact hn) kz) ?_
    refine jx_icmp_ge 75 d_M_unqueue_52 (by decide) (fun _ => ?_) (fun h => absurd (nI_le (by omega) (by omega)) h)
    refine jx_of (fun _ _ kz => jw_goto 183 d_M_unqueue_75 (by decide) kz) ?_
    refine jx_vret d_M_unqueue_183 rfl ?_
    exact ⟨rfl, by rw [show n = k by omega]; exact hs⟩
  | succ m ih =>
    intro k M1 hk hik hs hm1
    refine jx_of (fun _ _ kz => jw_iload_n 3 d_M_unqueue_47 rfl rfl kz) ?_
    refine jx_of (fun _ _ kz => jw_aload_n 0 d_M_unqueue_48 rfl rfl kz) ?_
    refine jx_of (fun _ _ kz => jw_getIe (nI n) fl_M_119 d_M_unqueue_49 rfl rfl (by rw [shf_o hs (by decide)]; exact hn) kz) ?_
    refine jx_icmp_ge 75 d_M_unqueue_52 (by decide) (fun h => absurd h (nI_ge (by omega) (by omega))) (fun _ => ?_)
    refine jx_of (fun _ _ kz => jw_aload_n 0 d_M_unqueue_55 rfl rfl kz) ?_
    refine jx_of (fun _ _ kz => jw_getPe (some (53, 0)) fl_M_80 d_M_unqueue_56 rfl rfl (by simp [me_I_sI, me_I_sP, me_I_nx, me_P_sI, me_P_sP, me_P_nx, me_N_sI, me_N_sP, me_N_nx, me_L_sI, me_L_sP, me_L_nx, show me_P M1 7 0 24 = some (53, 0) from hm1.1 (7, 0, 24, 53, 0) (by decide)]) kz) ?_
    refine jx_of (fun _ _ kz => jw_iload_n 3 d_M_unqueue_59 rfl rfl kz) ?_
    refine jx_of (fun _ _ kz => jw_aload_n 0 d_M_unqueue_60 rfl rfl kz) ?_
    refine jx_of (fun _ _ kz => jw_getPe (some (53, 0)) fl_M_80 d_M_unqueue_61 rfl rfl (by simp [me_I_sI, me_I_sP, me_I_nx, me_P_sI, me_P_sP, me_P_nx, me_N_sI, me_N_sP, me_N_nx, me_L_sI, me_L_sP, me_L_nx, show me_P M1 7 0 24 = some (53, 0) from hm1.1 (7, 0, 24, 53, 0) (by decide)]) kz) ?_
    refine jx_of (fun _ _ kz => jw_iload_n 3 d_M_unqueue_64 rfl rfl kz) ?_
    refine jx_of (fun _ _ kz => jw_iconst 1 d_M_unqueue_65 (by decide) kz) ?_
    refine jx_of (fun _ _ kz => jw_iadd d_M_unqueue_66 kz) ?_
    rw [show ((nI k) + 1 : Int32) = nI (k + 1) from nI_1 _]
    refine jx_of (fun _ _ kz => jw_ialde (me_I M1 53 0 (k + 1)) d_M_unqueue_67 rfl rfl (by rw [show me_L _ 53 0 = 12 from (by simp [me_I_sI, me_I_sP, me_I_nx, me_P_sI, me_P_sP, me_P_nx, me_N_sI, me_N_sP, me_N_nx, me_L_sI, me_L_sP, me_L_nx, show me_L M1 53 0 = 12 from hm1.2 (53, 0, 12) (by decide)])]; exact (vp_in_nI (by omega) (by decide))) (by rw [nI_clamp (by omega)]) kz) ?_
    refine jx_of (fun _ _ kz => jw_iast d_M_unqueue_68 rfl rfl (by rw [show me_L _ 53 0 = 12 from (by simp [me_I_sI, me_I_sP, me_I_nx, me_P_sI, me_P_sP, me_P_nx, me_N_sI, me_N_sP, me_N_nx, me_L_sI, me_L_sP, me_L_nx, show me_L M1 53 0 = 12 from hm1.2 (53, 0, 12) (by decide)])]; exact (vp_in_nI (by omega) (by decide))) kz) ?_
    rw [nI_clamp (by omega)]
    refine jx_of (fun _ _ kz => jw_iincc 1 d_M_unqueue_69 (by decide) rfl (Nat.le_of_ble_eq_true rfl) kz) ?_
    dsimp only [List.set]
    refine jx_of (fun _ _ kz => jw_goto 47 d_M_unqueue_72 (by decide) kz) ?_
    rw [nI_1]
    exact ih (k + 1) _ (by omega) (by omega) (by have h9 := shf_st hs (by omega); rw [Nat.zero_add] at h9; exact h9) (mSh_mc hm1 (sq_sI sq_rf))
set_option maxRecDepth 20000 in
set_option maxHeartbeats 4000000 in
theorem un_sr {G : Gt} {M1 : Me} (d t i w : Nat) (l : List Nat) (v : Int32) (c0 s0 : Nat) (Q : Option AV → Me → Prop) (hm1 : mSh M1) (hw : w < 3) (h12 : l.length ≤ 4) (ht : t < 12) (hv : ∀ k t, l[k]? = some t → me_I M1 51 0 (4 * w + k) = nI t) (hl9 : ∀ a ∈ l, a < 12) (hi : l[i]? = some t) (hK : ∀ k, l[k]? = some t → jx G yt_M_unqueue (d + 2) c0 s0 M1 132 [some (.inr (some (7, 0))), some (.inl (nI t)), some (.inl v), some (.inl (nI w)), some (.inl (nI k))] [] Q) : ∀ (m k : Nat), k + m = i → jx G yt_M_unqueue (d + 2) c0 s0 M1 111 [some (.inr (some (7, 0))), some (.inl (nI t)), some (.inl v), some (.inl (nI w)), some (.inl (nI k))] [] Q := by
  intro m
  induction m with
  | zero =>
    intro k hk
    have hil := gi hi
    obtain ⟨b, hb⟩ := gex (l := l) (k := k) (by omega)
    have hbl := hl9 b (List.mem_of_getElem? hb)
    have hbt : k = i → b = t := fun e => by rw [e, hi] at hb; exact (Option.some.inj hb).symm
    have ih : ∀ k, k + 0 = i + 1 → False → jx G yt_M_unqueue (d + 2) c0 s0 M1 111 [some (.inr (some (7, 0))), some (.inl (nI t)), some (.inl v), some (.inl (nI w)), some (.inl (nI k))] [] Q := fun _ _ f => f.elim
    refine jx_of (fun _ _ kz => jw_aload_n 0 d_M_unqueue_111 rfl rfl kz) ?_
    refine jx_of (fun _ _ kz => jw_getPe (some (51, 0)) fl_M_74 d_M_unqueue_112 rfl rfl (by simp [me_I_sI, me_I_sP, me_I_nx, me_P_sI, me_P_sP, me_P_nx, me_N_sI, me_N_sP, me_N_nx, me_L_sI, me_L_sP, me_L_nx, show me_P M1 7 0 22 = some (51, 0) from hm1.1 (7, 0, 22, 51, 0) (by decide)]) kz) ?_
    refine jx_of (fun _ _ kz => jw_iconst 4 d_M_unqueue_115 (by decide) kz) ?_
    refine jx_of (fun _ _ kz => jw_iload_n 3 d_M_unqueue_116 rfl rfl kz) ?_
    refine jx_of (fun _ _ kz => jw_imul d_M_unqueue_117 kz) ?_
    rw [show (4 * (nI w) : Int32) = nI (4 * w) from n4 w]
    refine jx_of (fun _ _ kz => jw_iload d_M_unqueue_118 rfl kz) ?_
    refine jx_of (fun _ _ kz => jw_iadd d_M_unqueue_120 kz) ?_
    rw [show ((nI (4 * w)) + (nI k) : Int32) = nI (4 * w + k) from nI_add _ _]
    refine jx_of (fun _ _ kz => jw_ialde (nI b) d_M_unqueue_121 rfl rfl (by rw [show me_L _ 51 0 = 12 from (by simp [me_I_sI, me_I_sP, me_I_nx, me_P_sI, me_P_sP, me_P_nx, me_N_sI, me_N_sP, me_N_nx, me_L_sI, me_L_sP, me_L_nx, show me_L M1 51 0 = 12 from hm1.2 (51, 0, 12) (by decide)])]; exact (vp_in_nI (by omega) (by decide))) (by rw [nI_clamp (by omega)]; exact hv k b hb) kz) ?_
    refine jx_of (fun _ _ kz => jw_iload_n 1 d_M_unqueue_122 rfl rfl kz) ?_
    refine jx_icmp_eq 132 d_M_unqueue_123 (by decide) (fun b_123 => ?_) (fun b_123 => ?_)
    · skip
      exact hK k (by rw [hb, (nI_eq (by omega) (by omega)).mp b_123])
    · skip
      refine jx_of (fun _ _ kz => jw_iincc 1 d_M_unqueue_126 (by decide) rfl (Nat.le_of_ble_eq_true rfl) kz) ?_
      dsimp only [List.set]
      refine jx_of (fun _ _ kz => jw_goto 111 d_M_unqueue_129 (by decide) kz) ?_
      rw [nI_1]
      first | exact ih (k + 1) (by omega) | exact absurd (by rw [hbt (by omega)]) b_123
  | succ m ih =>
    intro k hk
    have hil := gi hi
    obtain ⟨b, hb⟩ := gex (l := l) (k := k) (by omega)
    have hbl := hl9 b (List.mem_of_getElem? hb)
    refine jx_of (fun _ _ kz => jw_aload_n 0 d_M_unqueue_111 rfl rfl kz) ?_
    refine jx_of (fun _ _ kz => jw_getPe (some (51, 0)) fl_M_74 d_M_unqueue_112 rfl rfl (by simp [me_I_sI, me_I_sP, me_I_nx, me_P_sI, me_P_sP, me_P_nx, me_N_sI, me_N_sP, me_N_nx, me_L_sI, me_L_sP, me_L_nx, show me_P M1 7 0 22 = some (51, 0) from hm1.1 (7, 0, 22, 51, 0) (by decide)]) kz) ?_
    refine jx_of (fun _ _ kz => jw_iconst 4 d_M_unqueue_115 (by decide) kz) ?_
    refine jx_of (fun _ _ kz => jw_iload_n 3 d_M_unqueue_116 rfl rfl kz) ?_
    refine jx_of (fun _ _ kz => jw_imul d_M_unqueue_117 kz) ?_
    rw [show (4 * (nI w) : Int32) = nI (4 * w) from n4 w]
    refine jx_of (fun _ _ kz => jw_iload d_M_unqueue_118 rfl kz) ?_
    refine jx_of (fun _ _ kz => jw_iadd d_M_unqueue_120 kz) ?_
    rw [show ((nI (4 * w)) + (nI k) : Int32) = nI (4 * w + k) from nI_add _ _]
    refine jx_of (fun _ _ kz => jw_ialde (nI b) d_M_unqueue_121 rfl rfl (by rw [show me_L _ 51 0 = 12 from (by simp [me_I_sI, me_I_sP, me_I_nx, me_P_sI, me_P_sP, me_P_nx, me_N_sI, me_N_sP, me_N_nx, me_L_sI, me_L_sP, me_L_nx, show me_L M1 51 0 = 12 from hm1.2 (51, 0, 12) (by decide)])]; exact (vp_in_nI (by omega) (by decide))) (by rw [nI_clamp (by omega)]; exact hv k b hb) kz) ?_
    refine jx_of (fun _ _ kz => jw_iload_n 1 d_M_unqueue_122 rfl rfl kz) ?_
    refine jx_icmp_eq 132 d_M_unqueue_123 (by decide) (fun b_123 => ?_) (fun b_123 => ?_)
    · skip
      exact hK k (by rw [hb, (nI_eq (by omega) (by omega)).mp b_123])
    · skip
      refine jx_of (fun _ _ kz => jw_iincc 1 d_M_unqueue_126 (by decide) rfl (Nat.le_of_ble_eq_true rfl) kz) ?_
      dsimp only [List.set]
      refine jx_of (fun _ _ kz => jw_goto 111 d_M_unqueue_129 (by decide) kz) ?_
      rw [nI_1]
      first | exact ih (k + 1) (by omega) | exact absurd (by rw [hbt (by omega)]) b_123
set_option maxRecDepth 20000 in
set_option maxHeartbeats 4000000 in
theorem un_hr {G : Gt} (M0 : Me) (d t i n w : Nat) (v : Int32) (hw : w < 3) (hn4 : n ≤ 3) (hn : me_I M0 52 0 w = nI n) (c0 s0 : Nat) : ∀ (m k : Nat) (M1 : Me), k + m = n → i ≤ k → shf 51 (4 * w) i k M0 M1 → mSh M1 → jx G yt_M_unqueue (d + 2) c0 s0 M1 142 [some (.inr (some (7, 0))), some (.inl (nI t)), some (.inl v), some (.inl (nI w)), some (.inl (nI k))] [] (fun r M' => r = none ∧ shf 51 (4 * w) i n M0 M') := by
  intro m
  induction m with
  | zero =>
    intro k M1 hk hik hs hm1
    refine jx_of (fun _ _ kz => jw_iload d_M_unqueue_142 rfl kz) ?_
    refine jx_of (fun _ _ kz => jw_aload_n 0 d_M_unqueue_144 rfl rfl kz) ?_
    refine jx_of (fun _ _ kz => jw_getPe (some (52, 0)) fl_M_77 d_M_unqueue_145 rfl rfl (by simp [me_I_sI, me_I_sP, me_I_nx, me_P_sI, me_P_sP, me_P_nx, me_N_sI, me_N_sP, me_N_nx, me_L_sI, me_L_sP, me_L_nx, show me_P M1 7 0 23 = some (52, 0) from hm1.1 (7, 0, 23, 52, 0) (by decide)]) kz) ?_
    refine jx_of (fun _ _ kz => jw_iload_n 3 d_M_unqueue_148 rfl rfl kz) ?_
    refine jx_of (fun _ _ kz => jw_ialde (nI n) d_M_unqueue_149 rfl rfl (by rw [show me_L _ 52 0 = 3 from (by simp [me_I_sI, me_I_sP, me_I_nx, me_P_sI, me_P_sP, me_P_nx, me_N_sI, me_N_sP, me_N_nx, me_L_sI, me_L_sP, me_L_nx, show me_L M1 52 0 = 3 from hm1.2 (52, 0, 3) (by decide)])]; exact (vp_in_nI hw (by decide))) (by rw [nI_clamp (by omega), shf_o hs (by decide)]; exact hn) kz) ?_
    refine jx_icmp_ge 183 d_M_unqueue_150 (by decide) (fun _ => ?_) (fun h => absurd (nI_le (by omega) (by omega)) h)
    refine jx_vret d_M_unqueue_183 rfl ?_
    exact ⟨rfl, by rw [show n = k by omega]; exact hs⟩
  | succ m ih =>
    intro k M1 hk hik hs hm1
    refine jx_of (fun _ _ kz => jw_iload d_M_unqueue_142 rfl kz) ?_
    refine jx_of (fun _ _ kz => jw_aload_n 0 d_M_unqueue_144 rfl rfl kz) ?_
    refine jx_of (fun _ _ kz => jw_getPe (some (52, 0)) fl_M_77 d_M_unqueue_145 rfl rfl (by simp [me_I_sI, me_I_sP, me_I_nx, me_P_sI, me_P_sP, me_P_nx, me_N_sI, me_N_sP, me_N_nx, me_L_sI, me_L_sP, me_L_nx, show me_P M1 7 0 23 = some (52, 0) from hm1.1 (7, 0, 23, 52, 0) (by decide)]) kz) ?_
    refine jx_of (fun _ _ kz => jw_iload_n 3 d_M_unqueue_148 rfl rfl kz) ?_
    refine jx_of (fun _ _ kz => jw_ialde (nI n) d_M_unqueue_149 rfl rfl (by rw [show me_L _ 52 0 = 3 from (by simp [me_I_sI, me_I_sP, me_I_nx, me_P_sI, me_P_sP, me_P_nx, me_N_sI, me_N_sP, me_N_nx, me_L_sI, me_L_sP, me_L_nx, show me_L M1 52 0 = 3 from hm1.2 (52, 0, 3) (by decide)])]; exact (vp_in_nI hw (by decide))) (by rw [nI_clamp (by omega), shf_o hs (by decide)]; exact hn) kz) ?_
    refine jx_icmp_ge 183 d_M_unqueue_150 (by decide) (fun h => absurd h (nI_ge (by omega) (by omega))) (fun _ => ?_)
    refine jx_of (fun _ _ kz => jw_aload_n 0 d_M_unqueue_153 rfl rfl kz) ?_
    refine jx_of (fun _ _ kz => jw_getPe (some (51, 0)) fl_M_74 d_M_unqueue_154 rfl rfl (by simp [me_I_sI, me_I_sP, me_I_nx, me_P_sI, me_P_sP, me_P_nx, me_N_sI, me_N_sP, me_N_nx, me_L_sI, me_L_sP, me_L_nx, show me_P M1 7 0 22 = some (51, 0) from hm1.1 (7, 0, 22, 51, 0) (by decide)]) kz) ?_
    refine jx_of (fun _ _ kz => jw_iconst 4 d_M_unqueue_157 (by decide) kz) ?_
    refine jx_of (fun _ _ kz => jw_iload_n 3 d_M_unqueue_158 rfl rfl kz) ?_
    refine jx_of (fun _ _ kz => jw_imul d_M_unqueue_159 kz) ?_
    rw [show (4 * (nI w) : Int32) = nI (4 * w) from n4 w]
    refine jx_of (fun _ _ kz => jw_iload d_M_unqueue_160 rfl kz) ?_
    refine jx_of (fun _ _ kz => jw_iadd d_M_unqueue_162 kz) ?_
    rw [show ((nI (4 * w)) + (nI k) : Int32) = nI (4 * w + k) from nI_add _ _]
    refine jx_of (fun _ _ kz => jw_aload_n 0 d_M_unqueue_163 rfl rfl kz) ?_
    refine jx_of (fun _ _ kz => jw_getPe (some (51, 0)) fl_M_74 d_M_unqueue_164 rfl rfl (by simp [me_I_sI, me_I_sP, me_I_nx, me_P_sI, me_P_sP, me_P_nx, me_N_sI, me_N_sP, me_N_nx, me_L_sI, me_L_sP, me_L_nx, show me_P M1 7 0 22 = some (51, 0) from hm1.1 (7, 0, 22, 51, 0) (by decide)]) kz) ?_
    refine jx_of (fun _ _ kz => jw_iconst 4 d_M_unqueue_167 (by decide) kz) ?_
    refine jx_of (fun _ _ kz => jw_iload_n 3 d_M_unqueue_168 rfl rfl kz) ?_
    refine jx_of (fun _ _ kz => jw_imul d_M_unqueue_169 kz) ?_
    rw [show (4 * (nI w) : Int32) = nI (4 * w) from n4 w]
    refine jx_of (fun _ _ kz => jw_iload d_M_unqueue_170 rfl kz) ?_
    refine jx_of (fun _ _ kz => jw_iadd d_M_unqueue_172 kz) ?_
    rw [show ((nI (4 * w)) + (nI k) : Int32) = nI (4 * w + k) from nI_add _ _]
    refine jx_of (fun _ _ kz => jw_iconst 1 d_M_unqueue_173 (by decide) kz) ?_
    refine jx_of (fun _ _ kz => jw_iadd d_M_unqueue_174 kz) ?_
    rw [show ((nI (4 * w + k)) + 1 : Int32) = nI (4 * w + k + 1) from nI_1 _]
    refine jx_of (fun _ _ kz => jw_ialde (me_I M1 51 0 (4 * w + k + 1)) d_M_unqueue_175 rfl rfl (by rw [show me_L _ 51 0 = 12 from (by simp [me_I_sI, me_I_sP, me_I_nx, me_P_sI, me_P_sP, me_P_nx, me_N_sI, me_N_sP, me_N_nx, me_L_sI, me_L_sP, me_L_nx, show me_L M1 51 0 = 12 from hm1.2 (51, 0, 12) (by decide)])]; exact (vp_in_nI (by omega) (by decide))) (by rw [nI_clamp (by omega)]) kz) ?_
    refine jx_of (fun _ _ kz => jw_iast d_M_unqueue_176 rfl rfl (by rw [show me_L _ 51 0 = 12 from (by simp [me_I_sI, me_I_sP, me_I_nx, me_P_sI, me_P_sP, me_P_nx, me_N_sI, me_N_sP, me_N_nx, me_L_sI, me_L_sP, me_L_nx, show me_L M1 51 0 = 12 from hm1.2 (51, 0, 12) (by decide)])]; exact (vp_in_nI (by omega) (by decide))) kz) ?_
    rw [nI_clamp (by omega)]
    refine jx_of (fun _ _ kz => jw_iincc 1 d_M_unqueue_177 (by decide) rfl (Nat.le_of_ble_eq_true rfl) kz) ?_
    dsimp only [List.set]
    refine jx_of (fun _ _ kz => jw_goto 142 d_M_unqueue_180 (by decide) kz) ?_
    rw [nI_1]
    exact ih (k + 1) _ (by omega) (by omega) (shf_st hs (by omega)) (mSh_mc hm1 (sq_sI sq_rf))
