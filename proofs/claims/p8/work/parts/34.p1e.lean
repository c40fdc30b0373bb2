theorem tkv_one {x y : Int32} : tkv x y = 1 ∨ tkv x y = -1 := by
  unfold tkv
  split
  · exact Or.inr rfl
  · split
    · exact Or.inr rfl
    · split
      · exact Or.inr rfl
      · split
        · exact Or.inl rfl
        · exact Or.inr rfl
theorem tk_case {j : Nat} {y lo hi : Int32} (hj : j < 16) (h1 : sv_LOWEST.getD j 0 = lo) (h2 : sv_HIGHEST.getD j 0 = hi) : (if y < lo then 0 else if hi < y then 0 else 1) = (if tkv (nI j) y = 1 then 1 else 0 : Int32) := by
  have e1 : ¬ nI j < 0 := nI_pos (by omega)
  have e2 : ¬ (16 : Int32) ≤ nI j := nI_ge (b := 16) hj (by decide)
  have e3 : (nI j).toNatClampNeg = j := nI_clamp (by omega)
  unfold tkv
  rw [if_neg e1, if_neg e2, e3, h1, h2]
  by_cases q1 : y < lo
  · rw [if_pos q1, if_pos q1, if_neg (by decide)]
  · rw [if_neg q1, if_neg q1]
    by_cases q2 : hi < y
    · rw [if_pos q2, if_neg (Int32.not_le.mpr q2), if_neg (by decide)]
    · rw [if_neg q2, if_pos (Int32.not_lt.mp q2), if_pos rfl]
theorem i32_min (y : Int32) : ¬ y < -2147483648 := by
  refine Int32.not_lt.mpr (Int32.le_iff_toInt_le.mpr ?_)
  have h := Int32.le_toInt y
  have e : (-2147483648 : Int32).toInt = -2147483648 := by decide
  rw [e]; omega
theorem i32_max (y : Int32) : ¬ 2147483647 < y := by
  refine Int32.not_lt.mpr (Int32.le_iff_toInt_le.mpr ?_)
  have h := Int32.toInt_lt y
  have e : (2147483647 : Int32).toInt = 2147483647 := by decide
  rw [e]; omega
theorem tk_any {j : Nat} {y : Int32} (hj : j < 16) (h1 : sv_LOWEST.getD j 0 = -2147483648) (h2 : sv_HIGHEST.getD j 0 = 2147483647) : (if nI j < 0 then 0 else if 15 < nI j then 0 else 1) = (if tkv (nI j) y = 1 then 1 else 0 : Int32) := by
  have e15 : ¬ (15 : Int32) < nI j := nI_nlt (a := 15) (b := j) (by omega) (by decide)
  rw [← tk_case (y := y) hj h1 h2, if_neg (nI_pos (by omega)), if_neg (i32_min y), if_neg (i32_max y), if_neg e15]
theorem tk_out {x y : Int32} (h : x.toInt < 0 ∨ ((14 : Nat) : Int) - 1 < x.toInt) : (if x < 0 then 0 else if 15 < x then 0 else 1) = (if tkv x y = 1 then 1 else 0 : Int32) := by
  rcases pk_ix x (n := 16) (by decide) with q | q | ⟨j, hj, rfl⟩
  · rw [if_pos q]; unfold tkv; rw [if_pos q, if_neg (by decide)]
  · have q : (16 : Int32) ≤ x := q
    have q15 : 15 < x := by
      refine Int32.lt_iff_toInt_lt.mpr ?_
      have h3 := Int32.le_iff_toInt_le.mp q
      have e : (16 : Int32).toInt = 16 := by decide
      have e2 : (15 : Int32).toInt = 15 := by decide
      rw [e] at h3; rw [e2]; omega
    have q0 : ¬ x < 0 := fun q1 => by
      have a := Int32.lt_iff_toInt_lt.mp q1
      have b := Int32.le_iff_toInt_le.mp q
      have e : (16 : Int32).toInt = 16 := by decide
      have e0 : (0 : Int32).toInt = 0 := by decide
      rw [e] at b; rw [e0] at a; omega
    rw [if_neg q0, if_pos q15]; unfold tkv; rw [if_neg q0, if_pos q, if_neg (by decide)]
  · rw [nI_toInt (by omega)] at h
    rcases (show j = 14 ∨ j = 15 by omega) with rfl | rfl
    · exact tk_any (by decide) (by decide) (by decide)
    · exact tk_any (by decide) (by decide) (by decide)
set_option maxRecDepth 20000 in
set_option maxHeartbeats 4000000 in
theorem x_M_fits {G : Gt} {M : Me} (d : Nat) (x : Int32) (y : Int32) : sx G yt_M_fits yn_M_fits (d + 2) [.inl x, .inl y] M (fun r M' => r = some (.inl (if tkv x y = 1 then 1 else 0)) ∧ M = M') := by
  refine sx_of (k := 0) (lc := [some (.inl x), some (.inl y)]) mt_M_fits (Nat.le_of_ble_eq_true rfl) rfl ?_
  refine jx_of (fun _ _ kz => jw_iload_n 0 d_M_fits_0 rfl rfl kz) ?_
  rcases sw_cases (x) 14 (by decide) with t_1 | t_1
  · skip
    refine jx_of (fun _ _ kz => jw_tabOut 105 d_M_fits_1 (by rcases t_1 with h | h <;> omega) (by decide) kz) ?_
    refine jx_of (fun _ _ kz => jw_iload_n 0 d_M_fits_105 rfl rfl kz) ?_
    refine jx_of (fun _ _ kz => jw_iconst 0 d_M_fits_106 (by decide) kz) ?_
    refine jx_of (fun _ _ kz => jw_bipush 15 d_M_fits_107 (by decide) kz) ?_
    refine jx_callS (x_M_is _ x 0 15) mt_M_is ml_M_93 sm_M_is d_M_fits_109 rfl rfl (Nat.le_of_ble_eq_true rfl) ?_
    rintro _ _ ⟨rfl, rfl⟩
    refine jx_eq (st2 := [.inl (if x < 0 then 0 else if 15 < x then 0 else 1)]) rfl rfl rfl ?_
    refine jx_zret d_M_fits_112 rfl (by split <;> first | (right; rfl) | (left; rfl) | (split <;> first | (right; rfl) | (left; rfl))) ?_
    exact ⟨congrArg (fun z => some (Sum.inl z)) (tk_out t_1), rfl⟩
  · skip
    obtain ⟨j_1, t_1, e_1⟩ := t_1
    rcases (show j_1 = 0 ∨ j_1 = 1 ∨ j_1 = 2 ∨ j_1 = 3 ∨ j_1 = 4 ∨ j_1 = 5 ∨ j_1 = 6 ∨ j_1 = 7 ∨ j_1 = 8 ∨ j_1 = 9 ∨ j_1 = 10 ∨ j_1 = 11 ∨ j_1 = 12 ∨ j_1 = 13 by omega) with rfl | rfl | rfl | rfl | rfl | rfl | rfl | rfl | rfl | rfl | rfl | rfl | rfl | rfl
    · skip
      refine jx_of (fun _ _ kz => jw_tabOut 105 d_M_fits_1 (by rw [e_1]; decide) (by decide) kz) ?_
      refine jx_of (fun _ _ kz => jw_iload_n 0 d_M_fits_105 rfl rfl kz) ?_
      refine jx_of (fun _ _ kz => jw_iconst 0 d_M_fits_106 (by decide) kz) ?_
      refine jx_of (fun _ _ kz => jw_bipush 15 d_M_fits_107 (by decide) kz) ?_
      refine jx_callS (x_M_is _ x 0 15) mt_M_is ml_M_93 sm_M_is d_M_fits_109 rfl rfl (Nat.le_of_ble_eq_true rfl) ?_
      rintro _ _ ⟨rfl, rfl⟩
      refine jx_eq (st2 := [.inl (if x < 0 then 0 else if 15 < x then 0 else 1)]) rfl rfl rfl ?_
      refine jx_zret d_M_fits_112 rfl (by split <;> first | (right; rfl) | (left; rfl) | (split <;> first | (right; rfl) | (left; rfl))) ?_
      subst e_1; exact ⟨congrArg (fun z => some (Sum.inl z)) (tk_any (by decide) (by decide) (by decide)), rfl⟩
    · skip
      refine jx_of (fun _ _ kz => jw_tabIn 68 d_M_fits_1 (by rw [e_1]; decide) (by rw [e_1]; decide) (by rw [e_1]; rfl) (by decide) kz) ?_
      refine jx_of (fun _ _ kz => jw_iload_n 1 d_M_fits_68 rfl rfl kz) ?_
      refine jx_of (fun _ _ kz => jw_iconst 0 d_M_fits_69 (by decide) kz) ?_
      refine jx_of (fun _ _ kz => jw_iconst 3 d_M_fits_70 (by decide) kz) ?_
      refine jx_callS (x_M_is _ y 0 3) mt_M_is ml_M_93 sm_M_is d_M_fits_71 rfl rfl (Nat.le_of_ble_eq_true rfl) ?_
      rintro _ _ ⟨rfl, rfl⟩
      refine jx_eq (st2 := [.inl (if y < 0 then 0 else if 3 < y then 0 else 1)]) rfl rfl rfl ?_
      refine jx_zret d_M_fits_74 rfl (by split <;> first | (right; rfl) | (left; rfl) | (split <;> first | (right; rfl) | (left; rfl))) ?_
      subst e_1; exact ⟨congrArg (fun z => some (Sum.inl z)) (tk_case (by decide) (by decide) (by decide)), rfl⟩
    · skip
      refine jx_of (fun _ _ kz => jw_tabIn 75 d_M_fits_1 (by rw [e_1]; decide) (by rw [e_1]; decide) (by rw [e_1]; rfl) (by decide) kz) ?_
      refine jx_of (fun _ _ kz => jw_iload_n 1 d_M_fits_75 rfl rfl kz) ?_
      refine jx_of (fun _ _ kz => jw_iconst 1 d_M_fits_76 (by decide) kz) ?_
      refine jx_of (fun _ _ kz => jw_bipush 40 d_M_fits_77 (by decide) kz) ?_
      refine jx_callS (x_M_is _ y 1 40) mt_M_is ml_M_93 sm_M_is d_M_fits_79 rfl rfl (Nat.le_of_ble_eq_true rfl) ?_
      rintro _ _ ⟨rfl, rfl⟩
      refine jx_eq (st2 := [.inl (if y < 1 then 0 else if 40 < y then 0 else 1)]) rfl rfl rfl ?_
      refine jx_zret d_M_fits_82 rfl (by split <;> first | (right; rfl) | (left; rfl) | (split <;> first | (right; rfl) | (left; rfl))) ?_
      subst e_1; exact ⟨congrArg (fun z => some (Sum.inl z)) (tk_case (by decide) (by decide) (by decide)), rfl⟩
    · skip
      refine jx_of (fun _ _ kz => jw_tabIn 83 d_M_fits_1 (by rw [e_1]; decide) (by rw [e_1]; decide) (by rw [e_1]; rfl) (by decide) kz) ?_
      refine jx_of (fun _ _ kz => jw_iload_n 1 d_M_fits_83 rfl rfl kz) ?_
      refine jx_of (fun _ _ kz => jw_iconst 0 d_M_fits_84 (by decide) kz) ?_
      refine jx_of (fun _ _ kz => jw_iconst 5 d_M_fits_85 (by decide) kz) ?_
      refine jx_callS (x_M_is _ y 0 5) mt_M_is ml_M_93 sm_M_is d_M_fits_86 rfl rfl (Nat.le_of_ble_eq_true rfl) ?_
      rintro _ _ ⟨rfl, rfl⟩
      refine jx_eq (st2 := [.inl (if y < 0 then 0 else if 5 < y then 0 else 1)]) rfl rfl rfl ?_
      refine jx_zret d_M_fits_89 rfl (by split <;> first | (right; rfl) | (left; rfl) | (split <;> first | (right; rfl) | (left; rfl))) ?_
      subst e_1; exact ⟨congrArg (fun z => some (Sum.inl z)) (tk_case (by decide) (by decide) (by decide)), rfl⟩
    · skip
      refine jx_of (fun _ _ kz => jw_tabIn 83 d_M_fits_1 (by rw [e_1]; decide) (by rw [e_1]; decide) (by rw [e_1]; rfl) (by decide) kz) ?_
      refine jx_of (fun _ _ kz => jw_iload_n 1 d_M_fits_83 rfl rfl kz) ?_
      refine jx_of (fun _ _ kz => jw_iconst 0 d_M_fits_84 (by decide) kz) ?_
      refine jx_of (fun _ _ kz => jw_iconst 5 d_M_fits_85 (by decide) kz) ?_
      refine jx_callS (x_M_is _ y 0 5) mt_M_is ml_M_93 sm_M_is d_M_fits_86 rfl rfl (Nat.le_of_ble_eq_true rfl) ?_
      rintro _ _ ⟨rfl, rfl⟩
      refine jx_eq (st2 := [.inl (if y < 0 then 0 else if 5 < y then 0 else 1)]) rfl rfl rfl ?_
      refine jx_zret d_M_fits_89 rfl (by split <;> first | (right; rfl) | (left; rfl) | (split <;> first | (right; rfl) | (left; rfl))) ?_
      subst e_1; exact ⟨congrArg (fun z => some (Sum.inl z)) (tk_case (by decide) (by decide) (by decide)), rfl⟩
    · skip
      refine jx_of (fun _ _ kz => jw_tabIn 90 d_M_fits_1 (by rw [e_1]; decide) (by rw [e_1]; decide) (by rw [e_1]; rfl) (by decide) kz) ?_
      refine jx_of (fun _ _ kz => jw_iload_n 1 d_M_fits_90 rfl rfl kz) ?_
      refine jx_of (fun _ _ kz => jw_iconst 0 d_M_fits_91 (by decide) kz) ?_
      refine jx_of (fun _ _ kz => jw_iconst 1 d_M_fits_92 (by decide) kz) ?_
      refine jx_callS (x_M_is _ y 0 1) mt_M_is ml_M_93 sm_M_is d_M_fits_93 rfl rfl (Nat.le_of_ble_eq_true rfl) ?_
      rintro _ _ ⟨rfl, rfl⟩
      refine jx_eq (st2 := [.inl (if y < 0 then 0 else if 1 < y then 0 else 1)]) rfl rfl rfl ?_
      refine jx_zret d_M_fits_96 rfl (by split <;> first | (right; rfl) | (left; rfl) | (split <;> first | (right; rfl) | (left; rfl))) ?_
      subst e_1; exact ⟨congrArg (fun z => some (Sum.inl z)) (tk_case (by decide) (by decide) (by decide)), rfl⟩
    · skip
      refine jx_of (fun _ _ kz => jw_tabIn 90 d_M_fits_1 (by rw [e_1]; decide) (by rw [e_1]; decide) (by rw [e_1]; rfl) (by decide) kz) ?_
      refine jx_of (fun _ _ kz => jw_iload_n 1 d_M_fits_90 rfl rfl kz) ?_
      refine jx_of (fun _ _ kz => jw_iconst 0 d_M_fits_91 (by decide) kz) ?_
      refine jx_of (fun _ _ kz => jw_iconst 1 d_M_fits_92 (by decide) kz) ?_
      refine jx_callS (x_M_is _ y 0 1) mt_M_is ml_M_93 sm_M_is d_M_fits_93 rfl rfl (Nat.le_of_ble_eq_true rfl) ?_
      rintro _ _ ⟨rfl, rfl⟩
      refine jx_eq (st2 := [.inl (if y < 0 then 0 else if 1 < y then 0 else 1)]) rfl rfl rfl ?_
      refine jx_zret d_M_fits_96 rfl (by split <;> first | (right; rfl) | (left; rfl) | (split <;> first | (right; rfl) | (left; rfl))) ?_
      subst e_1; exact ⟨congrArg (fun z => some (Sum.inl z)) (tk_case (by decide) (by decide) (by decide)), rfl⟩
    · skip
      refine jx_of (fun _ _ kz => jw_tabIn 83 d_M_fits_1 (by rw [e_1]; decide) (by rw [e_1]; decide) (by rw [e_1]; rfl) (by decide) kz) ?_
      refine jx_of (fun _ _ kz => jw_iload_n 1 d_M_fits_83 rfl rfl kz) ?_
      refine jx_of (fun _ _ kz => jw_iconst 0 d_M_fits_84 (by decide) kz) ?_
      refine jx_of (fun _ _ kz => jw_iconst 5 d_M_fits_85 (by decide) kz) ?_
      refine jx_callS (x_M_is _ y 0 5) mt_M_is ml_M_93 sm_M_is d_M_fits_86 rfl rfl (Nat.le_of_ble_eq_true rfl) ?_
      rintro _ _ ⟨rfl, rfl⟩
      refine jx_eq (st2 := [.inl (if y < 0 then 0 else if 5 < y then 0 else 1)]) rfl rfl rfl ?_
      refine jx_zret d_M_fits_89 rfl (by split <;> first | (right; rfl) | (left; rfl) | (split <;> first | (right; rfl) | (left; rfl))) ?_
      subst e_1; exact ⟨congrArg (fun z => some (Sum.inl z)) (tk_case (by decide) (by decide) (by decide)), rfl⟩
    · skip
      refine jx_of (fun _ _ kz => jw_tabIn 105 d_M_fits_1 (by rw [e_1]; decide) (by rw [e_1]; decide) (by rw [e_1]; rfl) (by decide) kz) ?_
      refine jx_of (fun _ _ kz => jw_iload_n 0 d_M_fits_105 rfl rfl kz) ?_
      refine jx_of (fun _ _ kz => jw_iconst 0 d_M_fits_106 (by decide) kz) ?_
      refine jx_of (fun _ _ kz => jw_bipush 15 d_M_fits_107 (by decide) kz) ?_
      refine jx_callS (x_M_is _ x 0 15) mt_M_is ml_M_93 sm_M_is d_M_fits_109 rfl rfl (Nat.le_of_ble_eq_true rfl) ?_
      rintro _ _ ⟨rfl, rfl⟩
      refine jx_eq (st2 := [.inl (if x < 0 then 0 else if 15 < x then 0 else 1)]) rfl rfl rfl ?_
      refine jx_zret d_M_fits_112 rfl (by split <;> first | (right; rfl) | (left; rfl) | (split <;> first | (right; rfl) | (left; rfl))) ?_
      subst e_1; exact ⟨congrArg (fun z => some (Sum.inl z)) (tk_any (by decide) (by decide) (by decide)), rfl⟩
    · skip
      refine jx_of (fun _ _ kz => jw_tabIn 97 d_M_fits_1 (by rw [e_1]; decide) (by rw [e_1]; decide) (by rw [e_1]; rfl) (by decide) kz) ?_
      refine jx_of (fun _ _ kz => jw_iload_n 1 d_M_fits_97 rfl rfl kz) ?_
      refine jx_of (fun _ _ kz => jw_iconst 1 d_M_fits_98 (by decide) kz) ?_
      refine jx_of (fun _ _ kz => jw_bipush 97 d_M_fits_99 (by decide) kz) ?_
      refine jx_callS (x_M_is _ y 1 97) mt_M_is ml_M_93 sm_M_is d_M_fits_101 rfl rfl (Nat.le_of_ble_eq_true rfl) ?_
      rintro _ _ ⟨rfl, rfl⟩
      refine jx_eq (st2 := [.inl (if y < 1 then 0 else if 97 < y then 0 else 1)]) rfl rfl rfl ?_
      refine jx_zret d_M_fits_104 rfl (by split <;> first | (right; rfl) | (left; rfl) | (split <;> first | (right; rfl) | (left; rfl))) ?_
      subst e_1; exact ⟨congrArg (fun z => some (Sum.inl z)) (tk_case (by decide) (by decide) (by decide)), rfl⟩
    · skip
      refine jx_of (fun _ _ kz => jw_tabIn 105 d_M_fits_1 (by rw [e_1]; decide) (by rw [e_1]; decide) (by rw [e_1]; rfl) (by decide) kz) ?_
      refine jx_of (fun _ _ kz => jw_iload_n 0 d_M_fits_105 rfl rfl kz) ?_
      refine jx_of (fun _ _ kz => jw_iconst 0 d_M_fits_106 (by decide) kz) ?_
      refine jx_of (fun _ _ kz => jw_bipush 15 d_M_fits_107 (by decide) kz) ?_
      refine jx_callS (x_M_is _ x 0 15) mt_M_is ml_M_93 sm_M_is d_M_fits_109 rfl rfl (Nat.le_of_ble_eq_true rfl) ?_
      rintro _ _ ⟨rfl, rfl⟩
      refine jx_eq (st2 := [.inl (if x < 0 then 0 else if 15 < x then 0 else 1)]) rfl rfl rfl ?_
      refine jx_zret d_M_fits_112 rfl (by split <;> first | (right; rfl) | (left; rfl) | (split <;> first | (right; rfl) | (left; rfl))) ?_
      subst e_1; exact ⟨congrArg (fun z => some (Sum.inl z)) (tk_any (by decide) (by decide) (by decide)), rfl⟩
    · skip
      refine jx_of (fun _ _ kz => jw_tabIn 105 d_M_fits_1 (by rw [e_1]; decide) (by rw [e_1]; decide) (by rw [e_1]; rfl) (by decide) kz) ?_
      refine jx_of (fun _ _ kz => jw_iload_n 0 d_M_fits_105 rfl rfl kz) ?_
      refine jx_of (fun _ _ kz => jw_iconst 0 d_M_fits_106 (by decide) kz) ?_
      refine jx_of (fun _ _ kz => jw_bipush 15 d_M_fits_107 (by decide) kz) ?_
      refine jx_callS (x_M_is _ x 0 15) mt_M_is ml_M_93 sm_M_is d_M_fits_109 rfl rfl (Nat.le_of_ble_eq_true rfl) ?_
      rintro _ _ ⟨rfl, rfl⟩
      refine jx_eq (st2 := [.inl (if x < 0 then 0 else if 15 < x then 0 else 1)]) rfl rfl rfl ?_
      refine jx_zret d_M_fits_112 rfl (by split <;> first | (right; rfl) | (left; rfl) | (split <;> first | (right; rfl) | (left; rfl))) ?_
      subst e_1; exact ⟨congrArg (fun z => some (Sum.inl z)) (tk_any (by decide) (by decide) (by decide)), rfl⟩
    · skip
      refine jx_of (fun _ _ kz => jw_tabIn 105 d_M_fits_1 (by rw [e_1]; decide) (by rw [e_1]; decide) (by rw [e_1]; rfl) (by decide) kz) ?_
      refine jx_of (fun _ _ kz => jw_iload_n 0 d_M_fits_105 rfl rfl kz) ?_
      refine jx_of (fun _ _ kz => jw_iconst 0 d_M_fits_106 (by decide) kz) ?_
      refine jx_of (fun _ _ kz => jw_bipush 15 d_M_fits_107 (by decide) kz) ?_
      refine jx_callS (x_M_is _ x 0 15) mt_M_is ml_M_93 sm_M_is d_M_fits_109 rfl rfl (Nat.le_of_ble_eq_true rfl) ?_
      rintro _ _ ⟨rfl, rfl⟩
      refine jx_eq (st2 := [.inl (if x < 0 then 0 else if 15 < x then 0 else 1)]) rfl rfl rfl ?_
      refine jx_zret d_M_fits_112 rfl (by split <;> first | (right; rfl) | (left; rfl) | (split <;> first | (right; rfl) | (left; rfl))) ?_
      subst e_1; exact ⟨congrArg (fun z => some (Sum.inl z)) (tk_any (by decide) (by decide) (by decide)), rfl⟩
    · skip
      refine jx_of (fun _ _ kz => jw_tabIn 75 d_M_fits_1 (by rw [e_1]; decide) (by rw [e_1]; decide) (by rw [e_1]; rfl) (by decide) kz) ?_
      refine jx_of (fun _ _ kz => jw_iload_n 1 d_M_fits_75 rfl rfl kz) ?_
      refine jx_of (fun _ _ kz => jw_iconst 1 d_M_fits_76 (by decide) kz) ?_
      refine jx_of (fun _ _ kz => jw_bipush 40 d_M_fits_77 (by decide) kz) ?_
      refine jx_callS (x_M_is _ y 1 40) mt_M_is ml_M_93 sm_M_is d_M_fits_79 rfl rfl (Nat.le_of_ble_eq_true rfl) ?_
      rintro _ _ ⟨rfl, rfl⟩
      refine jx_eq (st2 := [.inl (if y < 1 then 0 else if 40 < y then 0 else 1)]) rfl rfl rfl ?_
      refine jx_zret d_M_fits_82 rfl (by split <;> first | (right; rfl) | (left; rfl) | (split <;> first | (right; rfl) | (left; rfl))) ?_
      subst e_1; exact ⟨congrArg (fun z => some (Sum.inl z)) (tk_case (by decide) (by decide) (by decide)), rfl⟩
set_option maxRecDepth 20000 in
set_option maxHeartbeats 4000000 in
theorem x_M_token_t {G : Gt} {M : Me} (d : Nat) (x : Int32) (y : Int32) (hm : mfr M) (h1 : tkv x y = 1) : sx G yt_M_token yn_M_token (d + 3) [.inr (some (7, 0)), .inl x, .inl y] M (fun r M' => r = some (.inl 1) ∧ nC M M') := by
  refine sx_of (k := 0) (lc := [some (.inr (some (7, 0))), some (.inl x), some (.inl y)]) mt_M_token (Nat.le_of_ble_eq_true rfl) rfl ?_
  refine jx_of (fun _ _ kz => jw_iload_n 1 d_M_token_0 rfl rfl kz) ?_
  refine jx_of (fun _ _ kz => jw_iload_n 2 d_M_token_1 rfl rfl kz) ?_
  refine jx_callS (x_M_fits _ x y) mt_M_fits ml_M_97 sm_M_fits d_M_token_2 rfl rfl (Nat.le_of_ble_eq_true rfl) ?_
  rintro _ _ ⟨rfl, rfl⟩
  refine jx_eq (st2 := [.inl (if tkv x y = 1 then 1 else 0)]) rfl rfl rfl ?_
  rw [show (if tkv x y = 1 then 1 else 0 : Int32) = 1 from if_pos h1]
  refine jx_if_ne 10 d_M_token_5 (by decide) (fun _ => ?_) (fun h => absurd h (by decide))
  refine jx_of (fun _ _ kz => jw_aload_n 0 d_M_token_10 rfl rfl kz) ?_
  refine jx_of (fun _ _ kz => jw_getPe (some (32, 0)) fl_M_16 d_M_token_11 rfl rfl (by simp [me_I_sI, me_I_sP, me_I_nx, me_P_sI, me_P_sP, me_P_nx, me_N_sI, me_N_sP, me_N_nx, me_L_sI, me_L_sP, me_L_nx, show me_P M 7 0 2 = some (32, 0) from hm.1 (7, 0, 2, 32, 0) (by decide)]) kz) ?_
  refine jx_of (fun _ _ kz => jw_bipush 6 d_M_token_14 (by decide) kz) ?_
  refine jx_of (fun _ _ kz => jw_ialde (0) d_M_token_16 rfl rfl (by rw [show me_L _ 32 0 = 7 from (by simp [me_I_sI, me_I_sP, me_I_nx, me_P_sI, me_P_sP, me_P_nx, me_N_sI, me_N_sP, me_N_nx, me_L_sI, me_L_sP, me_L_nx, show me_L M 32 0 = 7 from hm.2.1 (32, 0, 7) (by decide)])]; unfold vp_in; decide) (by simp [me_I_sI, me_I_sP, me_I_nx, me_P_sI, me_P_sP, me_P_nx, me_N_sI, me_N_sP, me_N_nx, me_L_sI, me_L_sP, me_L_nx, show me_I M 32 0 6 = 0 from hm.2.2 (32, 0, 6, 0) (by decide)]) kz) ?_
  refine jx_of (fun _ _ kz => jw_bipush 12 d_M_token_17 (by decide) kz) ?_
  refine jx_icmp_ne 25 d_M_token_19 (by decide) (fun _ => ?_) (fun h => absurd h (by decide))
  refine jx_of (fun _ _ kz => jw_aload_n 0 d_M_token_25 rfl rfl kz) ?_
  refine jx_of (fun _ _ kz => jw_getPe (some (30, 0)) fl_M_7 d_M_token_26 rfl rfl (by simp [me_I_sI, me_I_sP, me_I_nx, me_P_sI, me_P_sP, me_P_nx, me_N_sI, me_N_sP, me_N_nx, me_L_sI, me_L_sP, me_L_nx, show me_P M 7 0 0 = some (30, 0) from hm.1 (7, 0, 0, 30, 0) (by decide)]) kz) ?_
  refine jx_of (fun _ _ kz => jw_bipush 72 d_M_token_29 (by decide) kz) ?_
  refine jx_of (fun _ _ kz => jw_aload_n 0 d_M_token_31 rfl rfl kz) ?_
  refine jx_of (fun _ _ kz => jw_getPe (some (32, 0)) fl_M_16 d_M_token_32 rfl rfl (by simp [me_I_sI, me_I_sP, me_I_nx, me_P_sI, me_P_sP, me_P_nx, me_N_sI, me_N_sP, me_N_nx, me_L_sI, me_L_sP, me_L_nx, show me_P M 7 0 2 = some (32, 0) from hm.1 (7, 0, 2, 32, 0) (by decide)]) kz) ?_
  refine jx_of (fun _ _ kz => jw_bipush 6 d_M_token_35 (by decide) kz) ?_
  refine jx_of (fun _ _ kz => jw_ialde (0) d_M_token_37 rfl rfl (by rw [show me_L _ 32 0 = 7 from (by simp [me_I_sI, me_I_sP, me_I_nx, me_P_sI, me_P_sP, me_P_nx, me_N_sI, me_N_sP, me_N_nx, me_L_sI, me_L_sP, me_L_nx, show me_L M 32 0 = 7 from hm.2.1 (32, 0, 7) (by decide)])]; unfold vp_in; decide) (by simp [me_I_sI, me_I_sP, me_I_nx, me_P_sI, me_P_sP, me_P_nx, me_N_sI, me_N_sP, me_N_nx, me_L_sI, me_L_sP, me_L_nx, show me_I M 32 0 6 = 0 from hm.2.2 (32, 0, 6, 0) (by decide)]) kz) ?_
  refine jx_of (fun _ _ kz => jw_iadd d_M_token_38 kz) ?_
  rw [show (72 + 0 : Int32) = 72 from by decide]
  refine jx_of (fun _ _ kz => jw_iload_n 1 d_M_token_39 rfl rfl kz) ?_
  refine jx_of (fun _ _ kz => jw_iast d_M_token_40 rfl rfl (by rw [show me_L _ 30 0 = 84 from (by simp [me_I_sI, me_I_sP, me_I_nx, me_P_sI, me_P_sP, me_P_nx, me_N_sI, me_N_sP, me_N_nx, me_L_sI, me_L_sP, me_L_nx, show me_L M 30 0 = 84 from hm.2.1 (30, 0, 84) (by decide)])]; unfold vp_in; decide) kz) ?_
  rw [show Int32.toNatClampNeg 72 = 72 from by decide]
  refine jx_of (fun _ _ kz => jw_aload_n 0 d_M_token_41 rfl rfl kz) ?_
  refine jx_of (fun _ _ kz => jw_getPe (some (31, 0)) fl_M_13 d_M_token_42 rfl rfl (by simp [me_I_sI, me_I_sP, me_I_nx, me_P_sI, me_P_sP, me_P_nx, me_N_sI, me_N_sP, me_N_nx, me_L_sI, me_L_sP, me_L_nx, show me_P M 7 0 1 = some (31, 0) from hm.1 (7, 0, 1, 31, 0) (by decide)]) kz) ?_
  refine jx_of (fun _ _ kz => jw_bipush 72 d_M_token_45 (by decide) kz) ?_
  refine jx_of (fun _ _ kz => jw_aload_n 0 d_M_token_47 rfl rfl kz) ?_
  refine jx_of (fun _ _ kz => jw_getPe (some (32, 0)) fl_M_16 d_M_token_48 rfl rfl (by simp [me_I_sI, me_I_sP, me_I_nx, me_P_sI, me_P_sP, me_P_nx, me_N_sI, me_N_sP, me_N_nx, me_L_sI, me_L_sP, me_L_nx, show me_P M 7 0 2 = some (32, 0) from hm.1 (7, 0, 2, 32, 0) (by decide)]) kz) ?_
  refine jx_of (fun _ _ kz => jw_bipush 6 d_M_token_51 (by decide) kz) ?_
  refine jx_of (fun _ _ kz => jw_ialde (0) d_M_token_53 rfl rfl (by rw [show me_L _ 32 0 = 7 from (by simp [me_I_sI, me_I_sP, me_I_nx, me_P_sI, me_P_sP, me_P_nx, me_N_sI, me_N_sP, me_N_nx, me_L_sI, me_L_sP, me_L_nx, show me_L M 32 0 = 7 from hm.2.1 (32, 0, 7) (by decide)])]; unfold vp_in; decide) (by simp [me_I_sI, me_I_sP, me_I_nx, me_P_sI, me_P_sP, me_P_nx, me_N_sI, me_N_sP, me_N_nx, me_L_sI, me_L_sP, me_L_nx, show me_I M 32 0 6 = 0 from hm.2.2 (32, 0, 6, 0) (by decide)]) kz) ?_
  refine jx_of (fun _ _ kz => jw_iadd d_M_token_54 kz) ?_
  rw [show (72 + 0 : Int32) = 72 from by decide]
  refine jx_of (fun _ _ kz => jw_iload_n 2 d_M_token_55 rfl rfl kz) ?_
  refine jx_of (fun _ _ kz => jw_iast d_M_token_56 rfl rfl (by rw [show me_L _ 31 0 = 84 from (by simp [me_I_sI, me_I_sP, me_I_nx, me_P_sI, me_P_sP, me_P_nx, me_N_sI, me_N_sP, me_N_nx, me_L_sI, me_L_sP, me_L_nx, show me_L M 31 0 = 84 from hm.2.1 (31, 0, 84) (by decide)])]; unfold vp_in; decide) kz) ?_
  rw [show Int32.toNatClampNeg 72 = 72 from by decide]
  refine jx_of (fun _ _ kz => jw_aload_n 0 d_M_token_57 rfl rfl kz) ?_
  refine jx_of (fun _ _ kz => jw_getPe (some (32, 0)) fl_M_16 d_M_token_58 rfl rfl (by simp [me_I_sI, me_I_sP, me_I_nx, me_P_sI, me_P_sP, me_P_nx, me_N_sI, me_N_sP, me_N_nx, me_L_sI, me_L_sP, me_L_nx, show me_P M 7 0 2 = some (32, 0) from hm.1 (7, 0, 2, 32, 0) (by decide)]) kz) ?_
  refine jx_of (fun _ _ kz => jw_bipush 6 d_M_token_61 (by decide) kz) ?_
  refine jx_of (fun _ _ kz => jw_dup2 d_M_token_63 kz) ?_
  refine jx_of (fun _ _ kz => jw_ialde (0) d_M_token_64 rfl rfl (by rw [show me_L _ 32 0 = 7 from (by simp [me_I_sI, me_I_sP, me_I_nx, me_P_sI, me_P_sP, me_P_nx, me_N_sI, me_N_sP, me_N_nx, me_L_sI, me_L_sP, me_L_nx, show me_L M 32 0 = 7 from hm.2.1 (32, 0, 7) (by decide)])]; unfold vp_in; decide) (by simp [me_I_sI, me_I_sP, me_I_nx, me_P_sI, me_P_sP, me_P_nx, me_N_sI, me_N_sP, me_N_nx, me_L_sI, me_L_sP, me_L_nx, show me_I M 32 0 6 = 0 from hm.2.2 (32, 0, 6, 0) (by decide)]) kz) ?_
  refine jx_of (fun _ _ kz => jw_iconst 1 d_M_token_65 (by decide) kz) ?_
  refine jx_of (fun _ _ kz => jw_iadd d_M_token_66 kz) ?_
  rw [show (0 + 1 : Int32) = 1 from by decide]
  refine jx_of (fun _ _ kz => jw_dup_x2 d_M_token_67 kz) ?_
  refine jx_of (fun _ _ kz => jw_iast d_M_token_68 rfl rfl (by rw [show me_L _ 32 0 = 7 from (by simp [me_I_sI, me_I_sP, me_I_nx, me_P_sI, me_P_sP, me_P_nx, me_N_sI, me_N_sP, me_N_nx, me_L_sI, me_L_sP, me_L_nx, show me_L M 32 0 = 7 from hm.2.1 (32, 0, 7) (by decide)])]; unfold vp_in; decide) kz) ?_
  rw [show Int32.toNatClampNeg 6 = 6 from by decide]
  refine jx_iret d_M_token_69 rfl ?_
  exact ⟨rfl, rfl, rfl⟩
set_option maxRecDepth 20000 in
set_option maxHeartbeats 4000000 in
theorem x_M_token_f {G : Gt} {M : Me} (d : Nat) (x : Int32) (y : Int32) (hm : mfr M) (h1 : ¬ tkv x y = 1) : sx G yt_M_token yn_M_token (d + 3) [.inr (some (7, 0)), .inl x, .inl y] M (fun r M' => r = some (.inl (-1)) ∧ nC M M') := by
  refine sx_of (k := 0) (lc := [some (.inr (some (7, 0))), some (.inl x), some (.inl y)]) mt_M_token (Nat.le_of_ble_eq_true rfl) rfl ?_
  refine jx_of (fun _ _ kz => jw_iload_n 1 d_M_token_0 rfl rfl kz) ?_
  refine jx_of (fun _ _ kz => jw_iload_n 2 d_M_token_1 rfl rfl kz) ?_
  refine jx_callS (x_M_fits _ x y) mt_M_fits ml_M_97 sm_M_fits d_M_token_2 rfl rfl (Nat.le_of_ble_eq_true rfl) ?_
  rintro _ _ ⟨rfl, rfl⟩
  refine jx_eq (st2 := [.inl (if tkv x y = 1 then 1 else 0)]) rfl rfl rfl ?_
  rw [show (if tkv x y = 1 then 1 else 0 : Int32) = 0 from if_neg h1]
  refine jx_if_ne 10 d_M_token_5 (by decide) (fun h => absurd h (by decide)) (fun _ => ?_)
  refine jx_of (fun _ _ kz => jw_iconst (-1) d_M_token_8 (by decide) kz) ?_
  refine jx_iret d_M_token_9 rfl ?_
  exact ⟨rfl, rfl, rfl⟩
