abbrev AV : Type := Int32 ⊕ Option (Nat × Nat)
abbrev Me : Type := (Nat → Nat → Nat → Int32) × (Nat → Nat → Nat → Option (Nat × Nat)) × (Nat → Nat → Nat) × (Nat → Nat) × Nat × Nat
abbrev Rh : Type := Nat → Nat → Nat
def me_I (M : Me) : Nat → Nat → Nat → Int32 := M.1
def me_P (M : Me) : Nat → Nat → Nat → Option (Nat × Nat) := M.2.1
def me_L (M : Me) : Nat → Nat → Nat := M.2.2.1
def me_N (M : Me) : Nat → Nat := M.2.2.2.1
def me_C (M : Me) : Nat := M.2.2.2.2.1
def me_S (M : Me) : Nat := M.2.2.2.2.2
def me_sI (M : Me) (s i k : Nat) (v : Int32) : Me := (fun a b c => if a = s ∧ b = i ∧ c = k then v else M.1 a b c, M.2)
def me_sP (M : Me) (s i k : Nat) (v : Option (Nat × Nat)) : Me := (M.1, fun a b c => if a = s ∧ b = i ∧ c = k then v else M.2.1 a b c, M.2.2)
def me_nw (M : Me) (s n sl : Nat) : Me := (fun a b c => if a = s ∧ b = me_N M s then 0 else M.1 a b c, fun a b c => if a = s ∧ b = me_N M s then none else M.2.1 a b c, fun a b => if a = s ∧ b = me_N M s then n else M.2.2.1 a b, fun a => if a = s then me_N M s + 1 else M.2.2.2.1 a, me_C M + 1, me_S M + sl)
def av_r (ρ : Rh) (o : Option (Nat × Nat)) : Option Nat := o.map (fun a => ρ a.1 a.2)
def av_tv (ρ : Rh) (v : AV) : Value := match v with
  | .inl x => .int x
  | .inr o => va_rf (av_r ρ o)
def av_okr (M : Me) (o : Option (Nat × Nat)) : Prop := ∀ a, o = some a → a.2 < me_N M a.1
def av_ok (M : Me) (v : AV) : Prop := ∀ a, v = .inr (some a) → a.2 < me_N M a.1
theorem av_ok_i {M : Me} {x : Int32} : av_ok M (.inl x) := fun _ h => by cases h
theorem av_ok_n {M : Me} : av_ok M (.inr none) := fun _ h => by cases h
theorem av_ok_r {M : Me} {o : Option (Nat × Nat)} (h : av_okr M o) : av_ok M (.inr o) := fun a e => h a (Sum.inr.inj e)
theorem av_cat (ρ : Rh) (v : AV) : (av_tv ρ v).category = 1 := by
  cases v with
  | inl x => rfl
  | inr o => cases o <;> rfl
theorem av_r_eq {ρ ρ' : Rh} {M : Me} {o : Option (Nat × Nat)} (h : av_okr M o) (he : ∀ a b, b < me_N M a → ρ' a b = ρ a b) : av_r ρ' o = av_r ρ o := by
  cases o with
  | none => rfl
  | some a => exact congrArg some (he _ _ (h a rfl))
theorem av_tv_eq {ρ ρ' : Rh} {M : Me} {v : AV} (h : av_ok M v) (he : ∀ a b, b < me_N M a → ρ' a b = ρ a b) : av_tv ρ' v = av_tv ρ v := by
  cases v with
  | inl x => rfl
  | inr o => exact congrArg va_rf (av_r_eq (M := M) (fun a e => h a (congrArg _ e)) he)
theorem av_map_eq {ρ ρ' : Rh} {M : Me} {st : List AV} (h : ∀ v ∈ st, av_ok M v) (he : ∀ a b, b < me_N M a → ρ' a b = ρ a b) : st.map (av_tv ρ') = st.map (av_tv ρ) :=
  List.map_congr_left fun v hv => av_tv_eq (h v hv) he
theorem av_ok_mono {M M' : Me} (hn : ∀ a, me_N M a ≤ me_N M' a) {v : AV} (h : av_ok M v) : av_ok M' v := fun a e => Nat.lt_of_lt_of_le (h a e) (hn _)
theorem av_okr_mono {M M' : Me} (hn : ∀ a, me_N M a ≤ me_N M' a) {o : Option (Nat × Nat)} (h : av_okr M o) : av_okr M' o := fun a e => Nat.lt_of_lt_of_le (h a e) (hn _)
theorem me_N_sI (M : Me) (s i k : Nat) (v : Int32) : me_N (me_sI M s i k v) = me_N M := rfl
theorem me_N_sP (M : Me) (s i k : Nat) (v : Option (Nat × Nat)) : me_N (me_sP M s i k v) = me_N M := rfl
theorem me_L_sI (M : Me) (s i k : Nat) (v : Int32) : me_L (me_sI M s i k v) = me_L M := rfl
theorem me_L_sP (M : Me) (s i k : Nat) (v : Option (Nat × Nat)) : me_L (me_sP M s i k v) = me_L M := rfl
theorem me_I_sP (M : Me) (s i k : Nat) (v : Option (Nat × Nat)) : me_I (me_sP M s i k v) = me_I M := rfl
theorem me_P_sI (M : Me) (s i k : Nat) (v : Int32) : me_P (me_sI M s i k v) = me_P M := rfl
theorem me_C_sI (M : Me) (s i k : Nat) (v : Int32) : me_C (me_sI M s i k v) = me_C M := rfl
theorem me_C_sP (M : Me) (s i k : Nat) (v : Option (Nat × Nat)) : me_C (me_sP M s i k v) = me_C M := rfl
theorem me_S_sI (M : Me) (s i k : Nat) (v : Int32) : me_S (me_sI M s i k v) = me_S M := rfl
theorem me_S_sP (M : Me) (s i k : Nat) (v : Option (Nat × Nat)) : me_S (me_sP M s i k v) = me_S M := rfl
theorem me_I_sI (M : Me) (s i k : Nat) (v : Int32) (a b c : Nat) : me_I (me_sI M s i k v) a b c = if a = s ∧ b = i ∧ c = k then v else me_I M a b c := rfl
theorem me_P_sP (M : Me) (s i k : Nat) (v : Option (Nat × Nat)) (a b c : Nat) : me_P (me_sP M s i k v) a b c = if a = s ∧ b = i ∧ c = k then v else me_P M a b c := rfl
theorem me_I_nw (M : Me) (s n sl a b c : Nat) : me_I (me_nw M s n sl) a b c = if a = s ∧ b = me_N M s then 0 else me_I M a b c := rfl
theorem me_P_nw (M : Me) (s n sl a b c : Nat) : me_P (me_nw M s n sl) a b c = if a = s ∧ b = me_N M s then none else me_P M a b c := rfl
theorem me_L_nw (M : Me) (s n sl a b : Nat) : me_L (me_nw M s n sl) a b = if a = s ∧ b = me_N M s then n else me_L M a b := rfl
theorem me_N_nw (M : Me) (s n sl a : Nat) : me_N (me_nw M s n sl) a = if a = s then me_N M s + 1 else me_N M a := rfl
theorem me_C_nw (M : Me) (s n sl : Nat) : me_C (me_nw M s n sl) = me_C M + 1 := rfl
theorem me_S_nw (M : Me) (s n sl : Nat) : me_S (me_nw M s n sl) = me_S M + sl := rfl
theorem me_N_le_nw (M : Me) (s n sl a : Nat) : me_N M a ≤ me_N (me_nw M s n sl) a := by
  rw [me_N_nw]; split
  · rename_i h; subst h; omega
  · exact Nat.le_refl _
def me_fl (ρ : Rh) (M : Me) (ci s i : Nat) : List Value := (List.range (nf ci)).map (fun k => if fk ci k = true then va_rf (av_r ρ (me_P M s i k)) else .int (me_I M s i k))
def me_ce (cA : Nat → ClassId) (ρ : Rh) (M : Me) (q : Nat × Nat) : va_E := match sk q.1 with
  | .inl ci => .inr (ci, me_fl ρ M ci q.1 q.2)
  | .inr (.object _) => .inl (cA q.1, me_L M q.1 q.2, .inr (.inr (.inr (.inr (fun k => av_r ρ (me_P M q.1 q.2 k))))))
  | .inr _ => .inl (cA q.1, me_L M q.1 q.2, .inl (me_I M q.1 q.2))
def me_wl (cA : Nat → ClassId) (ρ : Rh) (M : Me) (ord : List (Nat × Nat)) : va_W := ord.map (fun q => (ρ q.1 q.2, me_ce cA ρ M q))
abbrev Gt : Type := Nat × va_G × (Nat → ClassId) × List (ClassId × FieldType) × (Nat → Nat) × Nat × (Nat → Int32)
def me_rl (G : Gt) (ρ : Rh) (M : Me) (H : Heap) : Prop := ∃ ord : List (Nat × Nat), ord.Nodup ∧ (∀ q, q ∈ ord ↔ (q.2 < me_N M q.1 ∧ st_is q.1 = false)) ∧ va_P G.2.1 vwCl (me_wl G.2.2.1 ρ M ord) H ∧ va_D (fun q => G.1 ≤ q) (me_wl G.2.2.1 ρ M ord) ∧ (∀ s i k, i < me_N M s → av_okr M (me_P M s i k)) ∧ (∀ s, st_is s = true → me_N M s = 1 ∧ ρ s 0 = G.2.2.2.2.1 s)
theorem me_at {cA : Nat → ClassId} {ρ : Rh} {M : Me} {ord : List (Nat × Nat)} {q : Nat × Nat} (hq : q ∈ ord) : ∃ n : Nat, ord[n]? = some q ∧ (me_wl cA ρ M ord)[n]? = some (ρ q.1 q.2, me_ce cA ρ M q) := by
  obtain ⟨n, hn⟩ := List.getElem?_of_mem hq
  exact ⟨n, hn, by rw [me_wl, List.getElem?_map, hn]; rfl⟩
theorem me_inj {ord : List (Nat × Nat)} (hnd : ord.Nodup) {i j : Nat} {q : Nat × Nat} (hi : ord[i]? = some q) (hj : ord[j]? = some q) : i = j := by
  have h1 := (List.getElem?_eq_some_iff.mp hi).1
  exact (List.getElem?_inj h1 hnd).mp (hi.trans hj.symm)
theorem me_wl_set {cA : Nat → ClassId} {ρ : Rh} {M M' : Me} {ord : List (Nat × Nat)} {n : Nat} {q : Nat × Nat} (hnd : ord.Nodup) (hq : ord[n]? = some q) (ho : ∀ q', q' ∈ ord → q' ≠ q → me_ce cA ρ M' q' = me_ce cA ρ M q') :
    (me_wl cA ρ M ord).set n (ρ q.1 q.2, me_ce cA ρ M' q) = me_wl cA ρ M' ord := by
  apply List.ext_getElem?
  intro j
  rw [List.getElem?_set]
  by_cases hj : n = j
  · subst hj
    have hl : n < (me_wl cA ρ M ord).length := by rw [me_wl, List.length_map]; exact (List.getElem?_eq_some_iff.mp hq).1
    rw [if_pos rfl, if_pos hl]
    rw [me_wl, List.getElem?_map, hq]; rfl
  · rw [if_neg hj]
    simp only [me_wl, List.getElem?_map]
    cases h : ord[j]? with
    | none => rfl
    | some q' =>
      have hne : q' ≠ q := fun e => hj (me_inj hnd hq (e ▸ h))
      simp only [Option.map_some, ho q' (List.mem_of_getElem? h) hne]
theorem me_fl_get {ρ : Rh} {M : Me} {ci s i k : Nat} (hk : k < nf ci) : (me_fl ρ M ci s i)[k]? = some (if fk ci k = true then va_rf (av_r ρ (me_P M s i k)) else .int (me_I M s i k)) := by
  simp [me_fl, hk]
theorem me_fl_len {ρ : Rh} {M : Me} {ci s i : Nat} : (me_fl ρ M ci s i).length = nf ci := by simp [me_fl]
theorem me_fl_setI {ρ : Rh} {M : Me} {ci s i k : Nat} (hf : fk ci k = false) (v : Int32) : (me_fl ρ M ci s i).set k (.int v) = me_fl ρ (me_sI M s i k v) ci s i := by
  apply List.ext_getElem?
  intro j
  rw [List.getElem?_set]
  by_cases hj : j < nf ci
  · by_cases hkj : k = j
    · subst hkj
      rw [if_pos rfl, me_fl_len, if_pos hj, me_fl_get hj, hf]
      simp [me_I_sI]
    · rw [if_neg hkj, me_fl_get hj, me_fl_get hj, me_P_sI, me_I_sI, if_neg (c := s = s ∧ i = i ∧ j = k) (fun h => hkj h.2.2.symm)]
  · have h1 : (me_fl ρ M ci s i)[j]? = none := List.getElem?_eq_none (by rw [me_fl_len]; omega)
    have h2 : (me_fl ρ (me_sI M s i k v) ci s i)[j]? = none := List.getElem?_eq_none (by rw [me_fl_len]; omega)
    rw [h1, h2, me_fl_len]
    split
    · rw [if_neg (by omega)]
    · rfl
theorem me_fl_setP {ρ : Rh} {M : Me} {ci s i k : Nat} (hf : fk ci k = true) (v : Option (Nat × Nat)) : (me_fl ρ M ci s i).set k (va_rf (av_r ρ v)) = me_fl ρ (me_sP M s i k v) ci s i := by
  apply List.ext_getElem?
  intro j
  rw [List.getElem?_set]
  by_cases hj : j < nf ci
  · by_cases hkj : k = j
    · subst hkj
      rw [if_pos rfl, me_fl_len, if_pos hj, me_fl_get hj, hf]
      simp [me_P_sP]
    · rw [if_neg hkj, me_fl_get hj, me_fl_get hj, me_I_sP, me_P_sP, if_neg (c := s = s ∧ i = i ∧ j = k) (fun h => hkj h.2.2.symm)]
  · have h1 : (me_fl ρ M ci s i)[j]? = none := List.getElem?_eq_none (by rw [me_fl_len]; omega)
    have h2 : (me_fl ρ (me_sP M s i k v) ci s i)[j]? = none := List.getElem?_eq_none (by rw [me_fl_len]; omega)
    rw [h1, h2, me_fl_len]
    split
    · rw [if_neg (by omega)]
    · rfl
theorem me_fl_off {ρ : Rh} {M M' : Me} {ci s i : Nat} (hI : ∀ k, me_I M' s i k = me_I M s i k) (hP : ∀ k, me_P M' s i k = me_P M s i k) : me_fl ρ M' ci s i = me_fl ρ M ci s i := by
  unfold me_fl
  apply List.map_congr_left
  intro k _
  rw [hI, hP]
theorem me_ce_off {cA : Nat → ClassId} {ρ : Rh} {M M' : Me} {q : Nat × Nat} (hI : ∀ k, me_I M' q.1 q.2 k = me_I M q.1 q.2 k) (hP : ∀ k, me_P M' q.1 q.2 k = me_P M q.1 q.2 k) (hL : me_L M' q.1 q.2 = me_L M q.1 q.2) : me_ce cA ρ M' q = me_ce cA ρ M q := by
  have hI' : me_I M' q.1 q.2 = me_I M q.1 q.2 := funext hI
  unfold me_ce
  cases sk q.1 with
  | inl ci => simp only [me_fl_off hI hP]
  | inr o => cases o <;> simp only [hI', hL, hP]
theorem me_ne {s i : Nat} {q : Nat × Nat} (h : q ≠ (s, i)) : ¬ (q.1 = s ∧ q.2 = i) := fun e => h (Prod.ext e.1 e.2)
/-- a new world behind a write of an int -/
theorem me_putI {G : Gt} {ρ : Rh} {M : Me} {H1 : Heap} {ord : List (Nat × Nat)} {n s i k : Nat} {v : Int32} (hnd : ord.Nodup) (hmem : ∀ q, q ∈ ord ↔ (q.2 < me_N M q.1 ∧ st_is q.1 = false)) (hok : ∀ s i k, i < me_N M s → av_okr M (me_P M s i k)) (hst : ∀ s, st_is s = true → me_N M s = 1 ∧ ρ s 0 = G.2.2.2.2.1 s) (hn : ord[n]? = some (s, i))
    {e' : va_E} (he : me_ce G.2.2.1 ρ (me_sI M s i k v) (s, i) = e') (hP : va_P G.2.1 vwCl ((me_wl G.2.2.1 ρ M ord).set n (ρ s i, e')) H1) (hD : va_D (fun q => G.1 ≤ q) ((me_wl G.2.2.1 ρ M ord).set n (ρ s i, e'))) : me_rl G ρ (me_sI M s i k v) H1 := by
  subst he
  have hw := me_wl_set (cA := G.2.2.1) (ρ := ρ) (M := M) (M' := me_sI M s i k v) hnd hn (fun q' _ hne => me_ce_off (fun k' => by rw [me_I_sI, if_neg (fun h => me_ne hne ⟨h.1, h.2.1⟩)]) (fun _ => rfl) rfl)
  rw [hw] at hP hD
  exact ⟨ord, hnd, hmem, hP, hD, hok, hst⟩
theorem me_putP {G : Gt} {ρ : Rh} {M : Me} {H1 : Heap} {ord : List (Nat × Nat)} {n s i k : Nat} {v : Option (Nat × Nat)} (hv : av_okr M v) (hnd : ord.Nodup) (hmem : ∀ q, q ∈ ord ↔ (q.2 < me_N M q.1 ∧ st_is q.1 = false)) (hok : ∀ s i k, i < me_N M s → av_okr M (me_P M s i k)) (hst : ∀ s, st_is s = true → me_N M s = 1 ∧ ρ s 0 = G.2.2.2.2.1 s) (hn : ord[n]? = some (s, i))
    {e' : va_E} (he : me_ce G.2.2.1 ρ (me_sP M s i k v) (s, i) = e') (hP : va_P G.2.1 vwCl ((me_wl G.2.2.1 ρ M ord).set n (ρ s i, e')) H1) (hD : va_D (fun q => G.1 ≤ q) ((me_wl G.2.2.1 ρ M ord).set n (ρ s i, e'))) : me_rl G ρ (me_sP M s i k v) H1 := by
  subst he
  have hw := me_wl_set (cA := G.2.2.1) (ρ := ρ) (M := M) (M' := me_sP M s i k v) hnd hn (fun q' _ hne => me_ce_off (fun _ => rfl) (fun k' => by rw [me_P_sP, if_neg (fun h => me_ne hne ⟨h.1, h.2.1⟩)]) rfl)
  rw [hw] at hP hD
  refine ⟨ord, hnd, hmem, hP, hD, ?_, hst⟩
  intro a b c hb
  show av_okr M (me_P (me_sP M s i k v) a b c)
  rw [me_P_sP]
  split
  · exact hv
  · exact hok a b c hb
def rh_up (ρ : Rh) (s i a : Nat) : Rh := fun s' i' => if s' = s ∧ i' = i then a else ρ s' i'
theorem rh_up_eq {ρ : Rh} {M : Me} {s a : Nat} : ∀ a' b, b < me_N M a' → rh_up ρ s (me_N M s) a a' b = ρ a' b := by
  intro a' b hb
  unfold rh_up
  rw [if_neg]
  rintro ⟨rfl, rfl⟩
  exact Nat.lt_irrefl _ hb
/-- a new world behind a making -/
theorem me_new {G : Gt} {ρ : Rh} {M : Me} {H1 : Heap} {ord : List (Nat × Nat)} {s len sl a : Nat} (hs : st_is s = false) (hnd : ord.Nodup) (hmem : ∀ q, q ∈ ord ↔ (q.2 < me_N M q.1 ∧ st_is q.1 = false)) (hok : ∀ s i k, i < me_N M s → av_okr M (me_P M s i k)) (hst : ∀ s, st_is s = true → me_N M s = 1 ∧ ρ s 0 = G.2.2.2.2.1 s)
    {e' : va_E} (he : me_ce G.2.2.1 (rh_up ρ s (me_N M s) a) (me_nw M s len sl) (s, me_N M s) = e') (hP : va_P G.2.1 vwCl (me_wl G.2.2.1 ρ M ord ++ [(a, e')]) H1) (hD : va_D (fun q => G.1 ≤ q) (me_wl G.2.2.1 ρ M ord ++ [(a, e')])) : me_rl G (rh_up ρ s (me_N M s) a) (me_nw M s len sl) H1 := by
  subst he
  have hnot : (s, me_N M s) ∉ ord := fun h => Nat.lt_irrefl _ ((hmem _).mp h).1
  have hw : me_wl G.2.2.1 ρ M ord ++ [(a, me_ce G.2.2.1 (rh_up ρ s (me_N M s) a) (me_nw M s len sl) (s, me_N M s))] = me_wl G.2.2.1 (rh_up ρ s (me_N M s) a) (me_nw M s len sl) (ord ++ [(s, me_N M s)]) := by
    unfold me_wl
    rw [List.map_append]
    congr 1
    · apply List.map_congr_left
      intro q hq
      have hlt := ((hmem q).mp hq).1
      have hne : ¬ (q.1 = s ∧ q.2 = me_N M s) := fun h => by rw [h.1, h.2] at hlt; exact Nat.lt_irrefl _ hlt
      have h1 : rh_up ρ s (me_N M s) a q.1 q.2 = ρ q.1 q.2 := rh_up_eq _ _ hlt
      have h2 : me_ce G.2.2.1 (rh_up ρ s (me_N M s) a) (me_nw M s len sl) q = me_ce G.2.2.1 ρ M q := by
        rw [me_ce_off (M := M) (fun k => by rw [me_I_nw, if_neg hne]) (fun k => by rw [me_P_nw, if_neg hne]) (by rw [me_L_nw, if_neg hne])]
        have hr : ∀ k, av_r (rh_up ρ s (me_N M s) a) (me_P M q.1 q.2 k) = av_r ρ (me_P M q.1 q.2 k) := fun k => av_r_eq (hok _ _ k hlt) rh_up_eq
        unfold me_ce
        cases sk q.1 with
        | inl ci => simp only [me_fl, hr]
        | inr o => cases o <;> simp only [hr]
      rw [h1, h2]
    · simp [rh_up]
  rw [hw] at hP hD
  refine ⟨_, ?_, ?_, hP, hD, ?_, ?_⟩
  · rw [List.nodup_append]
    refine ⟨hnd, by simp, ?_⟩
    intro x hx y hy e
    rw [List.mem_singleton] at hy
    subst hy; subst e
    exact hnot hx
  · intro q
    rw [List.mem_append, List.mem_singleton, hmem, me_N_nw]
    constructor
    · rintro (⟨h1, h2⟩ | rfl)
      · refine ⟨?_, h2⟩
        split
        · rename_i h; rw [h] at h1; omega
        · exact h1
      · exact ⟨by simp, hs⟩
    · rintro ⟨h1, h2⟩
      by_cases h : q.1 = s
      · rw [if_pos h] at h1
        by_cases h3 : q.2 = me_N M s
        · exact Or.inr (Prod.ext h h3)
        · exact Or.inl ⟨by rw [h]; omega, h2⟩
      · rw [if_neg h] at h1
        exact Or.inl ⟨h1, h2⟩
  · intro s' i' k' hi
    rw [me_P_nw]
    split
    · intro x hx; cases hx
    · rename_i hne
      refine av_okr_mono (me_N_le_nw M s len sl) (hok s' i' k' ?_)
      rw [me_N_nw] at hi
      split at hi
      · rename_i h; subst h
        have : i' ≠ me_N M s' := fun e => hne ⟨rfl, e⟩
        omega
      · exact hi
  · intro s' h'
    have hne : s' ≠ s := fun e => by rw [e, hs] at h'; cases h'
    obtain ⟨h1, h2⟩ := hst s' h'
    refine ⟨by rw [me_N_nw, if_neg hne]; exact h1, ?_⟩
    unfold rh_up
    rw [if_neg (fun e => hne e.1)]
    exact h2
