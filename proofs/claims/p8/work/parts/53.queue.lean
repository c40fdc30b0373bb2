def kp (s k : Nat) : Prop := ¬ (s = 33 ∨ s = 38 ∨ s = 39 ∨ s = 48 ∨ s = 51 ∨ s = 52 ∨ s = 53 ∨ (s = 7 ∧ k = 28))
def sq (M M' : Me) : Prop := me_P M' = me_P M ∧ me_L M' = me_L M ∧ me_N M' = me_N M ∧ me_C M' = me_C M ∧ me_S M' = me_S M
theorem sq_rf {M : Me} : sq M M := ⟨rfl, rfl, rfl, rfl, rfl⟩
theorem sq_tr {M M1 M2 : Me} (h : sq M M1) (h2 : sq M1 M2) : sq M M2 := ⟨h2.1.trans h.1, h2.2.1.trans h.2.1, h2.2.2.1.trans h.2.2.1, h2.2.2.2.1.trans h.2.2.2.1, h2.2.2.2.2.trans h.2.2.2.2⟩
theorem sq_sI {M M1 : Me} {s i k : Nat} {v : Int32} (h : sq M M1) : sq M (me_sI M1 s i k v) := h
def mc (M M' : Me) : Prop := sq M M' ∧ ∀ s i k, kp s k → me_I M' s i k = me_I M s i k
theorem mc_rf {M : Me} : mc M M := ⟨sq_rf, fun _ _ _ _ => rfl⟩
theorem mc_tr {M M1 M2 : Me} (h : mc M M1) (h2 : mc M1 M2) : mc M M2 := ⟨sq_tr h.1 h2.1, fun s i k q => (h2.2 s i k q).trans (h.2 s i k q)⟩
theorem mc_sI {M M1 : Me} {s i k : Nat} {v : Int32} (h : mc M M1) (hs : ¬ kp s k) : mc M (me_sI M1 s i k v) := by
  refine ⟨h.1, fun s' i' k' q => ?_⟩
  rw [me_I_sI, if_neg (fun e => hs (by rw [← e.1, ← e.2.2]; exact q))]
  exact h.2 s' i' k' q
theorem kp_no {s k : Nat} (h : s = 33 ∨ s = 38 ∨ s = 39 ∨ s = 48 ∨ s = 51 ∨ s = 52 ∨ s = 53) : ¬ kp s k := by
  intro q; unfold kp at q; omega
theorem mSh_mc {M M' : Me} (h : mSh M) (k : sq M M') : mSh M' := ⟨fun q hq => by rw [k.1]; exact h.1 q hq, fun q hq => by rw [k.2.1]; exact h.2 q hq⟩
theorem mP1_mc {M M' : Me} {p len : Nat} {o : Nat → Nat} (h : mP1 M p len o) (k : mc M M') : mP1 M' p len o := by
  refine ⟨h.1, ?_, fun j hj => ?_, h.2.2.2⟩
  · rw [k.2 32 0 p (by unfold kp; omega)]; exact h.2.1
  · obtain ⟨a, b, c⟩ := h.2.2.1 j hj
    refine ⟨a, ?_, ?_⟩
    · rw [k.2 30 0 _ (by unfold kp; omega)]; exact b
    · rw [k.2 31 0 _ (by unfold kp; omega)]; exact c
theorem mPr_mc {M M' : Me} {np : Nat} (h : mPr M np) (k : mc M M') : mPr M' np := by
  refine ⟨?_, h.2.1, fun p hp => ?_⟩
  · rw [k.2 7 0 3 (by unfold kp; omega)]; exact h.1
  · obtain ⟨len, o, h1⟩ := h.2.2 p hp
    exact ⟨len, o, mP1_mc h1 k⟩
theorem mTk_mc {M M' : Me} {np nt : Nat} (h : mTk M np nt) (k : mc M M') : mTk M' np nt := by
  refine ⟨?_, h.2.1, fun t ht => ?_⟩
  · rw [k.2 7 0 27 (by unfold kp; omega)]; exact h.1
  · obtain ⟨p, h1, h2⟩ := h.2.2 t ht
    exact ⟨p, h1, by rw [k.2 36 0 t (by unfold kp; omega)]; exact h2⟩
/-- pigeons -/
theorem pigeon : ∀ (n : Nat) (l : List Nat), (∀ a, l.count a ≤ 1) → (∀ a ∈ l, a < n) → l.length ≤ n := by
  intro n
  induction n with
  | zero =>
    intro l _ h
    cases l with
    | nil => exact Nat.le_refl _
    | cons a l => exact absurd (h a List.mem_cons_self) (Nat.not_lt_zero _)
  | succ n ih =>
    intro l hc hl
    have h1 := ih (l.filter (fun a => a != n)) (fun a => Nat.le_trans (List.Sublist.count_le a (List.filter_sublist)) (hc a)) (fun a ha => by
      rw [List.mem_filter] at ha
      have h2 := hl a ha.1
      have h3 : a ≠ n := by simpa using ha.2
      omega)
    have h2 := List.length_eq_countP_add_countP (p := fun a => a != n) (l := l)
    have h3 := hc n
    rw [List.countP_eq_length_filter] at h2
    have h4 : l.countP (fun a => decide ¬ ((a != n) = true)) = l.count n := by
      unfold List.count
      apply List.countP_congr
      intro a _
      simp
    rw [h4] at h2
    omega
def slv : Option Nat → Int32
  | none => -1
  | some t => nI t
def slc (o : Option Nat) (a : Nat) : Nat := o.toList.count a
theorem slc_n (a : Nat) : slc none a = 0 := rfl
theorem slc_s (t a : Nat) : slc (some t) a = if t = a then 1 else 0 := by
  unfold slc
  simp [List.count_cons]
/-- how often a stands in transit or in a queue -/
def qC (X inj : List Nat) (rg : Nat → List Nat) (sl : Nat → Option Nat) (a : Nat) : Nat := X.count a + (inj.count a + ((rg 0).count a + ((rg 1).count a + ((rg 2).count a + (slc (sl 0) a + (slc (sl 1) a + slc (sl 2) a))))))
def qX (M : Me) (nt : Nat) (inj : List Nat) (rg : Nat → List Nat) (sl : Nat → Option Nat) (X : List Nat) : Prop :=
  (me_I M 7 0 28 = nI inj.length ∧ ∀ k t, inj[k]? = some t → me_I M 53 0 k = nI t) ∧
  (∀ w, w < 3 → me_I M 52 0 w = nI (rg w).length ∧ (rg w).length ≤ 4 ∧ ∀ k t, (rg w)[k]? = some t → me_I M 51 0 (4 * w + k) = nI t) ∧
  (∀ w, w < 3 → me_I M 48 0 w = slv (sl w)) ∧
  ((∀ a, qC X inj rg sl a ≤ 1) ∧ (∀ a, 0 < qC X inj rg sl a → a < nt) ∧ nt ≤ 12) ∧
  ((∀ t ∈ inj, me_I M 38 0 t = 1) ∧ (∀ w, w < 3 → ∀ t, sl w = some t → me_I M 38 0 t = nI (2 + w)) ∧ (∀ w, w < 3 → ∀ t ∈ rg w, me_I M 38 0 t = nI (5 + w)) ∧ (∀ t, t < 12 → qC X inj rg sl t = 0 → me_I M 38 0 t = 0)) ∧
  (∀ t, t < nt → me_I M 33 0 t = 0 → qC X inj rg sl t = 0)
theorem cm {l : List Nat} {a : Nat} : a ∈ l ↔ 0 < l.count a := List.count_pos_iff.symm
theorem qX_len {M : Me} {nt : Nat} {inj : List Nat} {rg : Nat → List Nat} {sl : Nat → Option Nat} {X : List Nat} {t : Nat} (h : qX M nt inj rg sl (t :: X)) : inj.length < 12 := by
  have h4 := h.2.2.2.1
  have h1 := pigeon 12 (t :: inj) (fun a => by
    have := h4.1 a
    unfold qC at this
    rw [List.count_cons] at this ⊢
    omega) (fun a ha => by
    have h2 := h4.2.1 a (by
      unfold qC
      rw [cm, List.count_cons] at ha
      rw [List.count_cons]
      omega)
    have := h4.2.2
    omega)
  rw [List.length_cons] at h1
  omega
theorem gapp {l : List Nat} {t k a : Nat} (h : (l ++ [t])[k]? = some a) : l[k]? = some a ∨ (k = l.length ∧ a = t) := by
  rw [List.getElem?_append] at h
  split at h
  · exact Or.inl h
  · rename_i hk
    right
    have h1 : k - l.length = 0 := by
      rcases Nat.eq_zero_or_pos (k - l.length) with q | q
      · exact q
      · obtain ⟨m, hm⟩ : ∃ m, k - l.length = m + 1 := ⟨k - l.length - 1, by omega⟩
        rw [hm] at h
        simp at h
    rw [h1] at h
    simp at h
    exact ⟨by omega, h.symm⟩
