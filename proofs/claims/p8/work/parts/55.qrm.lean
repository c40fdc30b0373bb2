def shf (s b lo hi : Nat) (M M' : Me) : Prop := sq M M' ∧ (∀ s' i j, (s' ≠ s ∨ i ≠ 0) → me_I M' s' i j = me_I M s' i j) ∧ ∀ j, me_I M' s 0 j = if b + lo ≤ j ∧ j < b + hi then me_I M s 0 (j + 1) else me_I M s 0 j
theorem shf_rf {s b lo : Nat} {M : Me} : shf s b lo lo M M := ⟨sq_rf, fun _ _ _ _ => rfl, fun j => by rw [if_neg (by omega)]⟩
theorem shf_st {s b lo k : Nat} {M M1 : Me} (h : shf s b lo k M M1) (hk : lo ≤ k) : shf s b lo (k + 1) M (me_sI M1 s 0 (b + k) (me_I M1 s 0 (b + k + 1))) := by
  refine ⟨h.1, fun s' i j q => ?_, fun j => ?_⟩
  · rw [me_I_sI, if_neg (fun e => by rcases q with q | q; exact q e.1; exact q e.2.1)]
    exact h.2.1 s' i j q
  · rw [me_I_sI]
    by_cases q : j = b + k
    · rw [if_pos ⟨rfl, rfl, q⟩, if_pos ⟨by omega, by omega⟩, h.2.2, if_neg (by omega), q]
    · rw [if_neg (fun e => q e.2.2), h.2.2]
      by_cases q2 : b + lo ≤ j ∧ j < b + k
      · rw [if_pos q2, if_pos ⟨q2.1, by omega⟩]
      · rw [if_neg q2, if_neg (fun e => q2 ⟨e.1, by omega⟩)]
theorem shf_o {s b lo hi : Nat} {M M' : Me} (h : shf s b lo hi M M') {s' j : Nat} (hs : s' ≠ s) : me_I M' s' 0 j = me_I M s' 0 j := h.2.1 s' 0 j (Or.inl hs)
theorem cnt_er : ∀ (l : List Nat) (i a x : Nat), l[i]? = some a → l.count x = (l.eraseIdx i).count x + if a = x then 1 else 0 := by
  intro l
  induction l with
  | nil => intro i a x h; simp at h
  | cons c l ih =>
    intro i a x h
    cases i with
    | zero =>
      simp at h; subst h
      rw [List.eraseIdx_zero, List.tail_cons, List.count_cons]
      by_cases q : c = x <;> simp [q]
    | succ i =>
      have h1 := ih i a x (by simpa using h)
      rw [List.eraseIdx_cons_succ, List.count_cons, List.count_cons, h1]; omega
theorem er_len {l : List Nat} {i a : Nat} (h : l[i]? = some a) : (l.eraseIdx i).length = l.length - 1 := by
  rw [List.length_eraseIdx, if_pos (List.getElem?_eq_some_iff.mp h).1]
theorem er_get {l : List Nat} {i k a : Nat} (h : (l.eraseIdx i)[k]? = some a) : (k < i ∧ l[k]? = some a) ∨ (i ≤ k ∧ l[k + 1]? = some a) := by
  rw [List.getElem?_eraseIdx] at h
  split at h
  · rename_i q; exact Or.inl ⟨q, h⟩
  · rename_i q; exact Or.inr ⟨by omega, h⟩
theorem er_mem {l : List Nat} {i x : Nat} (h : x ∈ l.eraseIdx i) : x ∈ l := List.mem_of_mem_eraseIdx h
theorem qX_rmr {M M' : Me} {nt : Nat} {inj : List Nat} {rg : Nat → List Nat} {sl : Nat → Option Nat} {X : List Nat} {a w i : Nat} (h : qX M nt inj rg sl X) (hw : w < 3) (hi : (rg w)[i]? = some a) (hs : shf 51 (4 * w) i ((rg w).length - 1) (me_sI M 52 0 w (nI ((rg w).length - 1))) M') : qX M' nt inj (rgu rg w ((rg w).eraseIdx i)) sl (a :: X) := by
  obtain ⟨⟨a1, a2⟩, b, c, ⟨e1, e2, e3⟩, ⟨f1, f2, f3, f0⟩, g⟩ := h
  have hil := (List.getElem?_eq_some_iff.mp hi).1
  have hc : ∀ x, qC (a :: X) inj (rgu rg w ((rg w).eraseIdx i)) sl x = qC X inj rg sl x := fun x => by
    have h1 := qC_rg (X := X) (inj := inj) (rg := rg) (sl := sl) hw ((rg w).eraseIdx i) x
    have h2 := cnt_er (rg w) i a x hi
    rw [qC_x]; omega
  have o : ∀ s' j, s' ≠ 51 → s' ≠ 52 → me_I M' s' 0 j = me_I M s' 0 j := fun s' j q1 q2 => by
    rw [shf_o hs q1, me_I_sI, if_neg (fun e => q2 e.1)]
  have o52 : ∀ j, me_I M' 52 0 j = if j = w then nI ((rg w).length - 1) else me_I M 52 0 j := fun j => by
    rw [shf_o hs (by decide), me_I_sI]; simp
  have o51 : ∀ j, me_I M' 51 0 j = if 4 * w + i ≤ j ∧ j < 4 * w + ((rg w).length - 1) then me_I M 51 0 (j + 1) else me_I M 51 0 j := fun j => by
    rw [hs.2.2]; simp [me_I_sI]
  refine ⟨⟨by rw [o 7 28 (by decide) (by decide)]; exact a1, fun k x hk => by rw [o 53 k (by decide) (by decide)]; exact a2 k x hk⟩, fun v hv => ?_, fun v hv => by rw [o 48 v (by decide) (by decide)]; exact c v hv, ⟨fun x => by rw [hc]; exact e1 x, fun x hx => e2 x (by rw [hc] at hx; exact hx), e3⟩, ⟨fun s hs' => by rw [o 38 s (by decide) (by decide)]; exact f1 s hs', fun v hv s hs' => by rw [o 38 s (by decide) (by decide)]; exact f2 v hv s hs', fun v hv s hs' => ?_, fun s hs' h9 => by rw [o 38 s (by decide) (by decide)]; exact f0 s hs' (by rw [hc] at h9; exact h9)⟩, fun s hs' h9 => by rw [hc]; exact g s hs' (by rw [o 33 s (by decide) (by decide)] at h9; exact h9)⟩
  · obtain ⟨b1, b2, b3⟩ := b v hv
    by_cases q : v = w
    · subst q
      have e : rgu rg v ((rg v).eraseIdx i) v = (rg v).eraseIdx i := by simp [rgu]
      rw [e, er_len hi]
      refine ⟨by rw [o52, if_pos rfl], by omega, fun k x hk => ?_⟩
      rw [o51]
      rcases er_get hk with ⟨q1, q2⟩ | ⟨q1, q2⟩
      · rw [if_neg (by omega)]; exact b3 k x q2
      · have q3 := (List.getElem?_eq_some_iff.mp q2).1
        rw [if_pos ⟨by omega, by omega⟩]
        exact b3 (k + 1) x q2
    · have e : rgu rg w ((rg w).eraseIdx i) v = rg v := by simp [rgu, q]
      rw [e]
      refine ⟨by rw [o52, if_neg q]; exact b1, b2, fun k x hk => ?_⟩
      have hk2 := (List.getElem?_eq_some_iff.mp hk).1
      have b4 := (b w hw).2.1
      rw [o51, if_neg (by omega)]
      exact b3 k x hk
  · rw [o 38 s (by decide) (by decide)]
    by_cases q : v = w
    · subst q
      exact f3 v hv s (er_mem (by simpa [rgu] using hs'))
    · exact f3 v hv s (by simpa [rgu, q] using hs')
theorem qX_rmi {M M' : Me} {nt : Nat} {inj : List Nat} {rg : Nat → List Nat} {sl : Nat → Option Nat} {X : List Nat} {a i : Nat} (h : qX M nt inj rg sl X) (hi : inj[i]? = some a) (hs : shf 53 0 i (inj.length - 1) (me_sI M 7 0 28 (nI (inj.length - 1))) M') : qX M' nt (inj.eraseIdx i) rg sl (a :: X) := by
  obtain ⟨⟨a1, a2⟩, b, c, ⟨e1, e2, e3⟩, ⟨f1, f2, f3, f0⟩, g⟩ := h
  have hil := (List.getElem?_eq_some_iff.mp hi).1
  have hc : ∀ x, qC (a :: X) (inj.eraseIdx i) rg sl x = qC X inj rg sl x := fun x => by
    have h2 := cnt_er inj i a x hi
    rw [qC_x]; unfold qC; omega
  have o : ∀ s' j, s' ≠ 53 → s' ≠ 7 → me_I M' s' 0 j = me_I M s' 0 j := fun s' j q1 q2 => by
    rw [shf_o hs q1, me_I_sI, if_neg (fun e => q2 e.1)]
  have o53 : ∀ j, me_I M' 53 0 j = if i ≤ j ∧ j < inj.length - 1 then me_I M 53 0 (j + 1) else me_I M 53 0 j := fun j => by
    rw [hs.2.2]; simp [me_I_sI]
  refine ⟨⟨?_, fun k x hk => ?_⟩, fun v hv => ?_, fun v hv => by rw [o 48 v (by decide) (by decide)]; exact c v hv, ⟨fun x => by rw [hc]; exact e1 x, fun x hx => e2 x (by rw [hc] at hx; exact hx), e3⟩, ⟨fun s hs' => by rw [o 38 s (by decide) (by decide)]; exact f1 s (er_mem hs'), fun v hv s hs' => by rw [o 38 s (by decide) (by decide)]; exact f2 v hv s hs', fun v hv s hs' => by rw [o 38 s (by decide) (by decide)]; exact f3 v hv s hs', fun s hs' h9 => by rw [o 38 s (by decide) (by decide)]; exact f0 s hs' (by rw [hc] at h9; exact h9)⟩, fun s hs' h9 => by rw [hc]; exact g s hs' (by rw [o 33 s (by decide) (by decide)] at h9; exact h9)⟩
  · rw [shf_o hs (by decide), me_I_sI, if_pos ⟨rfl, rfl, rfl⟩, er_len hi]
  · rw [o53]
    rcases er_get hk with ⟨q1, q2⟩ | ⟨q1, q2⟩
    · rw [if_neg (by omega)]; exact a2 k x q2
    · have q3 := (List.getElem?_eq_some_iff.mp q2).1
      rw [if_pos ⟨by omega, by omega⟩]
      exact a2 (k + 1) x q2
  · obtain ⟨b1, b2, b3⟩ := b v hv
    exact ⟨by rw [o 52 v (by decide) (by decide)]; exact b1, b2, fun k x hk => by rw [o 51 _ (by decide) (by decide)]; exact b3 k x hk⟩
/-- t leaves the transit, its place is 0 -/
theorem qX_zero {M : Me} {nt : Nat} {inj : List Nat} {rg : Nat → List Nat} {sl : Nat → Option Nat} {X : List Nat} {t : Nat} (h : qX M nt inj rg sl (t :: X)) (hz : me_I M 38 0 t = 0) : qX M nt inj rg sl X := by
  obtain ⟨h0, h0'⟩ := qX_out h
  obtain ⟨a, b, c, ⟨e1, e2, e3⟩, ⟨f1, f2, f3, f0⟩, g⟩ := h
  refine ⟨a, b, c, ⟨fun x => ?_, fun x hx => e2 x (by rw [qC_x]; omega), e3⟩, ⟨f1, f2, f3, fun s hs h9 => ?_⟩, fun s hs h9 => ?_⟩
  · have := e1 x; rw [qC_x] at this; omega
  · by_cases q : t = s
    · rw [← q]; exact hz
    · exact f0 s hs (by rw [qC_x, if_neg q, h9])
  · have := g s hs h9; rw [qC_x] at this; omega
/-- a change of a cell that no queue looks at -/
theorem qX_any {M : Me} {nt : Nat} {inj : List Nat} {rg : Nat → List Nat} {sl : Nat → Option Nat} {X : List Nat} {s k : Nat} {v : Int32} (h : qX M nt inj rg sl X) (hs : s ≠ 33 ∧ s ≠ 38 ∧ s ≠ 48 ∧ s ≠ 51 ∧ s ≠ 52 ∧ s ≠ 53 ∧ ¬ (s = 7 ∧ k = 28)) : qX (me_sI M s 0 k v) nt inj rg sl X := by
  obtain ⟨⟨a1, a2⟩, b, c, e, ⟨f1, f2, f3, f0⟩, g⟩ := h
  have o : ∀ s' j, s' ≠ s ∨ j ≠ k → me_I (me_sI M s 0 k v) s' 0 j = me_I M s' 0 j := fun s' j q => by
    rw [me_I_sI, if_neg (fun e => by rcases q with q | q; exact q e.1; exact q e.2.2)]
  refine ⟨⟨by rw [o 7 28 (by omega)]; exact a1, fun k x hk => by rw [o 53 k (by omega)]; exact a2 k x hk⟩, fun w hw => ?_, fun w hw => by rw [o 48 w (by omega)]; exact c w hw, e, ⟨fun x hx => by rw [o 38 x (by omega)]; exact f1 x hx, fun w hw x hx => by rw [o 38 x (by omega)]; exact f2 w hw x hx, fun w hw x hx => by rw [o 38 x (by omega)]; exact f3 w hw x hx, fun x hx h9 => by rw [o 38 x (by omega)]; exact f0 x hx h9⟩, fun x hx h9 => g x hx (by rw [o 33 x (by omega)] at h9; exact h9)⟩
  obtain ⟨b1, b2, b3⟩ := b w hw
  exact ⟨by rw [o 52 w (by omega)]; exact b1, b2, fun k x hk => by rw [o 51 _ (by omega)]; exact b3 k x hk⟩
/-- the state of t becomes v, not IDLE, or t is nowhere -/
theorem qX_state {M : Me} {nt : Nat} {inj : List Nat} {rg : Nat → List Nat} {sl : Nat → Option Nat} {X : List Nat} {t : Nat} {v : Int32} (h : qX M nt inj rg sl X) (hv : v ≠ 0 ∨ qC X inj rg sl t = 0) : qX (me_sI M 33 0 t v) nt inj rg sl X := by
  obtain ⟨⟨a1, a2⟩, b, c, e, ⟨f1, f2, f3, f0⟩, g⟩ := h
  have o : ∀ s' j, s' ≠ 33 → me_I (me_sI M 33 0 t v) s' 0 j = me_I M s' 0 j := fun s' j q => by
    rw [me_I_sI, if_neg (fun e => q e.1)]
  refine ⟨⟨by rw [o 7 28 (by decide)]; exact a1, fun k x hk => by rw [o 53 k (by decide)]; exact a2 k x hk⟩, fun w hw => ?_, fun w hw => by rw [o 48 w (by decide)]; exact c w hw, e, ⟨fun x hx => by rw [o 38 x (by decide)]; exact f1 x hx, fun w hw x hx => by rw [o 38 x (by decide)]; exact f2 w hw x hx, fun w hw x hx => by rw [o 38 x (by decide)]; exact f3 w hw x hx, fun x hx h9 => by rw [o 38 x (by decide)]; exact f0 x hx h9⟩, fun x hx h9 => ?_⟩
  · obtain ⟨b1, b2, b3⟩ := b w hw
    exact ⟨by rw [o 52 w (by decide)]; exact b1, b2, fun k x hk => by rw [o 51 _ (by decide)]; exact b3 k x hk⟩
  · rw [me_I_sI] at h9
    by_cases q : x = t
    · subst q
      rw [if_pos ⟨rfl, rfl, rfl⟩] at h9
      rcases hv with hv | hv
      · exact absurd h9 hv
      · exact hv
    · rw [if_neg (fun e => q e.2.2)] at h9
      exact g x hx h9
/-- t, which stands nowhere and is not IDLE, is in transit -/
theorem qX_take {M : Me} {nt : Nat} {inj : List Nat} {rg : Nat → List Nat} {sl : Nat → Option Nat} {X : List Nat} {t : Nat} (h : qX M nt inj rg sl X) (ht : t < nt) (h0 : qC X inj rg sl t = 0) (hs : me_I M 33 0 t ≠ 0) : qX M nt inj rg sl (t :: X) := by
  obtain ⟨a, b, c, ⟨e1, e2, e3⟩, ⟨f1, f2, f3, f0⟩, g⟩ := h
  refine ⟨a, b, c, ⟨fun x => ?_, fun x hx => ?_, e3⟩, ⟨f1, f2, f3, fun s hs' h9 => f0 s hs' (by rw [qC_x] at h9; omega)⟩, fun s hs' h9 => ?_⟩
  · rw [qC_x]
    by_cases q : t = x
    · subst q; rw [if_pos rfl, h0]; omega
    · rw [if_neg q]; exact e1 x
  · rw [qC_x] at hx
    by_cases q : t = x
    · rw [← q]; exact ht
    · rw [if_neg q] at hx; exact e2 x hx
  · rw [qC_x, if_neg (fun q => hs (by rw [q]; exact h9)), g s hs' h9]
def mQ (M : Me) (nt : Nat) (X : List Nat) : Prop := ∃ inj rg sl, qX M nt inj rg sl X
/-- those in transit are left alone -/
def tr (X : List Nat) (M M' : Me) : Prop := ∀ s ∈ X, me_I M' 38 0 s = me_I M 38 0 s ∧ me_I M' 33 0 s = me_I M 33 0 s
theorem tr_rf {X : List Nat} {M : Me} : tr X M M := fun _ _ => ⟨rfl, rfl⟩
theorem tr_tr {X : List Nat} {M M1 M2 : Me} (h : tr X M M1) (h2 : tr X M1 M2) : tr X M M2 := fun s hs => ⟨(h2 s hs).1.trans (h s hs).1, (h2 s hs).2.trans (h s hs).2⟩
theorem tr_sI {X : List Nat} {M M1 : Me} {s k : Nat} {v : Int32} (h : tr X M M1) (hs : (s ≠ 38 ∧ s ≠ 33) ∨ k ∉ X) : tr X M (me_sI M1 s 0 k v) := fun x hx => by
  have e : ∀ s', (s' = 38 ∨ s' = 33) → me_I (me_sI M1 s 0 k v) s' 0 x = me_I M1 s' 0 x := fun s' q => by
    rw [me_I_sI, if_neg (fun e => by
      rcases hs with hs | hs
      · omega
      · exact hs (by rw [← e.2.2]; exact hx))]
  exact ⟨(e 38 (Or.inl rfl)).trans (h x hx).1, (e 33 (Or.inr rfl)).trans (h x hx).2⟩
theorem qX_xn {M : Me} {nt : Nat} {inj : List Nat} {rg : Nat → List Nat} {sl : Nat → Option Nat} {X : List Nat} {t : Nat} (h : qX M nt inj rg sl (t :: X)) : t ∉ X := fun q => by
  have h1 := (qX_out h).1
  have h2 := cm.mp q
  unfold qC at h1; omega
