def rgu (rg : Nat → List Nat) (w : Nat) (l : List Nat) : Nat → List Nat := fun v => if v = w then l else rg v
def slu (sl : Nat → Option Nat) (w : Nat) (o : Option Nat) : Nat → Option Nat := fun v => if v = w then o else sl v
theorem qC_rg {X inj : List Nat} {rg : Nat → List Nat} {sl : Nat → Option Nat} {w : Nat} (hw : w < 3) (l : List Nat) (a : Nat) : qC X inj (rgu rg w l) sl a + (rg w).count a = qC X inj rg sl a + l.count a := by
  rcases (show w = 0 ∨ w = 1 ∨ w = 2 by omega) with rfl | rfl | rfl <;> simp [qC, rgu] <;> omega
theorem qC_sl {X inj : List Nat} {rg : Nat → List Nat} {sl : Nat → Option Nat} {w : Nat} (hw : w < 3) (o : Option Nat) (a : Nat) : qC X inj rg (slu sl w o) a + slc (sl w) a = qC X inj rg sl a + slc o a := by
  rcases (show w = 0 ∨ w = 1 ∨ w = 2 by omega) with rfl | rfl | rfl <;> simp [qC, slu] <;> omega
theorem qC_in {X inj : List Nat} {rg : Nat → List Nat} {sl : Nat → Option Nat} {a : Nat} (h : a ∈ inj) : 0 < qC X inj rg sl a := by
  have := cm.mp h
  unfold qC; omega
theorem qC_inr {X inj : List Nat} {rg : Nat → List Nat} {sl : Nat → Option Nat} {a w : Nat} (hw : w < 3) (h : a ∈ rg w) : (rg w).count a ≤ qC X inj rg sl a ∧ 0 < (rg w).count a := by
  refine ⟨?_, cm.mp h⟩
  rcases (show w = 0 ∨ w = 1 ∨ w = 2 by omega) with rfl | rfl | rfl <;> (unfold qC; omega)
theorem qC_ins {X inj : List Nat} {rg : Nat → List Nat} {sl : Nat → Option Nat} {a w : Nat} (hw : w < 3) (h : sl w = some a) : slc (sl w) a ≤ qC X inj rg sl a ∧ slc (sl w) a = 1 := by
  refine ⟨?_, by rw [h, slc_s, if_pos rfl]⟩
  rcases (show w = 0 ∨ w = 1 ∨ w = 2 by omega) with rfl | rfl | rfl <;> (unfold qC; omega)
theorem qC_x {t : Nat} {X inj : List Nat} {rg : Nat → List Nat} {sl : Nat → Option Nat} (a : Nat) : qC (t :: X) inj rg sl a = qC X inj rg sl a + if t = a then 1 else 0 := by
  unfold qC; rw [List.count_cons]
  by_cases h : t = a <;> simp [h] <;> omega
theorem qC_inj {t : Nat} {X inj : List Nat} {rg : Nat → List Nat} {sl : Nat → Option Nat} (a : Nat) : qC X (inj ++ [t]) rg sl a = qC (t :: X) inj rg sl a := by
  unfold qC; rw [List.count_append, List.count_cons, List.count_cons, List.count_nil]; omega
/-- a task in transit stands in no queue -/
theorem qX_out {M : Me} {nt : Nat} {inj : List Nat} {rg : Nat → List Nat} {sl : Nat → Option Nat} {X : List Nat} {t : Nat} (h : qX M nt inj rg sl (t :: X)) : qC X inj rg sl t = 0 ∧ t < nt := by
  have h1 := h.2.2.2.1.1 t
  have h2 := h.2.2.2.1.2.1 t
  rw [qC_x, if_pos rfl] at h1 h2
  exact ⟨by omega, h2 (by omega)⟩
theorem qX_inj {M : Me} {nt : Nat} {inj : List Nat} {rg : Nat → List Nat} {sl : Nat → Option Nat} {X : List Nat} {t : Nat} (h : qX M nt inj rg sl (t :: X)) : qX (me_sI (me_sI (me_sI M 7 0 28 (nI inj.length + 1)) 53 0 inj.length (nI t)) 38 0 t 1) nt (inj ++ [t]) rg sl X := by
  obtain ⟨h0, h0'⟩ := qX_out h
  obtain ⟨⟨a1, a2⟩, b, c, ⟨e1, e2, e3⟩, ⟨f1, f2, f3, f0⟩, g⟩ := h
  have hw : ∀ s, me_I (me_sI (me_sI (me_sI M 7 0 28 (nI inj.length + 1)) 53 0 inj.length (nI t)) 38 0 t 1) 38 0 s = if s = t then 1 else me_I M 38 0 s := fun s => by simp [me_I_sI]
  refine ⟨⟨by simp [me_I_sI, nI_1], fun k a hk => ?_⟩, fun w hw' => ?_, fun w hw' => ?_, ⟨fun a => by rw [qC_inj]; exact e1 a, fun a ha => e2 a (by rw [qC_inj] at ha; exact ha), e3⟩, ⟨fun s hs => ?_, fun w hw' s hs => ?_, fun w hw' s hs => ?_, fun s hs h9 => ?_⟩, fun s hs h9 => ?_⟩
  · rcases gapp hk with q | ⟨q1, q2⟩
    · have hk2 := (List.getElem?_eq_some_iff.mp q).1
      simp [me_I_sI, Nat.ne_of_lt hk2, a2 k a q]
    · subst q1; subst q2; simp [me_I_sI]
  · obtain ⟨b1, b2, b3⟩ := b w hw'
    exact ⟨by simp [me_I_sI, b1], b2, fun k a hk => by simp [me_I_sI, b3 k a hk]⟩
  · simp [me_I_sI, c w hw']
  · rw [hw]
    split
    · rfl
    · rename_i q
      rcases List.mem_append.mp hs with hs | hs
      · exact f1 s hs
      · exact absurd (List.mem_singleton.mp hs) q
  · have h2 := qC_ins (X := X) (inj := inj) (rg := rg) hw' hs
    rw [hw, if_neg (fun q => by rw [q] at h2; omega)]
    exact f2 w hw' s hs
  · have h2 := qC_inr (X := X) (inj := inj) (sl := sl) hw' hs
    rw [hw, if_neg (fun q => by rw [q] at h2; omega)]
    exact f3 w hw' s hs
  · rw [qC_inj] at h9
    have h2 : ¬ s = t := fun q => by rw [q, qC_x, if_pos rfl] at h9; omega
    rw [hw, if_neg h2]
    exact f0 s hs h9
  · rw [qC_inj]
    exact g s hs (by simpa [me_I_sI] using h9)
theorem qX_ring {M : Me} {nt : Nat} {inj : List Nat} {rg : Nat → List Nat} {sl : Nat → Option Nat} {X : List Nat} {t w : Nat} (h : qX M nt inj rg sl (t :: X)) (hw : w < 3) (hl : (rg w).length < 4) : qX (me_sI (me_sI (me_sI M 52 0 w (nI (rg w).length + 1)) 51 0 (4 * w + (rg w).length) (nI t)) 38 0 t (nI (5 + w))) nt inj (rgu rg w (rg w ++ [t])) sl X := by
  obtain ⟨h0, h0'⟩ := qX_out h
  obtain ⟨⟨a1, a2⟩, b, c, ⟨e1, e2, e3⟩, ⟨f1, f2, f3, f0⟩, g⟩ := h
  have hc : ∀ a, qC X inj (rgu rg w (rg w ++ [t])) sl a = qC (t :: X) inj rg sl a := fun a => by
    have h1 := qC_rg (X := X) (inj := inj) (rg := rg) (sl := sl) hw (rg w ++ [t]) a
    rw [List.count_append, List.count_cons, List.count_nil] at h1
    rw [qC_x]
    by_cases q : t = a
    · simp [q] at h1 ⊢; omega
    · simp [q] at h1 ⊢; omega
  have hwh : ∀ s, me_I (me_sI (me_sI (me_sI M 52 0 w (nI (rg w).length + 1)) 51 0 (4 * w + (rg w).length) (nI t)) 38 0 t (nI (5 + w))) 38 0 s = if s = t then nI (5 + w) else me_I M 38 0 s := fun s => by simp [me_I_sI]
  refine ⟨⟨by simp [me_I_sI, a1], fun k a hk => by simp [me_I_sI, a2 k a hk]⟩, fun v hv => ?_, fun v hv => by simp [me_I_sI, c v hv], ⟨fun a => by rw [hc]; exact e1 a, fun a ha => e2 a (by rw [hc] at ha; exact ha), e3⟩, ⟨fun s hs => ?_, fun v hv s hs => ?_, fun v hv s hs => ?_, fun s hs h9 => ?_⟩, fun s hs h9 => ?_⟩
  · obtain ⟨b1, b2, b3⟩ := b v hv
    by_cases q : v = w
    · subst q
      refine ⟨by simp [me_I_sI, rgu, nI_1], by simp [rgu]; omega, fun k a hk => ?_⟩
      have hk : (rg v ++ [t])[k]? = some a := by simpa [rgu] using hk
      rcases gapp hk with q | ⟨q1, q2⟩
      · have hk2 := (List.getElem?_eq_some_iff.mp q).1
        simp [me_I_sI, Nat.ne_of_lt hk2, b3 k a q]
      · subst q1; subst q2; simp [me_I_sI]
    · have e : rgu rg w (rg w ++ [t]) v = rg v := by simp [rgu, q]
      rw [e]
      refine ⟨by simp [me_I_sI, q, b1], b2, fun k a hk => ?_⟩
      have hk2 := (List.getElem?_eq_some_iff.mp hk).1
      have : ¬ 4 * v + k = 4 * w + (rg w).length := by omega
      simp [me_I_sI, this, b3 k a hk]
  · have h2 := qC_in (X := X) (rg := rg) (sl := sl) hs
    rw [hwh, if_neg (fun q => by rw [q] at h2; omega)]
    exact f1 s hs
  · have h2 := qC_ins (X := X) (inj := inj) (rg := rg) hv hs
    rw [hwh, if_neg (fun q => by rw [q] at h2; omega)]
    exact f2 v hv s hs
  · rw [hwh]
    by_cases q : v = w
    · subst q
      split
      · rfl
      · rename_i q2
        have hs : s ∈ rg v ++ [t] := by simpa [rgu] using hs
        rcases List.mem_append.mp hs with hs | hs
        · exact f3 v hv s hs
        · exact absurd (List.mem_singleton.mp hs) q2
    · have e : rgu rg w (rg w ++ [t]) v = rg v := by simp [rgu, q]
      rw [e] at hs
      have h2 := qC_inr (X := X) (inj := inj) (sl := sl) hv hs
      rw [if_neg (fun q => by rw [q] at h2; omega)]
      exact f3 v hv s hs
  · rw [hc] at h9
    have h2 : ¬ s = t := fun q => by rw [q, qC_x, if_pos rfl] at h9; omega
    rw [hwh, if_neg h2]
    exact f0 s hs h9
  · rw [hc]
    exact g s hs (by simpa [me_I_sI] using h9)
/-- a slot takes t; what was there is in transit -/
theorem qX_slot {M : Me} {nt : Nat} {inj : List Nat} {rg : Nat → List Nat} {sl : Nat → Option Nat} {X : List Nat} {t w : Nat} (h : qX M nt inj rg sl (t :: X)) (hw : w < 3) : qX (me_sI (me_sI M 48 0 w (nI t)) 38 0 t (nI (2 + w))) nt inj rg (slu sl w (some t)) ((sl w).toList ++ X) := by
  obtain ⟨h0, h0'⟩ := qX_out h
  obtain ⟨⟨a1, a2⟩, b, c, ⟨e1, e2, e3⟩, ⟨f1, f2, f3, f0⟩, g⟩ := h
  have hc : ∀ a, qC ((sl w).toList ++ X) inj rg (slu sl w (some t)) a = qC (t :: X) inj rg sl a := fun a => by
    have h1 := qC_sl (X := X) (inj := inj) (rg := rg) (sl := sl) hw (some t) a
    have h2 : qC ((sl w).toList ++ X) inj rg (slu sl w (some t)) a = slc (sl w) a + qC X inj rg (slu sl w (some t)) a := by
      unfold qC slc; rw [List.count_append]; omega
    rw [slc_s] at h1
    rw [h2, qC_x]; omega
  have hwh : ∀ s, me_I (me_sI (me_sI M 48 0 w (nI t)) 38 0 t (nI (2 + w))) 38 0 s = if s = t then nI (2 + w) else me_I M 38 0 s := fun s => by simp [me_I_sI]
  refine ⟨⟨by simp [me_I_sI, a1], fun k a hk => by simp [me_I_sI, a2 k a hk]⟩, fun v hv => ?_, fun v hv => ?_, ⟨fun a => by rw [hc]; exact e1 a, fun a ha => e2 a (by rw [hc] at ha; exact ha), e3⟩, ⟨fun s hs => ?_, fun v hv s hs => ?_, fun v hv s hs => ?_, fun s hs h9 => ?_⟩, fun s hs h9 => ?_⟩
  · obtain ⟨b1, b2, b3⟩ := b v hv
    exact ⟨by simp [me_I_sI, b1], b2, fun k a hk => by simp [me_I_sI, b3 k a hk]⟩
  · by_cases q : v = w
    · subst q; simp [me_I_sI, slu, slv]
    · simp [me_I_sI, slu, q, c v hv]
  · have h2 := qC_in (X := X) (rg := rg) (sl := sl) hs
    rw [hwh, if_neg (fun q => by rw [q] at h2; omega)]
    exact f1 s hs
  · rw [hwh]
    by_cases q : v = w
    · subst q
      have hs : t = s := by simpa [slu] using hs
      rw [if_pos hs.symm]
    · have hs : sl v = some s := by simpa [slu, q] using hs
      have h2 := qC_ins (X := X) (inj := inj) (rg := rg) hv hs
      rw [if_neg (fun q => by rw [q] at h2; omega)]
      exact f2 v hv s hs
  · have h2 := qC_inr (X := X) (inj := inj) (sl := sl) hv hs
    rw [hwh, if_neg (fun q => by rw [q] at h2; omega)]
    exact f3 v hv s hs
  · rw [hc] at h9
    have h2 : ¬ s = t := fun q => by rw [q, qC_x, if_pos rfl] at h9; omega
    rw [hwh, if_neg h2]
    exact f0 s hs h9
  · rw [hc]
    exact g s hs (by simpa [me_I_sI] using h9)
/-- a slot gives what it has -/
theorem qX_unslot {M : Me} {nt : Nat} {inj : List Nat} {rg : Nat → List Nat} {sl : Nat → Option Nat} {X : List Nat} {t w : Nat} (h : qX M nt inj rg sl X) (hw : w < 3) (ht : sl w = some t) : qX (me_sI M 48 0 w (-1)) nt inj rg (slu sl w none) (t :: X) := by
  obtain ⟨⟨a1, a2⟩, b, c, ⟨e1, e2, e3⟩, ⟨f1, f2, f3, f0⟩, g⟩ := h
  have hc : ∀ a, qC (t :: X) inj rg (slu sl w none) a = qC X inj rg sl a := fun a => by
    have h1 := qC_sl (X := X) (inj := inj) (rg := rg) (sl := sl) hw none a
    rw [ht, slc_s, slc_n] at h1
    rw [qC_x]; omega
  refine ⟨⟨by simp [me_I_sI, a1], fun k a hk => by simp [me_I_sI, a2 k a hk]⟩, fun v hv => ?_, fun v hv => ?_, ⟨fun a => by rw [hc]; exact e1 a, fun a ha => e2 a (by rw [hc] at ha; exact ha), e3⟩, ⟨fun s hs => by simp [me_I_sI, f1 s hs], fun v hv s hs => ?_, fun v hv s hs => by simp [me_I_sI, f3 v hv s hs], fun s hs h9 => ?_⟩, fun s hs h9 => ?_⟩
  · obtain ⟨b1, b2, b3⟩ := b v hv
    exact ⟨by simp [me_I_sI, b1], b2, fun k a hk => by simp [me_I_sI, b3 k a hk]⟩
  · by_cases q : v = w
    · subst q; simp [me_I_sI, slu, slv]
    · simp [me_I_sI, slu, q, c v hv]
  · by_cases q : v = w
    · subst q; simp [slu] at hs
    · have hs : sl v = some s := by simpa [slu, q] using hs
      simp [me_I_sI, f2 v hv s hs]
  · rw [hc] at h9
    simp [me_I_sI, f0 s hs h9]
  · rw [hc]
    exact g s hs (by simpa [me_I_sI] using h9)
