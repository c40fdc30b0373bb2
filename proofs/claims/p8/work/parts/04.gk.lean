def gk_ok (G : Gt) (U : State) (H : Heap) : Prop := va_K G.2.1 vwCl G.2.2.2.1 U ∧ (∀ s ty, ar_ty s = some ty → ∃ t0 : Nat, G.2.2.2.1[t0]? = some (G.2.2.1 s, ty)) ∧ (∀ w ∈ nest_w, va_Nw w U) ∧ (∀ C ∈ over_c, va_AO C U) ∧ (∀ q ∈ st_l, va_Z "PollYard" q.2.1 "[I" (.ref (G.2.2.2.2.1 q.1)) (fun a => G.1 ≤ a) U H ∧ va_T .int (G.2.2.2.2.1 q.1) 16 (fun j => .int (q.2.2.getD j 0)) (fun a => G.1 ≤ a) U H) ∧ va_X (G.2.2.2.2.1 25) G.2.2.2.2.2.1 G.2.2.2.2.2.2 U H ∧ G.2.2.2.2.1 25 < G.1
theorem gk_K {G : Gt} {U : State} {H : Heap} (h : gk_ok G U H) : va_K G.2.1 vwCl G.2.2.2.1 U := h.1
theorem gk_ar {G : Gt} {U : State} {H : Heap} (h : gk_ok G U H) : ∀ s ty, ar_ty s = some ty → ∃ t0 : Nat, G.2.2.2.1[t0]? = some (G.2.2.1 s, ty) := h.2.1
theorem nest_warm {s U : State} (hW : s.WarmedH U.vm) : ∀ w ∈ nest_w, va_Nw w s → va_Nw w U := by
  intro w hw h
  simp only [nest_w, List.mem_cons, List.not_mem_nil, or_false] at hw
  rcases hw with rfl | rfl | rfl | rfl <;> first | exact va_Nw.warmM hW h | exact va_Nw.warmF hW h
theorem nest_tab : ∀ w ∈ nest_w, w.onTables = true := by
  intro w hw
  simp only [nest_w, List.mem_cons, List.not_mem_nil, or_false] at hw
  rcases hw with rfl | rfl | rfl | rfl <;> rfl
theorem gk_warm {G : Gt} {s U : State} (h : gk_ok G s s.heap) (hW : s.WarmedH U.vm) (hh : ∀ q, q < G.1 → U.heap[q]? = s.heap[q]?) : gk_ok G U U.heap :=
  ⟨va_K.moved hW.alike h.1, h.2.1, fun w hw => nest_warm hW w hw (h.2.2.1 w hw), fun C hC => va_AO.moved hW.alike (h.2.2.2.1 C hC), fun q hq => ⟨((h.2.2.2.2.1 q hq).1.moved hW.alike).kept (fun a _ ha => hh a (Nat.not_le.mp ha)), ((h.2.2.2.2.1 q hq).2.moved hW.alike).kept (fun a _ ha => hh a (Nat.not_le.mp ha))⟩, (h.2.2.2.2.2.1.moved hW.alike).kept (hh _ h.2.2.2.2.2.2), h.2.2.2.2.2.2⟩
theorem gk_same {G : Gt} {u U : State} (hv : u.vm = U.vm) (h : gk_ok G u u.heap) : gk_ok G U u.heap := by
  have ha : u.vm.Alike U.vm := by rw [hv]; exact Vm.Alike.refl _
  exact ⟨va_K.moved ha h.1, h.2.1, fun w hw => va_Nw.same (nest_tab w hw) hv (h.2.2.1 w hw), fun C hC => va_AO.moved ha (h.2.2.2.1 C hC), fun q hq => ⟨(h.2.2.2.2.1 q hq).1.moved ha, (h.2.2.2.2.1 q hq).2.moved ha⟩, h.2.2.2.2.2.1.moved ha, h.2.2.2.2.2.2⟩
