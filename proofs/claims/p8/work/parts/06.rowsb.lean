def cf_ok (ci : Nat) (C : String) (T : u_T) (N : Nat) (ty : Nat → FieldType) : Prop := vwCl[ci]? = some (C, T, N) ∧ (∀ w ∈ u_ws C T N, w ∈ TS) ∧ nf ci = N ∧ (∀ k, k < N → parseFieldDescriptor (T k).2.2.1 = some (ty k)) ∧ (∀ a, a < N → ∀ b, b < N → a ≠ b → (T a).2.1 ≠ (T b).2.1)
def fl_ok (own : String) (index : Nat) (ci k : Nat) (C : String) (T : u_T) (N : Nat) (ty : Nat → FieldType) (rf : Bool) : Prop := cf_ok ci C T N ty ∧ k < N ∧ fk ci k = rf ∧ Cond.fieldLink own index (T k).1 (T k).2.1 (T k).2.2.1 ∈ TS
theorem me_ce_o {cA : Nat → ClassId} {ρ : Rh} {M : Me} {s i ci : Nat} (hs : sk s = .inl ci) : me_ce cA ρ M (s, i) = .inr (ci, me_fl ρ M ci s i) := by simp only [me_ce, hs]
theorem me_ce_i {cA : Nat → ClassId} {ρ : Rh} {M : Me} {s i : Nat} (hs : sk s = .inr .int) : me_ce cA ρ M (s, i) = .inl (cA s, me_L M s i, .inl (me_I M s i)) := by simp only [me_ce, hs]
theorem me_ce_q {cA : Nat → ClassId} {ρ : Rh} {M : Me} {s i : Nat} {C : String} (hs : sk s = .inr (.object C)) : me_ce cA ρ M (s, i) = .inl (cA s, me_L M s i, .inr (.inr (.inr (.inr (fun k => av_r ρ (me_P M s i k)))))) := by simp only [me_ce, hs]
theorem jw_mem {G : Gt} {Y : Yt} {d c0 s0 : Nat} {M M' : Me} {pc pc' : Nat} {lc : List (Option AV)} {st st' : List AV} {r : Option AV}
    (h : ∀ {p : Program} {l : Launch} {e : Env} {R : Room} {s : State} {m : MethodId} {args : Array Value} {below : List Frame} {meth : Method} {c : Code} {H : Heap} {locs : List Loc} {cells slots : Nat} {Q : State → Prop} {ls : Array Slot} {ρ : Rh}, fr_ok G Y p s m args meth c → me_rl G ρ M H → va_S (fun q => G.1 ≤ q) s.heap H locs → (∀ v ∈ st, av_ok M v) → W p l e R s m args below meth c H locs cells slots Q (F0 m pc' ls (st'.map (av_tv ρ))) → W p l e R s m args below meth c H locs cells slots Q (F0 m pc ls (st.map (av_tv ρ))))
    (ho : (∀ s i k, i < me_N M s → av_okr M (me_P M s i k)) → (∀ s, st_is s = true → me_N M s = 1) → (∀ v ∈ st, av_ok M v) → ∀ v ∈ st', av_ok M v) (k : jw G Y d c0 s0 M pc' lc st' r M') : jw G Y d c0 s0 M pc lc st r M' :=
  ⟨k.1, fun p l e s m args below meth c ρe ne ρ H locs cells slots ls hF hR hS ha hn hc hs hl hst => h hF hR hS hst (k.2 p l e s m args below meth c ρe ne ρ H locs cells slots ls hF hR hS ha hn hc hs hl (ho hR.choose_spec.2.2.2.2.1 (fun s h => (hR.choose_spec.2.2.2.2.2 s h).1) hst))⟩
theorem jw_wr {G : Gt} {Y : Yt} {d c0 s0 : Nat} {M M2 M' : Me} {pc pc' : Nat} {lc : List (Option AV)} {st st' : List AV} {r : Option AV}
    (hN : me_N M2 = me_N M) (hC : me_C M2 = me_C M) (hSl : me_S M2 = me_S M)
    (h : ∀ {p : Program} {l : Launch} {e : Env} {R : Room} {s : State} {m : MethodId} {args : Array Value} {below : List Frame} {meth : Method} {c : Code} {H : Heap} {locs : List Loc} {cells slots : Nat} {Q : State → Prop} {ls : Array Slot} {ρ : Rh}, fr_ok G Y p s m args meth c → me_rl G ρ M H → va_S (fun q => G.1 ≤ q) s.heap H locs → (∀ v ∈ st, av_ok M v) → (∀ (H1 : Heap) (locs1 : List Loc), me_rl G ρ M2 H1 → va_S (fun q => G.1 ≤ q) s.heap H1 locs1 → W p l e R s m args below meth c H1 locs1 cells slots Q (F0 m pc' ls (st'.map (av_tv ρ)))) → W p l e R s m args below meth c H locs cells slots Q (F0 m pc ls (st.map (av_tv ρ))))
    (ho : ∀ v ∈ st', v ∈ st) (k : jw G Y d c0 s0 M2 pc' lc st' r M') : jw G Y d c0 s0 M pc lc st r M' := by
  have hle : ∀ a, me_N M a ≤ me_N M2 a := fun a => by rw [hN]; exact Nat.le_refl _
  refine ⟨by rw [← hC, ← hSl]; exact k.1, fun p l e s m args below meth c ρe ne ρ H locs cells slots ls hF hR hS ha hn hc hs hl hst => h hF hR hS hst (fun H1 locs1 hR1 hS1 => k.2 p l e s m args below meth c ρe ne ρ H1 locs1 cells slots ls hF hR1 hS1 ha (fun a => Nat.le_trans (hn a) (hle a)) (by rw [hC]; exact hc) (by rw [hSl]; exact hs) (lc_mono hl hle (fun _ _ _ => rfl)) (fun v hv => av_ok_mono hle (hst v (ho v hv))))⟩
section RowsB
variable {G : Gt} {Y : Yt} {d c0 s0 : Nat} {M M' : Me} {pc : Nat} {lc : List (Option AV)} {st : List AV} {r : Option AV}
theorem jw_getI {s i index ci k : Nat} {C : String} {T : u_T} {N : Nat} {ty : Nat → FieldType} (hf : fl_ok Y.2.2.1 index ci k C T N ty false) (hd : decode Y.1 pc = .ok (.getfield index, 3)) (hs : sk s = .inl ci) (ht : st_is s = false) (kk : jw G Y d c0 s0 M (pc + 3) lc (.inl (me_I M s i k) :: st) r M') : jw G Y d c0 s0 M pc lc (.inr (some (s, i)) :: st) r M' := by
  obtain ⟨⟨h1, h2, h3, h4, h5⟩, hk, hfk, hl⟩ := hf
  refine jw_mem ?_ (fun _ _ h v hv => by rcases List.mem_cons.mp hv with rfl | hv; exact av_ok_i; exact h v (List.mem_cons_of_mem _ hv)) kk
  intro p l e R s' m args below meth c H locs cells slots Q ls ρ hF hR hS hst kW
  obtain ⟨ord, hnd, hmem, hP, hD, hok, hsx⟩ := hR
  have hi : i < me_N M s := hst _ List.mem_cons_self (s, i) rfl
  obtain ⟨n, hn, he⟩ := me_at (cA := G.2.2.1) (ρ := ρ) (M := M) ((hmem (s, i)).mpr ⟨hi, ht⟩)
  rw [me_ce_o hs] at he
  refine va_get hF.1 hF.2.1 hF.2.2.2.2.2.2.1 h2 hF.2.2.2.1 (gk_K hF.2.2.2.2.2.2.2.2.1) hP n he h1 k hk (hF.2.2.2.2.2.2.1 _ hl) (fun _ h9 => h9) (v := .int (me_I M s i k)) ?_ hd kW
  rw [me_fl_get (by rw [h3]; exact hk), hfk]; rfl
theorem jw_getP {s i index ci k : Nat} {C : String} {T : u_T} {N : Nat} {ty : Nat → FieldType} (hf : fl_ok Y.2.2.1 index ci k C T N ty true) (hd : decode Y.1 pc = .ok (.getfield index, 3)) (hs : sk s = .inl ci) (ht : st_is s = false) (kk : jw G Y d c0 s0 M (pc + 3) lc (.inr (me_P M s i k) :: st) r M') : jw G Y d c0 s0 M pc lc (.inr (some (s, i)) :: st) r M' := by
  obtain ⟨⟨h1, h2, h3, h4, h5⟩, hk, hfk, hl⟩ := hf
  refine jw_mem ?_ (fun hq _ h v hv => by rcases List.mem_cons.mp hv with rfl | hv; exact av_ok_r (hq s i k (h _ List.mem_cons_self (s, i) rfl)); exact h v (List.mem_cons_of_mem _ hv)) kk
  intro p l e R s' m args below meth c H locs cells slots Q ls ρ hF hR hS hst kW
  obtain ⟨ord, hnd, hmem, hP, hD, hok, hsx⟩ := hR
  have hi : i < me_N M s := hst _ List.mem_cons_self (s, i) rfl
  obtain ⟨n, hn, he⟩ := me_at (cA := G.2.2.1) (ρ := ρ) (M := M) ((hmem (s, i)).mpr ⟨hi, ht⟩)
  rw [me_ce_o hs] at he
  refine va_get hF.1 hF.2.1 hF.2.2.2.2.2.2.1 h2 hF.2.2.2.1 (gk_K hF.2.2.2.2.2.2.2.2.1) hP n he h1 k hk (hF.2.2.2.2.2.2.1 _ hl) (fun _ h9 => h9) (v := va_rf (av_r ρ (me_P M s i k))) ?_ hd kW
  rw [me_fl_get (by rw [h3]; exact hk), hfk]; rfl
theorem jw_putI {s i index ci k : Nat} {C : String} {T : u_T} {N : Nat} {ty : Nat → FieldType} {x : Int32} (hf : fl_ok Y.2.2.1 index ci k C T N ty false) (hfin : (T k).2.2.2 = false ∨ (Y.2.2.2.1 = "<init>" ∧ (T k).1 = Y.2.2.1)) (hn : narrow (ty k) (.int x) = .int x) (hfit : fits (ty k) (.int x) = true) (hd : decode Y.1 pc = .ok (.putfield index, 3)) (hs : sk s = .inl ci) (ht : st_is s = false) (kk : jw G Y d c0 s0 (me_sI M s i k x) (pc + 3) lc st r M') : jw G Y d c0 s0 M pc lc (.inl x :: .inr (some (s, i)) :: st) r M' := by
  obtain ⟨⟨h1, h2, h3, h4, h5⟩, hk, hfk, hl⟩ := hf
  refine jw_wr (M2 := me_sI M s i k x) rfl rfl rfl ?_ (fun v hv => List.mem_cons_of_mem _ (List.mem_cons_of_mem _ hv)) kk
  intro p l e R s' m args below meth c H locs cells slots Q ls ρ hF hR hS hst kW
  obtain ⟨ord, hnd, hmem, hP, hD, hok, hsx⟩ := hR
  have hi : i < me_N M s := hst _ (List.mem_cons_of_mem _ List.mem_cons_self) (s, i) rfl
  obtain ⟨n, hn', he⟩ := me_at (cA := G.2.2.1) (ρ := ρ) (M := M) ((hmem (s, i)).mpr ⟨hi, ht⟩)
  rw [me_ce_o hs] at he
  have hce : me_ce G.2.2.1 ρ (me_sI M s i k x) (s, i) = .inr (ci, (me_fl ρ M ci s i).set k (.int x)) := by rw [me_ce_o hs, me_fl_setI hfk]
  rcases hfin with hfin | hfin
  · exact va_put hF.1 hF.2.1 hF.2.2.2.2.2.2.1 h2 ty h4 h5 hF.2.2.2.1 (gk_K hF.2.2.2.2.2.2.2.2.1) hP hD hS n he h1 k hk (hF.2.2.2.2.2.2.1 _ hl) (fun _ h9 => h9) hfin (h4 k hk) hn hfit (by rw [me_fl_len, h3]; exact hk) hd (fun H1 locs1 hP1 hD1 hS1 => kW H1 locs1 (me_putI hnd hmem hok hsx hn' hce hP1 hD1) hS1)
  · cases hf2 : (T k).2.2.2 with
    | false => exact va_put hF.1 hF.2.1 hF.2.2.2.2.2.2.1 h2 ty h4 h5 hF.2.2.2.1 (gk_K hF.2.2.2.2.2.2.2.2.1) hP hD hS n he h1 k hk (hF.2.2.2.2.2.2.1 _ hl) (fun _ h9 => h9) hf2 (h4 k hk) hn hfit (by rw [me_fl_len, h3]; exact hk) hd (fun H1 locs1 hP1 hD1 hS1 => kW H1 locs1 (me_putI hnd hmem hok hsx hn' hce hP1 hD1) hS1)
    | true => exact va_putF hF.1 hF.2.1 hF.2.2.2.2.2.2.1 h2 ty h4 h5 hF.2.2.2.1 (gk_K hF.2.2.2.2.2.2.2.2.1) hP hD hS n he h1 k hk (hF.2.2.2.2.2.2.1 _ hl) (fun _ h9 => h9) hf2 (hF.2.2.2.2.1.trans hfin.1) hfin.2 (h4 k hk) hn hfit (by rw [me_fl_len, h3]; exact hk) hd (fun H1 locs1 hP1 hD1 hS1 => kW H1 locs1 (me_putI hnd hmem hok hsx hn' hce hP1 hD1) hS1)
theorem jw_putP {s i index ci k : Nat} {C : String} {T : u_T} {N : Nat} {ty : Nat → FieldType} {x : Option (Nat × Nat)} (hf : fl_ok Y.2.2.1 index ci k C T N ty true) (hfin : (T k).2.2.2 = false ∨ (Y.2.2.2.1 = "<init>" ∧ (T k).1 = Y.2.2.1)) (hn : ∀ z : Option Nat, narrow (ty k) (va_rf z) = va_rf z) (hfit : ∀ z : Option Nat, fits (ty k) (va_rf z) = true) (hd : decode Y.1 pc = .ok (.putfield index, 3)) (hs : sk s = .inl ci) (ht : st_is s = false) (kk : jw G Y d c0 s0 (me_sP M s i k x) (pc + 3) lc st r M') : jw G Y d c0 s0 M pc lc (.inr x :: .inr (some (s, i)) :: st) r M' := by
  obtain ⟨⟨h1, h2, h3, h4, h5⟩, hk, hfk, hl⟩ := hf
  refine jw_wr (M2 := me_sP M s i k x) rfl rfl rfl ?_ (fun v hv => List.mem_cons_of_mem _ (List.mem_cons_of_mem _ hv)) kk
  intro p l e R s' m args below meth c H locs cells slots Q ls ρ hF hR hS hst kW
  obtain ⟨ord, hnd, hmem, hP, hD, hok, hsx⟩ := hR
  have hi : i < me_N M s := hst _ (List.mem_cons_of_mem _ List.mem_cons_self) (s, i) rfl
  have hxo : av_okr M x := fun a e => hst _ List.mem_cons_self a (congrArg _ e)
  obtain ⟨n, hn', he⟩ := me_at (cA := G.2.2.1) (ρ := ρ) (M := M) ((hmem (s, i)).mpr ⟨hi, ht⟩)
  rw [me_ce_o hs] at he
  have hce : me_ce G.2.2.1 ρ (me_sP M s i k x) (s, i) = .inr (ci, (me_fl ρ M ci s i).set k (va_rf (av_r ρ x))) := by rw [me_ce_o hs, me_fl_setP hfk]
  have hput : (T k).2.2.2 = false → W p l e R s' m args below meth c H locs cells slots Q (F0 m pc ls (va_rf (av_r ρ x) :: .ref (ρ s i) :: st.map (av_tv ρ))) := fun hf2 => va_put hF.1 hF.2.1 hF.2.2.2.2.2.2.1 h2 ty h4 h5 hF.2.2.2.1 (gk_K hF.2.2.2.2.2.2.2.2.1) hP hD hS n he h1 k hk (hF.2.2.2.2.2.2.1 _ hl) (fun _ h9 => h9) hf2 (h4 k hk) (hn _) (hfit _) (by rw [me_fl_len, h3]; exact hk) hd (fun H1 locs1 hP1 hD1 hS1 => kW H1 locs1 (me_putP hxo hnd hmem hok hsx hn' hce hP1 hD1) hS1)
  rcases hfin with hfin | hfin
  · exact hput hfin
  · cases hf2 : (T k).2.2.2 with
    | false => exact hput hf2
    | true => exact va_putF hF.1 hF.2.1 hF.2.2.2.2.2.2.1 h2 ty h4 h5 hF.2.2.2.1 (gk_K hF.2.2.2.2.2.2.2.2.1) hP hD hS n he h1 k hk (hF.2.2.2.2.2.2.1 _ hl) (fun _ h9 => h9) hf2 (hF.2.2.2.2.1.trans hfin.1) hfin.2 (h4 k hk) (hn _) (hfit _) (by rw [me_fl_len, h3]; exact hk) hd (fun H1 locs1 hP1 hD1 hS1 => kW H1 locs1 (me_putP hxo hnd hmem hok hsx hn' hce hP1 hD1) hS1)
theorem jw_iald {s i : Nat} {x : Int32} (hd : decode Y.1 pc = .ok (.iaload, 1)) (hs : sk s = .inr .int) (ht : st_is s = false) (hin : vp_in x (me_L M s i)) (kk : jw G Y d c0 s0 M (pc + 1) lc (.inl (me_I M s i x.toNatClampNeg) :: st) r M') : jw G Y d c0 s0 M pc lc (.inl x :: .inr (some (s, i)) :: st) r M' := by
  refine jw_mem ?_ (fun _ _ h v hv => by rcases List.mem_cons.mp hv with rfl | hv; exact av_ok_i; exact h v (List.mem_cons_of_mem _ (List.mem_cons_of_mem _ hv))) kk
  intro p l e R s' m args below meth c H locs cells slots Q ls ρ hF hR hS hst kW
  obtain ⟨ord, hnd, hmem, hP, hD, hok, hsx⟩ := hR
  have hi : i < me_N M s := hst _ (List.mem_cons_of_mem _ List.mem_cons_self) (s, i) rfl
  obtain ⟨n, hn', he⟩ := me_at (cA := G.2.2.1) (ρ := ρ) (M := M) ((hmem (s, i)).mpr ⟨hi, ht⟩)
  rw [me_ce_i hs] at he
  obtain ⟨t0, ht0⟩ := gk_ar hF.2.2.2.2.2.2.2.2.1 s .int (by rw [ar_ty, hs])
  exact va_iald hF.1 hF.2.1 (gk_K hF.2.2.2.2.2.2.2.2.1) hP n t0 he ht0 hin hd kW
theorem jw_iast {s i : Nat} {x y : Int32} (hd : decode Y.1 pc = .ok (.iastore, 1)) (hs : sk s = .inr .int) (ht : st_is s = false) (hin : vp_in x (me_L M s i)) (kk : jw G Y d c0 s0 (me_sI M s i x.toNatClampNeg y) (pc + 1) lc st r M') : jw G Y d c0 s0 M pc lc (.inl y :: .inl x :: .inr (some (s, i)) :: st) r M' := by
  refine jw_wr (M2 := me_sI M s i x.toNatClampNeg y) rfl rfl rfl ?_ (fun v hv => List.mem_cons_of_mem _ (List.mem_cons_of_mem _ (List.mem_cons_of_mem _ hv))) kk
  intro p l e R s' m args below meth c H locs cells slots Q ls ρ hF hR hS hst kW
  obtain ⟨ord, hnd, hmem, hP, hD, hok, hsx⟩ := hR
  have hi : i < me_N M s := hst _ (List.mem_cons_of_mem _ (List.mem_cons_of_mem _ List.mem_cons_self)) (s, i) rfl
  obtain ⟨n, hn', he⟩ := me_at (cA := G.2.2.1) (ρ := ρ) (M := M) ((hmem (s, i)).mpr ⟨hi, ht⟩)
  rw [me_ce_i hs] at he
  obtain ⟨t0, ht0⟩ := gk_ar hF.2.2.2.2.2.2.2.2.1 s .int (by rw [ar_ty, hs])
  have hce : me_ce G.2.2.1 ρ (me_sI M s i x.toNatClampNeg y) (s, i) = .inl (G.2.2.1 s, me_L M s i, .inl (upd (me_I M s i) x.toNatClampNeg y)) := by
    rw [me_ce_i hs]
    have : me_I (me_sI M s i x.toNatClampNeg y) s i = upd (me_I M s i) x.toNatClampNeg y := funext fun j => by
      rw [me_I_sI]; unfold upd; simp
    rw [this]; rfl
  exact va_iast hF.1 hF.2.1 (gk_K hF.2.2.2.2.2.2.2.2.1) hP hD hS n t0 he ht0 hin hd (fun H1 locs1 hP1 hD1 hS1 => kW H1 locs1 (me_putI hnd hmem hok hsx hn' hce hP1 hD1) hS1)
theorem jw_aald {s i : Nat} {x : Int32} {C : String} (hd : decode Y.1 pc = .ok (.aaload, 1)) (hs : sk s = .inr (.object C)) (ht : st_is s = false) (hin : vp_in x (me_L M s i)) (kk : jw G Y d c0 s0 M (pc + 1) lc (.inr (me_P M s i x.toNatClampNeg) :: st) r M') : jw G Y d c0 s0 M pc lc (.inl x :: .inr (some (s, i)) :: st) r M' := by
  refine jw_mem ?_ (fun hq _ h v hv => by rcases List.mem_cons.mp hv with rfl | hv; exact av_ok_r (hq s i _ (h _ (List.mem_cons_of_mem _ List.mem_cons_self) (s, i) rfl)); exact h v (List.mem_cons_of_mem _ (List.mem_cons_of_mem _ hv))) kk
  intro p l e R s' m args below meth c H locs cells slots Q ls ρ hF hR hS hst kW
  obtain ⟨ord, hnd, hmem, hP, hD, hok, hsx⟩ := hR
  have hi : i < me_N M s := hst _ (List.mem_cons_of_mem _ List.mem_cons_self) (s, i) rfl
  obtain ⟨n, hn', he⟩ := me_at (cA := G.2.2.1) (ρ := ρ) (M := M) ((hmem (s, i)).mpr ⟨hi, ht⟩)
  rw [me_ce_q hs] at he
  obtain ⟨t0, ht0⟩ := gk_ar hF.2.2.2.2.2.2.2.2.1 s (.object C) (by rw [ar_ty, hs])
  exact va_aldq hF.1 hF.2.1 (gk_K hF.2.2.2.2.2.2.2.2.1) hP n t0 he ht0 hin hd kW
theorem jw_aast {s i s2 i2 ci : Nat} {x : Int32} {C : String} {T : u_T} {N : Nat} {ty : Nat → FieldType} (hcf : cf_ok ci C T N ty) (hd : decode Y.1 pc = .ok (.aastore, 1)) (hs : sk s = .inr (.object C)) (ht : st_is s = false) (hs2 : sk s2 = .inl ci) (ht2 : st_is s2 = false) (hin : vp_in x (me_L M s i)) (kk : jw G Y d c0 s0 (me_sP M s i x.toNatClampNeg (some (s2, i2))) (pc + 1) lc st r M') : jw G Y d c0 s0 M pc lc (.inr (some (s2, i2)) :: .inl x :: .inr (some (s, i)) :: st) r M' := by
  obtain ⟨h1, h2, h3, h4, h5⟩ := hcf
  refine jw_wr (M2 := me_sP M s i x.toNatClampNeg (some (s2, i2))) rfl rfl rfl ?_ (fun v hv => List.mem_cons_of_mem _ (List.mem_cons_of_mem _ (List.mem_cons_of_mem _ hv))) kk
  intro p l e R s' m args below meth c H locs cells slots Q ls ρ hF hR hS hst kW
  obtain ⟨ord, hnd, hmem, hP, hD, hok, hsx⟩ := hR
  have hi : i < me_N M s := hst _ (List.mem_cons_of_mem _ (List.mem_cons_of_mem _ List.mem_cons_self)) (s, i) rfl
  have hi2 : i2 < me_N M s2 := hst _ List.mem_cons_self (s2, i2) rfl
  have hxo : av_okr M (some (s2, i2)) := fun a e => by cases e; exact hi2
  obtain ⟨n, hn', he⟩ := me_at (cA := G.2.2.1) (ρ := ρ) (M := M) ((hmem (s, i)).mpr ⟨hi, ht⟩)
  obtain ⟨n2, hn2, he2⟩ := me_at (cA := G.2.2.1) (ρ := ρ) (M := M) ((hmem (s2, i2)).mpr ⟨hi2, ht2⟩)
  rw [me_ce_q hs] at he
  rw [me_ce_o hs2] at he2
  obtain ⟨t0, ht0⟩ := gk_ar hF.2.2.2.2.2.2.2.2.1 s (.object C) (by rw [ar_ty, hs])
  have hce : me_ce G.2.2.1 ρ (me_sP M s i x.toNatClampNeg (some (s2, i2))) (s, i) = .inl (G.2.2.1 s, me_L M s i, .inr (.inr (.inr (.inr (va_up (fun k => av_r ρ (me_P M s i k)) x.toNatClampNeg (some (ρ s2 i2))))))) := by
    rw [me_ce_q hs]
    have : (fun k => av_r ρ (me_P (me_sP M s i x.toNatClampNeg (some (s2, i2))) s i k)) = va_up (fun k => av_r ρ (me_P M s i k)) x.toNatClampNeg (some (ρ s2 i2)) := funext fun j => by
      rw [me_P_sP]; unfold va_up; by_cases hj : j = x.toNatClampNeg <;> simp [hj, av_r]
    rw [this]; rfl
  exact va_astq hF.1 hF.2.1 (gk_K hF.2.2.2.2.2.2.2.2.1) hP hD hS n t0 n2 ci (r := (C, T, N)) he ht0 he2 h1 hin hd (fun H1 locs1 hP1 hD1 hS1 => kW H1 locs1 (me_putP hxo hnd hmem hok hsx hn' hce hP1 hD1) hS1)
theorem jw_alen {s i : Nat} {ty : FieldType} (v : Int32) (hd : decode Y.1 pc = .ok (.arraylength, 1)) (hs : ar_ty s = some ty) (ht : st_is s = false) (hv : Int32.ofNat (me_L M s i) = v) (kk : jw G Y d c0 s0 M (pc + 1) lc (.inl v :: st) r M') : jw G Y d c0 s0 M pc lc (.inr (some (s, i)) :: st) r M' := by
  refine jw_mem ?_ (fun _ _ h v hv => by rcases List.mem_cons.mp hv with rfl | hv; exact av_ok_i; exact h v (List.mem_cons_of_mem _ hv)) kk
  intro p l e R s' m args below meth c H locs cells slots Q ls ρ hF hR hS hst kW
  obtain ⟨ord, hnd, hmem, hP, hD, hok, hsx⟩ := hR
  have hi : i < me_N M s := hst _ List.mem_cons_self (s, i) rfl
  obtain ⟨n, hn', he⟩ := me_at (cA := G.2.2.1) (ρ := ρ) (M := M) ((hmem (s, i)).mpr ⟨hi, ht⟩)
  obtain ⟨t0, ht0⟩ := gk_ar hF.2.2.2.2.2.2.2.2.1 s ty hs
  have h1 : ∃ x : vp_A, me_ce G.2.2.1 ρ M (s, i) = .inl (G.2.2.1 s, x) ∧ x.1 = me_L M s i := by
    cases hsk : sk s with
    | inl ci => rw [ar_ty, hsk] at hs; cases hs
    | inr o => cases o <;> (simp only [me_ce, hsk]; exact ⟨_, rfl, rfl⟩)
  obtain ⟨x, hx1, hx2⟩ := h1
  rw [hx1] at he
  exact va_alen hF.1 hF.2.1 (gk_K hF.2.2.2.2.2.2.2.2.1) hP n t0 he ht0 (by rw [hx2]; exact hv) hd kW
theorem me_ce_z {cA : Nat → ClassId} {ρ : Rh} {M : Me} {s i : Nat} (hs : sk s = .inr .boolean) : me_ce cA ρ M (s, i) = .inl (cA s, me_L M s i, .inl (me_I M s i)) := by simp only [me_ce, hs]
theorem jw_zald {s i : Nat} {x : Int32} (hd : decode Y.1 pc = .ok (.baload, 1)) (hs : sk s = .inr .boolean) (ht : st_is s = false) (hin : vp_in x (me_L M s i)) (kk : jw G Y d c0 s0 M (pc + 1) lc (.inl (me_I M s i x.toNatClampNeg) :: st) r M') : jw G Y d c0 s0 M pc lc (.inl x :: .inr (some (s, i)) :: st) r M' := by
  refine jw_mem ?_ (fun _ _ h v hv => by rcases List.mem_cons.mp hv with rfl | hv; exact av_ok_i; exact h v (List.mem_cons_of_mem _ (List.mem_cons_of_mem _ hv))) kk
  intro p l e R s' m args below meth c H locs cells slots Q ls ρ hF hR hS hst kW
  obtain ⟨ord, hnd, hmem, hP, hD, hok, hsx⟩ := hR
  have hi : i < me_N M s := hst _ (List.mem_cons_of_mem _ List.mem_cons_self) (s, i) rfl
  obtain ⟨n, hn', he⟩ := me_at (cA := G.2.2.1) (ρ := ρ) (M := M) ((hmem (s, i)).mpr ⟨hi, ht⟩)
  rw [me_ce_z hs] at he
  obtain ⟨t0, ht0⟩ := gk_ar hF.2.2.2.2.2.2.2.2.1 s .boolean (by rw [ar_ty, hs])
  exact va_zald hF.1 hF.2.1 (gk_K hF.2.2.2.2.2.2.2.2.1) hP n t0 he ht0 hin hd kW
theorem jw_zast {s i : Nat} {x y : Int32} (hd : decode Y.1 pc = .ok (.bastore, 1)) (hs : sk s = .inr .boolean) (ht : st_is s = false) (hin : vp_in x (me_L M s i)) (hy : y = 0 ∨ y = 1) (kk : jw G Y d c0 s0 (me_sI M s i x.toNatClampNeg y) (pc + 1) lc st r M') : jw G Y d c0 s0 M pc lc (.inl y :: .inl x :: .inr (some (s, i)) :: st) r M' := by
  refine jw_wr (M2 := me_sI M s i x.toNatClampNeg y) rfl rfl rfl ?_ (fun v hv => List.mem_cons_of_mem _ (List.mem_cons_of_mem _ (List.mem_cons_of_mem _ hv))) kk
  intro p l e R s' m args below meth c H locs cells slots Q ls ρ hF hR hS hst kW
  obtain ⟨ord, hnd, hmem, hP, hD, hok, hsx⟩ := hR
  have hi : i < me_N M s := hst _ (List.mem_cons_of_mem _ (List.mem_cons_of_mem _ List.mem_cons_self)) (s, i) rfl
  obtain ⟨n, hn', he⟩ := me_at (cA := G.2.2.1) (ρ := ρ) (M := M) ((hmem (s, i)).mpr ⟨hi, ht⟩)
  rw [me_ce_z hs] at he
  obtain ⟨t0, ht0⟩ := gk_ar hF.2.2.2.2.2.2.2.2.1 s .boolean (by rw [ar_ty, hs])
  have hyn : vp_nar .boolean y = y := by rcases hy with rfl | rfl <;> rfl
  have hce : me_ce G.2.2.1 ρ (me_sI M s i x.toNatClampNeg y) (s, i) = .inl (G.2.2.1 s, me_L M s i, .inl (upd (me_I M s i) x.toNatClampNeg (vp_nar .boolean y))) := by
    rw [me_ce_z hs, hyn]
    have : me_I (me_sI M s i x.toNatClampNeg y) s i = upd (me_I M s i) x.toNatClampNeg y := funext fun j => by
      rw [me_I_sI]; unfold upd; simp
    rw [this]; rfl
  exact va_zast hF.1 hF.2.1 (gk_K hF.2.2.2.2.2.2.2.2.1) hP hD hS n t0 he ht0 hin hd (fun H1 locs1 hP1 hD1 hS1 => kW H1 locs1 (me_putI hnd hmem hok hsx hn' hce hP1 hD1) hS1)
theorem st_all : ∀ q ∈ st_l, st_is q.1 = true := by decide
theorem jw_gets {index : Nat} {q : Nat × String × List Int32} (hq : q ∈ st_l) (hl : Cond.fieldLink Y.2.2.1 index "PollYard" q.2.1 "[I" ∈ TS) (hd : decode Y.1 pc = .ok (.getstatic index, 3)) (kk : jw G Y d c0 s0 M (pc + 3) lc (.inr (some (q.1, 0)) :: st) r M') : jw G Y d c0 s0 M pc lc st r M' := by
  refine jw_mem ?_ (fun _ h1 h v hv => by
    rcases List.mem_cons.mp hv with rfl | hv
    · intro a e; cases e; rw [h1 _ (st_all q hq)]; exact Nat.zero_lt_one
    · exact h v hv) kk
  intro p l e R s' m args below meth c H locs cells slots Q ls ρ hF hR hS hst kW
  have h2 := (hR.choose_spec.2.2.2.2.2 q.1 (st_all q hq)).2
  refine va_gets (v := .ref (ρ q.1 0)) hF.1 hF.2.1 (A := fun a => G.1 ≤ a) ?_ hS hF.2.2.2.1 (hF.2.2.2.2.2.2.1 _ hl) (fun _ h9 => h9) hd kW
  rw [h2]; exact (hF.2.2.2.2.2.2.2.2.1.2.2.2.2.1 q hq).1
theorem jw_getsN {index : Nat} {q : Nat × String × List Int32} {host : String} (hq : q ∈ st_l) (hl : Cond.fieldLinkNest Y.2.2.1 index "PollYard" q.2.1 "[I" host ∈ nest_w) (hd : decode Y.1 pc = .ok (.getstatic index, 3)) (kk : jw G Y d c0 s0 M (pc + 3) lc (.inr (some (q.1, 0)) :: st) r M') : jw G Y d c0 s0 M pc lc st r M' := by
  refine jw_mem ?_ (fun _ h1 h v hv => by
    rcases List.mem_cons.mp hv with rfl | hv
    · intro a e; cases e; rw [h1 _ (st_all q hq)]; exact Nat.zero_lt_one
    · exact h v hv) kk
  intro p l e R s' m args below meth c H locs cells slots Q ls ρ hF hR hS hst kW
  have h2 := (hR.choose_spec.2.2.2.2.2 q.1 (st_all q hq)).2
  refine va_getsN (v := .ref (ρ q.1 0)) hF.1 hF.2.1 (A := fun a => G.1 ≤ a) ?_ hS hF.2.2.2.1 (va_Nw.use rfl (hF.2.2.2.2.2.2.2.2.1.2.2.1 _ hl)) (fun _ h9 => h9) hd kW
  rw [h2]; exact (hF.2.2.2.2.2.2.2.2.1.2.2.2.2.1 q hq).1
theorem jw_ialdS {q : Nat × String × List Int32} {x : Int32} (hq : q ∈ st_l) (hd : decode Y.1 pc = .ok (.iaload, 1)) (hin : vp_in x 16) (kk : jw G Y d c0 s0 M (pc + 1) lc (.inl (q.2.2.getD x.toNatClampNeg 0) :: st) r M') : jw G Y d c0 s0 M pc lc (.inl x :: .inr (some (q.1, 0)) :: st) r M' := by
  refine jw_mem ?_ (fun _ _ h v hv => by rcases List.mem_cons.mp hv with rfl | hv; exact av_ok_i; exact h v (List.mem_cons_of_mem _ (List.mem_cons_of_mem _ hv))) kk
  intro p l e R s' m args below meth c H locs cells slots Q ls ρ hF hR hS hst kW
  have h2 := (hR.choose_spec.2.2.2.2.2 q.1 (st_all q hq)).2
  have hT := (hF.2.2.2.2.2.2.2.2.1.2.2.2.2.1 q hq).2
  rw [← h2] at hT
  exact va_ti hF.1 hF.2.1 hT hS hin rfl hd kW
theorem jw_sld {x : Int32} (hd : decode Y.1 pc = .ok (.iaload, 1)) (hin : vp_in x G.2.2.2.2.2.1) (kk : jw G Y d c0 s0 M (pc + 1) lc (.inl (G.2.2.2.2.2.2 x.toNatClampNeg) :: st) r M') : jw G Y d c0 s0 M pc lc (.inl x :: .inr (some (25, 0)) :: st) r M' := by
  refine jw_mem ?_ (fun _ _ h v hv => by rcases List.mem_cons.mp hv with rfl | hv; exact av_ok_i; exact h v (List.mem_cons_of_mem _ (List.mem_cons_of_mem _ hv))) kk
  intro p l e R s' m args below meth c H locs cells slots Q ls ρ hF hR hS hst kW
  have h2 := (hR.choose_spec.2.2.2.2.2 25 rfl).2
  have hg := hF.2.2.2.2.2.2.2.2.1.2.2.2.2.2
  rw [← h2] at hg
  exact va_sld (H0 := s'.heap) hF.1 hF.2.1 hg.1 (Nat.lt_of_lt_of_le hg.2 hF.2.2.2.2.2.2.2.2.2) (Nat.not_le.mpr hg.2) hS hin hd kW
theorem jw_slen (hd : decode Y.1 pc = .ok (.arraylength, 1)) (kk : jw G Y d c0 s0 M (pc + 1) lc (.inl (Int32.ofNat G.2.2.2.2.2.1) :: st) r M') : jw G Y d c0 s0 M pc lc (.inr (some (25, 0)) :: st) r M' := by
  refine jw_mem ?_ (fun _ _ h v hv => by rcases List.mem_cons.mp hv with rfl | hv; exact av_ok_i; exact h v (List.mem_cons_of_mem _ hv)) kk
  intro p l e R s' m args below meth c H locs cells slots Q ls ρ hF hR hS hst kW
  have h2 := (hR.choose_spec.2.2.2.2.2 25 rfl).2
  have hg := hF.2.2.2.2.2.2.2.2.1.2.2.2.2.2
  rw [← h2] at hg
  exact va_slen (H0 := s'.heap) hF.1 hF.2.1 hg.1 (Nat.lt_of_lt_of_le hg.2 hF.2.2.2.2.2.2.2.2.2) (Nat.not_le.mpr hg.2) hS hd kW
end RowsB
