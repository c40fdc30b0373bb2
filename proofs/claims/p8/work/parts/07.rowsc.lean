theorem gk_cA {G : Gt} {U : State} {H : Heap} (h : gk_ok G U H) {s : Nat} {ty : FieldType} (hs : ar_ty s = some ty) {cA : ClassId} (hR : va_RA U cA ty) : cA = G.2.2.1 s := by
  obtain ⟨t0, ht0⟩ := gk_ar h s ty hs
  have h2 := ((gk_K h).2 t0 _ ht0).2
  cases ty with
  | object C =>
    obtain ⟨_, _, _, _, _, e1⟩ := hR
    obtain ⟨_, _, _, _, _, e2⟩ := h2
    exact Option.some.inj (e1.symm.trans e2)
  | _ => exact Option.some.inj (Eq.trans (Eq.symm hR) h2)
section RowsC
variable {G : Gt} {Y : Yt} {d c0 s0 : Nat} {M M' : Me} {pc : Nat} {lc : List (Option AV)} {st : List AV} {r : Option AV}
theorem jw_mk {pc' s len sl : Nat} {st0 : List AV} (hst0 : ∀ v ∈ st, v ∈ st0)
    (h : ∀ {p : Program} {l : Launch} {e : Env} {R : Room} {s' : State} {m : MethodId} {args : Array Value} {below : List Frame} {meth : Method} {c : Code} {H : Heap} {locs : List Loc} {cells slots : Nat} {Q : State → Prop} {ls : Array Slot} {ρ : Rh}, fr_ok G Y p s' m args meth c → me_rl G ρ M H → va_S (fun q => G.1 ≤ q) s'.heap H locs → cells + 1 ≤ R.cells → slots + sl ≤ R.slots → (∀ (q : Nat) (H1 : Heap), me_rl G (rh_up ρ s (me_N M s) q) (me_nw M s len sl) H1 → va_S (fun q => G.1 ≤ q) s'.heap H1 locs → W p l e R s' m args below meth c H1 locs (cells + 1) (slots + sl) Q (F0 m pc' ls (.ref q :: st.map (av_tv ρ)))) → W p l e R s' m args below meth c H locs cells slots Q (F0 m pc ls (st0.map (av_tv ρ))))
    (kk : jw G Y d c0 s0 (me_nw M s len sl) pc' lc (.inr (some (s, me_N M s)) :: st) r M') : jw G Y d c0 s0 M pc lc st0 r M' := by
  have k1 := kk.1
  rw [me_C_nw, me_S_nw] at k1
  refine ⟨⟨by omega, by omega⟩, fun p l e s' m args below meth c ρe ne ρ H locs cells slots ls hF hR hS ha hn hc hs hl hst => ?_⟩
  refine h hF hR hS (show cells + 1 ≤ me_C M' - c0 by omega) (show slots + sl ≤ me_S M' - s0 by omega) (fun q H1 hR1 hS1 => ?_)
  have he : Value.ref q :: st.map (av_tv ρ) = ((.inr (some (s, me_N M s)) : AV) :: st).map (av_tv (rh_up ρ s (me_N M s) q)) := by
    rw [List.map_cons, av_map_eq (M := M) (ρ := ρ) (fun v hv => hst v (hst0 v hv)) rh_up_eq]
    congr 1
    show Value.ref q = Value.ref (rh_up ρ s (me_N M s) q s (me_N M s))
    simp [rh_up]
  rw [he]
  refine kk.2 p l e s' m args below meth c ρe ne _ H1 locs (cells + 1) (slots + sl) ls hF hR1 hS1 (fun a b hb => (rh_up_eq (M := M) a b (Nat.lt_of_lt_of_le hb (hn a))).trans (ha a b hb)) (fun a => Nat.le_trans (hn a) (me_N_le_nw M s len sl a)) (by rw [me_C_nw]; omega) (by rw [me_S_nw]; omega) (lc_mono hl (me_N_le_nw M s len sl) rh_up_eq) ?_
  intro v hv
  rcases List.mem_cons.mp hv with rfl | hv
  · intro a e
    cases e
    rw [me_N_nw, if_pos rfl]
    exact Nat.lt_succ_self _
  · exact av_ok_mono (me_N_le_nw M s len sl) (hst v (hst0 v hv))
theorem jw_new {s index ci : Nat} {C : String} {T : u_T} {N : Nat} {ty : Nat → FieldType} (hcf : cf_ok ci C T N ty) (hdf : ∀ j, j < N → defaultValue (ty j) = if fk ci j = true then .null else .int 0) (hcl : Cond.classLink Y.2.2.1 index C ∈ TS) (hinst : Cond.instantiable C N ∈ TS) (hini : Cond.initialized C ∈ TS) (hd : decode Y.1 pc = .ok (.new index, 3)) (hs : sk s = .inl ci) (ht : st_is s = false)
    (kk : jw G Y d c0 s0 (me_nw M s 0 N) (pc + 3) lc (.inr (some (s, me_N M s)) :: st) r M') : jw G Y d c0 s0 M pc lc st r M' := by
  obtain ⟨h1, h2, h3, h4, h5⟩ := hcf
  refine jw_mk (fun v hv => hv) ?_ kk
  intro p l e R s' m args below meth c H locs cells slots Q ls ρ hF hR hS hc1 hs1 kW
  obtain ⟨ord, hnd, hmem, hP, hD, hok, hsx⟩ := hR
  have hts := hF.2.2.2.2.2.2.1
  refine va_new (fs := (List.range (nf ci)).map (fun k => if fk ci k = true then Value.null else .int 0)) hF.1 hF.2.1 hts h2 ty h4 hF.2.2.2.1 (hts _ hcl) (hts _ hinst) (hts _ hini) (gk_K hF.2.2.2.2.2.2.2.2.1) hP hD hS (fun q hq => Nat.le_trans hF.2.2.2.2.2.2.2.2.2 hq) h1 ?_ hc1 hs1 hd (fun q H1 hP1 hD1 hS1 => kW q H1 (me_new ht hnd hmem hok hsx ?_ hP1 hD1) hS1)
  · intro j hj
    rw [hdf j hj]
    simp [vp_V, h3, hj]
  · rw [me_ce_o hs]
    unfold me_fl
    congr 2
    apply List.map_congr_left
    intro k _
    rw [me_P_nw, me_I_nw]
    simp [av_r, va_rf]
theorem jw_newI {s n : Nat} {x : Int32} (hcl : Cond.arrayClass .int ∈ TS) (hd : decode Y.1 pc = .ok (.newarray .int, 2)) (hs : sk s = .inr .int) (ht : st_is s = false) (hx : ¬ x < 0) (hn : x.toNatClampNeg = n) (hb : n ≤ 1000000)
    (kk : jw G Y d c0 s0 (me_nw M s n n) (pc + 2) lc (.inr (some (s, me_N M s)) :: st) r M') : jw G Y d c0 s0 M pc lc (.inl x :: st) r M' := by
  refine jw_mk (fun v hv => List.mem_cons_of_mem _ hv) ?_ kk
  intro p l e R s' m args below meth c H locs cells slots Q ls ρ hF hR hS hc1 hs1 kW
  obtain ⟨ord, hnd, hmem, hP, hD, hok, hsx⟩ := hR
  have hts := hF.2.2.2.2.2.2.1
  have hgk := hF.2.2.2.2.2.2.2.2.1
  refine va_newa (atype := .int) (ty := .int) (a0 := (n, .inl (fun _ => 0))) hF.1 hF.2.1 (hts _ hcl) rfl (gk_K hgk) hP hD hS (fun q hq => Nat.le_trans hF.2.2.2.2.2.2.2.2.2 hq) (fun cA => rfl) hx hn (by show n * 4 ≤ 536870912; omega) hc1 hs1 hd (fun q cA H1 hK1 hP1 hD1 hS1 => ?_)
  have hcA : cA = G.2.2.1 s := gk_cA hgk (ty := .int) (by rw [ar_ty, hs]) ((hK1.2 G.2.2.2.1.length (cA, .int) (by simp)).2)
  subst hcA
  refine kW q H1 (me_new ht hnd hmem hok hsx ?_ hP1 hD1) hS1
  rw [me_ce_i hs]
  have h1 : me_L (me_nw M s n n) s (me_N M s) = n := by rw [me_L_nw, if_pos ⟨rfl, rfl⟩]
  have h2 : me_I (me_nw M s n n) s (me_N M s) = fun _ => 0 := funext fun j => by rw [me_I_nw, if_pos ⟨rfl, rfl⟩]
  rw [h1, h2]
theorem jw_newZ {s n : Nat} {x : Int32} (hcl : Cond.arrayClass .boolean ∈ TS) (hd : decode Y.1 pc = .ok (.newarray .boolean, 2)) (hs : sk s = .inr .boolean) (ht : st_is s = false) (hx : ¬ x < 0) (hn : x.toNatClampNeg = n) (hb : n ≤ 1000000)
    (kk : jw G Y d c0 s0 (me_nw M s n n) (pc + 2) lc (.inr (some (s, me_N M s)) :: st) r M') : jw G Y d c0 s0 M pc lc (.inl x :: st) r M' := by
  refine jw_mk (fun v hv => List.mem_cons_of_mem _ hv) ?_ kk
  intro p l e R s' m args below meth c H locs cells slots Q ls ρ hF hR hS hc1 hs1 kW
  obtain ⟨ord, hnd, hmem, hP, hD, hok, hsx⟩ := hR
  have hts := hF.2.2.2.2.2.2.1
  have hgk := hF.2.2.2.2.2.2.2.2.1
  refine va_newa (atype := .boolean) (ty := .boolean) (a0 := (n, .inl (fun _ => 0))) hF.1 hF.2.1 (hts _ hcl) rfl (gk_K hgk) hP hD hS (fun q hq => Nat.le_trans hF.2.2.2.2.2.2.2.2.2 hq) (fun cA => rfl) hx hn (by show n * 1 ≤ 536870912; omega) hc1 hs1 hd (fun q cA H1 hK1 hP1 hD1 hS1 => ?_)
  have hcA : cA = G.2.2.1 s := gk_cA hgk (ty := .boolean) (by rw [ar_ty, hs]) ((hK1.2 G.2.2.2.1.length (cA, .boolean) (by simp)).2)
  subst hcA
  refine kW q H1 (me_new ht hnd hmem hok hsx ?_ hP1 hD1) hS1
  rw [me_ce_z hs]
  have h1 : me_L (me_nw M s n n) s (me_N M s) = n := by rw [me_L_nw, if_pos ⟨rfl, rfl⟩]
  have h2 : me_I (me_nw M s n n) s (me_N M s) = fun _ => 0 := funext fun j => by rw [me_I_nw, if_pos ⟨rfl, rfl⟩]
  rw [h1, h2]
theorem jw_newQ {s n index : Nat} {x : Int32} {C : String} (hcl : Cond.classLink Y.2.2.1 index C ∈ TS) (hao : ∀ U H, gk_ok G U H → va_AO C U) (hd : decode Y.1 pc = .ok (.anewarray index, 3)) (hs : sk s = .inr (.object C)) (ht : st_is s = false) (hx : ¬ x < 0) (hn : x.toNatClampNeg = n) (hb : n ≤ 1000000)
    (kk : jw G Y d c0 s0 (me_nw M s n n) (pc + 3) lc (.inr (some (s, me_N M s)) :: st) r M') : jw G Y d c0 s0 M pc lc (.inl x :: st) r M' := by
  refine jw_mk (fun v hv => List.mem_cons_of_mem _ hv) ?_ kk
  intro p l e R s' m args below meth c H locs cells slots Q ls ρ hF hR hS hc1 hs1 kW
  obtain ⟨ord, hnd, hmem, hP, hD, hok, hsx⟩ := hR
  have hts := hF.2.2.2.2.2.2.1
  have hgk := hF.2.2.2.2.2.2.2.2.1
  refine va_newq (C := C) hF.1 hF.2.1 hF.2.2.2.1 (hts _ hcl) (hao _ _ hgk) (gk_K hgk) hP hD hS (fun q hq => Nat.le_trans hF.2.2.2.2.2.2.2.2.2 hq) hx hn (by omega) hc1 hs1 hd (fun q cA H1 hK1 hP1 hD1 hS1 => ?_)
  have hcA : cA = G.2.2.1 s := gk_cA hgk (ty := .object C) (by rw [ar_ty, hs]) ((hK1.2 G.2.2.2.1.length (cA, .object C) (by simp)).2)
  subst hcA
  refine kW q H1 (me_new ht hnd hmem hok hsx ?_ hP1 hD1) hS1
  rw [me_ce_q hs]
  have h1 : me_L (me_nw M s n n) s (me_N M s) = n := by rw [me_L_nw, if_pos ⟨rfl, rfl⟩]
  have h2 : (fun k => av_r (rh_up ρ s (me_N M s) q) (me_P (me_nw M s n n) s (me_N M s) k)) = fun _ => none := funext fun j => by rw [me_P_nw, if_pos ⟨rfl, rfl⟩]; rfl
  rw [h1, h2]
end RowsC
def sp (G : Gt) (Y : Yt) (y : MethodName) (d : Nat) (as : List AV) (M : Me) (r : Option AV) (M' : Me) : Prop :=
  (me_C M ≤ me_C M' ∧ me_S M ≤ me_S M') ∧ ∀ (l : Launch) (ρ : Rh), (∀ v ∈ as, av_ok M v) →
    Met l y (Cond.code y Y.1 Y.2.1 Y.2.2.2.2 :: TS) (rm_of d (me_C M' - me_C M) (me_S M' - me_S M)) (va_Pc (as.map (av_tv ρ)) (fun U => gk_ok G U U.heap ∧ G.1 ≤ U.heap.size ∧ me_rl G ρ M U.heap)) (q_of G ρ (me_N M) r M') (me_C M' - me_C M) (me_S M' - me_S M) (fun q => G.1 ≤ q)
def mt_ok (Y : Yt) (y : MethodName) (n : Nat) : Prop := (Cond.code y Y.1 Y.2.1 Y.2.2.2.2 ∈ TS ∧ Cond.initialized y.cls ∈ TS) ∧ (y.cls ≠ "java/lang/invoke/MethodHandle" ∧ y.cls ≠ "java/lang/invoke/VarHandle" ∧ (parseMethodDescriptor y.desc).map (fun d => d.parameters.length) = some n) ∧ Y.2.1 ≤ 45 ∧ plainName y.cls = true ∧ Y.2.2.1 = y.cls ∧ Y.2.2.2.1 = y.name
theorem ts_good {w : Cond} (h : w ∈ TS) : w ∈ TS ∧ ((w.onTables && w.keeps) = true ∨ ∃ ty, w = .arrayClass ty) := ⟨h, good_of_word (ts_word h)⟩
theorem ts_goodIn {w : Cond} (h : w ∈ TS) : GoodIn TS (w :: TS) := fun x hx => by
  rcases List.mem_cons.mp hx with rfl | hx
  · exact ts_good h
  · exact ts_good hx
theorem lc_args {vs : List Value} (hc : ∀ v ∈ vs, v.category = 1) : ∀ (i j : Nat) (v : Value), vs[i]? = some v → (j + i, v) ∈ lv_args j vs := by
  induction vs with
  | nil => intro i j v h; simp at h
  | cons a vs ih =>
    intro i j v h
    unfold lv_args
    have ha : ¬ a.category = 2 := by rw [hc a List.mem_cons_self]; decide
    rw [if_neg ha]
    cases i with
    | zero =>
      simp at h; subst h
      exact List.mem_cons_self
    | succ i =>
      refine List.mem_cons_of_mem _ ?_
      have := ih (fun w hw => hc w (List.mem_cons_of_mem _ hw)) i (j + 1) v (by simpa using h)
      rwa [show j + 1 + i = j + (i + 1) by omega] at this
theorem lc_sl {vs : List Value} (hc : ∀ v ∈ vs, v.category = 1) : (lg_sl vs).length = vs.length := by
  induction vs with
  | nil => rfl
  | cons a vs ih =>
    have ha : ¬ a.category = 2 := by rw [hc a List.mem_cons_self]; decide
    have h1 := ih (fun w hw => hc w (List.mem_cons_of_mem _ hw))
    unfold lg_sl at h1 ⊢
    rw [List.flatMap_cons, if_neg ha, List.length_append, h1]
    simp; omega
theorem sp_of {G : Gt} {Y : Yt} {y : MethodName} {d n : Nat} {as : List AV} {M M' : Me} {r : Option AV} (lc : List (Option AV)) (hm : mt_ok Y y n) (hlen : as.length ≤ Y.2.1) (hlc : ∀ (i : Nat) (v : AV), lc[i]? = some (some v) → as[i]? = some v) (h : jw G Y d (me_C M) (me_S M) M 0 lc [] r M') : sp G Y y d as M r M' := by
  refine ⟨h.1, fun l ρ hok => ?_⟩
  refine Met.ofW (cc := Y.1) (maxL := Y.2.1) (ret := Y.2.2.2.2) hm.2.2.2.1 rfl ?_
  intro p e s m args below meth c s₁ B hml hv
  obtain ⟨rfl, hgk, hbs, hR⟩ := hv
  have hts := atoms_spec (ws := Cond.code y Y.1 Y.2.1 Y.2.2.2.2 :: TS) B.pre
  have hown : s.vm.findClass Y.2.2.1 = some m.cls := by rw [hm.2.2.2.2.1]; exact findClass_of_methodNamed B.named
  have hnm : meth.name = Y.2.2.2.1 := by rw [hm.2.2.2.2.2]; exact (name_of_methodNamed B.named B.method).1
  have hcat : ∀ v ∈ as.map (av_tv ρ), v.category = 1 := fun v hv => by
    obtain ⟨a, _, rfl⟩ := List.mem_map.mp hv
    exact av_cat ρ a
  have hl := lv_entry (as.map (av_tv ρ)) (n := Y.2.1) (by rw [lc_sl hcat, List.length_map]; exact hlen)
  rw [lg_entry_eq]
  generalize (lg_sl (as.map (av_tv ρ)) ++ List.replicate (Y.2.1 - (lg_sl (as.map (av_tv ρ))).length) Slot.unset).toArray = ls at hl ⊢
  refine h.2 p l e s m _ below meth c ρ (me_N M) ρ s.heap [] 0 0 ls ⟨B.exec, B.bytes, hml, hown, hnm, B.returns, fun w hw => hts w (List.mem_cons_of_mem _ hw), B.notSynchronized, hgk, hbs⟩ hR va_S.rf (fun _ _ _ => rfl) (fun _ => Nat.le_refl _) (Nat.zero_add _) (Nat.zero_add _) ⟨hl.1, hl.2.1, fun i v hv => ?_⟩ (fun v hv => by cases hv)
  have h1 := hlc i v hv
  refine ⟨?_, hok v (List.mem_of_getElem? h1)⟩
  have h2 := lc_args hcat i 0 (av_tv ρ v) (by rw [List.getElem?_map, h1]; rfl)
  rw [Nat.zero_add] at h2
  exact hl.2.2 _ h2
section RowsD
variable {G : Gt} {Y : Yt} {d c0 s0 : Nat} {M M1 M' : Me} {pc : Nat} {lc : List (Option AV)} {st stk : List AV} {r r1 : Option AV} {Yz : Yt} {z : MethodName} {as : List AV}
theorem av_rev (ρ : Rh) (as st : List AV) : (as.reverse ++ st).map (av_tv ρ) = (as.map (av_tv ρ)).reverse ++ st.map (av_tv ρ) := by
  rw [List.map_append, List.map_reverse]
theorem gk_blind {ρ : Rh} {vs : List Value} : FrameBlind (va_Pc vs (fun U => gk_ok G U U.heap ∧ G.1 ≤ U.heap.size ∧ me_rl G ρ M U.heap)) := by
  intro a U g mk q
  obtain ⟨q0, q1, q2, q3⟩ := q
  exact ⟨q0, gk_same (u := U) (U := U.calling g mk a) rfl q1, q2, q3⟩
theorem jw_ret_to {p : Program} {l : Launch} {e : Env} {s : State} {m : MethodId} {args : Array Value} {below : List Frame} {meth : Method} {c : Code} {ρe : Rh} {ne : Nat → Nat} {ρ : Rh} {H : Heap} {locs : List Loc} {cells slots : Nat} {ls : Array Slot}
    (hsp : sp G Yz z d as M r1 M1) (kk : jw G Y (d + 1) c0 s0 M1 (pc + 3) lc (r1.toList ++ st) r M')
    (hF : fr_ok G Y p s m args meth c) (hR : me_rl G ρ M H) (hS : va_S (fun q => G.1 ≤ q) s.heap H locs) (ha : ∀ a b, b < ne a → ρ a b = ρe a b) (hn : ∀ a, ne a ≤ me_N M a) (hc : cells + c0 = me_C M) (hs : slots + s0 = me_S M) (hl : lc_ok Y.2.1 ρ M lc ls) (hst : ∀ v ∈ st, av_ok M v) {a : Array Value}
    (hrun : va_Run p l e (rm_of (d + 1) (me_C M' - c0) (me_S M' - s0)) s m args below meth c H locs cells slots (me_C M1 - me_C M) (me_S M1 - me_S M) (F0 m pc ls (stk.map (av_tv ρ))) (st.map (av_tv ρ)) (q_of G ρ (me_N M) r1 M1 a) (fun q => G.1 ≤ q)) :
    W p l e (rm_of (d + 1) (me_C M' - c0) (me_S M' - s0)) s m args below meth c H locs cells slots (MQ below (q_of G ρe ne r M') args s (me_C M' - c0) (me_S M' - s0) (fun q => G.1 ≤ q)) (F0 m pc ls (stk.map (av_tv ρ))) := by
  intro T hT X
  obtain ⟨v, st₀, t, T', L, h0, X', hL, e1, e2, ⟨ρ', ho, hR', hag, hne, hok, hFf⟩, hgo⟩ := hrun T hT X
  have hv : v = r1.map (av_tv ρ') := Outcome.returned.inj ho
  subst hv
  have hsz := hsp.1
  have hS' : va_S (fun q => G.1 ≤ q) s.heap T'.heap (locs ++ L) := by
    refine ⟨?_, ?_, ?_⟩
    · rw [e1]; exact Nat.le_trans hS.1 (by rw [← h0]; exact hFf.1)
    · intro q hq hA
      rw [e1, hFf.2 q (by rw [h0]; exact Nat.lt_of_lt_of_le hq hS.1) hA, h0]
      exact hS.2.1 q hq hA
    · intro q hq
      rcases List.mem_append.mp hq with hq | hq
      · exact hS.2.2 q hq
      · exact hL q hq
  have hle : ∀ a, me_N M a ≤ me_N M1 a := hne
  have K := kk.2 p l e s m args below meth c ρe ne ρ' T'.heap (locs ++ L) (cells + (me_C M1 - me_C M)) (slots + (me_S M1 - me_S M)) ls hF (by rw [e1]; exact hR') hS' (fun a b hb => (hag a b (Nat.lt_of_lt_of_le hb (hn a))).trans (ha a b hb)) (fun a => Nat.le_trans (hn a) (hle a)) (by omega) (by omega) (lc_mono hl hle hag) (by
    intro v hv
    rcases List.mem_append.mp hv with hv | hv
    · exact hok v (by cases r1 with
        | none => cases hv
        | some w => rw [Option.toList_some, List.mem_singleton] at hv; rw [hv])
    · exact av_ok_mono hle (hst v hv))
  have hstk : (r1.toList ++ st).map (av_tv ρ') = (r1.map (av_tv ρ')).toList ++ st.map (av_tv ρ) := by
    rw [List.map_append, av_map_eq hst hag]
    cases r1 <;> rfl
  rw [hstk] at K
  obtain ⟨t2, a1, b1⟩ := K T' rfl X'
  exact ⟨t2, hgo t2 a1, b1⟩
theorem jw_calls (hsp : sp G Yz z d as M r1 M1) (kk : jw G Y (d + 1) c0 s0 M1 (pc + 3) lc (r1.toList ++ st) r M') : me_C M ≤ me_C M' ∧ me_S M ≤ me_S M' := ⟨Nat.le_trans hsp.1.1 kk.1.1, Nat.le_trans hsp.1.2 kk.1.2⟩
theorem jw_callB {R : Room} {s : State} {args : Array Value} {index n mc ms d' : Nat} {own : String} (hts : ∀ w ∈ TS, w.before args s = true) (hm : mt_ok Yz z n) (hl : Cond.methodLink own index z ∈ TS) (hR : R.frames = d' + 1 ∧ R.locals = 64 * (d' + 1)) : CallB R s args own index z Yz.1 Yz.2.1 Yz.2.2.2.2 (Cond.code z Yz.1 Yz.2.1 Yz.2.2.2.2 :: TS) (rm_of d' mc ms) mc ms n :=
  callB_of n hts (ts_goodIn hm.1.1) rfl rfl rfl (hts _ hm.1.2) (hts _ hl) hm.2.1 ⟨by rw [hR.1]; exact Nat.le_refl _, by rw [hR.2]; have := hm.2.2.1; show 8 + (Yz.2.1 + 11) + 64 * d' ≤ 64 * (d' + 1); omega⟩
theorem jw_callS {index n : Nat} (hsp : sp G Yz z d as M r1 M1) (hm : mt_ok Yz z n) (hl : Cond.methodLink Y.2.2.1 index z ∈ TS) (hst2 : Cond.static z ∈ TS) (hd : decode Y.1 pc = .ok (.invokestatic index, 3)) (hn : as.length = n) (hstk : stk = as.reverse ++ st) (hw : st.length ≤ 8)
    (kk : jw G Y (d + 1) c0 s0 M1 (pc + 3) lc (r1.toList ++ st) r M') : jw G Y (d + 1) c0 s0 M pc lc stk r M' := by
  refine ⟨jw_calls hsp kk, fun p l e s m args below meth c ρe ne ρ H locs cells slots ls hF hR hS ha hn' hc hs hlc hst => ?_⟩
  subst hstk
  have hts := hF.2.2.2.2.2.2.1
  have hst' : ∀ v ∈ st, av_ok M v := fun v hv => hst v (List.mem_append_right _ hv)
  have has : ∀ v ∈ as, av_ok M v := fun v hv => hst v (List.mem_append_left _ (List.mem_reverse.mpr hv))
  have k1 := kk.1
  have k2 := hsp.1
  refine jw_ret_to hsp kk hF hR hS ha hn' hc hs hlc hst' (a := (as.map (av_tv ρ)).toArray) ?_
  refine va_runS (As := as.map (av_tv ρ)) (rest := st.map (av_tv ρ)) ⟨hF.1, hF.2.1, hF.2.2.1, hF.2.2.2.1, hts⟩ (hsp.2 l ρ has) ⟨jw_callB hts hm hl ⟨rfl, rfl⟩, hts _ hst2⟩ ⟨gk_blind, fun U hU hW => ⟨rfl, ?_, ?_, ?_⟩⟩ rfl (by rw [List.length_map]; exact hn) hlc.1 (av_rev ρ as st) (lv_room ?_) hd ⟨?_, ?_⟩
  · exact gk_warm hF.2.2.2.2.2.2.2.2.1 hW (fun q hq => by rw [hU]; exact hS.2.1 q (Nat.lt_of_lt_of_le hq hF.2.2.2.2.2.2.2.2.2) (Nat.not_le.mpr hq)) 
  · rw [hU]; exact Nat.le_trans hF.2.2.2.2.2.2.2.2.2 hS.1
  · rw [hU]; exact hR
  · rw [List.map_map]
    have : (st.map ((fun v => v.category) ∘ av_tv ρ)) = st.map (fun _ => 1) := List.map_congr_left fun v _ => av_cat ρ v
    rw [this, List.map_const', List.sum_replicate_nat]; omega
  · show cells + (me_C M1 - me_C M) ≤ me_C M' - c0; omega
  · show slots + (me_S M1 - me_S M) ≤ me_S M' - s0; omega
theorem jw_callI {index n s1 i1 : Nat} {As : List AV} (hsp : sp G Yz z d (.inr (some (s1, i1)) :: As) M none M1) (hm : mt_ok Yz z n) (hrt : Yz.2.2.2.2 = none) (hnm : z.name = "<init>") (hl : Cond.methodLink Y.2.2.1 index z ∈ TS) (hin : Cond.instanceMethod z ∈ TS) (hd : decode Y.1 pc = .ok (.invokespecial index, 3)) (hn : As.length = n) (hstk : stk = As.reverse ++ .inr (some (s1, i1)) :: st) (hw : st.length ≤ 8)
    (kk : jw G Y (d + 1) c0 s0 M1 (pc + 3) lc st r M') : jw G Y (d + 1) c0 s0 M pc lc stk r M' := by
  refine ⟨jw_calls (r1 := none) hsp kk, fun p l e s m args below meth c ρe ne ρ H locs cells slots ls hF hR hS ha hn' hc hs hlc hst => ?_⟩
  subst hstk
  have hts := hF.2.2.2.2.2.2.1
  have hst' : ∀ v ∈ st, av_ok M v := fun v hv => hst v (List.mem_append_right _ (List.mem_cons_of_mem _ hv))
  have has : ∀ v ∈ (.inr (some (s1, i1)) : AV) :: As, av_ok M v := fun v hv => by
    rcases List.mem_cons.mp hv with rfl | hv
    · exact hst _ (List.mem_append_right _ List.mem_cons_self)
    · exact hst v (List.mem_append_left _ (List.mem_reverse.mpr hv))
  have k1 := kk.1
  have k2 := hsp.1
  have hcb := jw_callB (R := rm_of (d + 1) (me_C M' - c0) (me_S M' - s0)) (mc := me_C M1 - me_C M) (ms := me_S M1 - me_S M) hts hm hl ⟨rfl, rfl⟩
  have hM := hsp.2 l ρ has
  rw [hrt] at hcb hM
  refine jw_ret_to (r1 := none) hsp kk hF hR hS ha hn' hc hs hlc hst' (a := (((.inr (some (s1, i1)) : AV) :: As).map (av_tv ρ)).toArray) ?_
  refine va_runI (b := ρ s1 i1) (As := As.map (av_tv ρ)) (rest := st.map (av_tv ρ)) ⟨hF.1, hF.2.1, hF.2.2.1, hF.2.2.2.1, hts⟩ hM ⟨hcb, hnm, hts _ hin⟩ ⟨gk_blind, fun U hU hW => ⟨rfl, ?_, ?_, ?_⟩⟩ rfl (by rw [List.length_map]; exact hn) hlc.1 ?_ (lv_room ?_) hd ⟨?_, ?_⟩
  · exact gk_warm hF.2.2.2.2.2.2.2.2.1 hW (fun q hq => by rw [hU]; exact hS.2.1 q (Nat.lt_of_lt_of_le hq hF.2.2.2.2.2.2.2.2.2) (Nat.not_le.mpr hq))
  · rw [hU]; exact Nat.le_trans hF.2.2.2.2.2.2.2.2.2 hS.1
  · rw [hU]; exact hR
  · show (As.reverse ++ .inr (some (s1, i1)) :: st).map (av_tv ρ) = _
    rw [av_rev]; rfl
  · rw [List.map_map]
    have : (st.map ((fun v => v.category) ∘ av_tv ρ)) = st.map (fun _ => 1) := List.map_congr_left fun v _ => av_cat ρ v
    rw [this, List.map_const', List.sum_replicate_nat]; omega
  · show cells + (me_C M1 - me_C M) ≤ me_C M' - c0; omega
  · show slots + (me_S M1 - me_S M) ≤ me_S M' - s0; omega
theorem jw_callV {index n s1 i1 ci : Nat} {As : List AV} {T : u_T} {N : Nat} {ty : Nat → FieldType} (hsp : sp G Yz z d (.inr (some (s1, i1)) :: As) M r1 M1) (hm : mt_ok Yz z n) (hcf : cf_ok ci z.cls T N ty) (hs1 : sk s1 = .inl ci) (ht1 : st_is s1 = false) (hl : Cond.methodLink Y.2.2.1 index z ∈ TS) (hin : Cond.instanceMethod z ∈ TS) (hse : Cond.selects z.cls z z ∈ TS) (hd : decode Y.1 pc = .ok (.invokevirtual index, 3)) (hn : As.length = n) (hstk : stk = As.reverse ++ .inr (some (s1, i1)) :: st) (hw : st.length ≤ 8)
    (kk : jw G Y (d + 1) c0 s0 M1 (pc + 3) lc (r1.toList ++ st) r M') : jw G Y (d + 1) c0 s0 M pc lc stk r M' := by
  refine ⟨jw_calls hsp kk, fun p l e s m args below meth c ρe ne ρ H locs cells slots ls hF hR hS ha hn' hc hs hlc hst => ?_⟩
  subst hstk
  have hts := hF.2.2.2.2.2.2.1
  have hst' : ∀ v ∈ st, av_ok M v := fun v hv => hst v (List.mem_append_right _ (List.mem_cons_of_mem _ hv))
  have has : ∀ v ∈ (.inr (some (s1, i1)) : AV) :: As, av_ok M v := fun v hv => by
    rcases List.mem_cons.mp hv with rfl | hv
    · exact hst _ (List.mem_append_right _ List.mem_cons_self)
    · exact hst v (List.mem_append_left _ (List.mem_reverse.mpr hv))
  have k1 := kk.1
  have k2 := hsp.1
  have hgk := hF.2.2.2.2.2.2.2.2.1
  have hi : i1 < me_N M s1 := hst _ (List.mem_append_right _ List.mem_cons_self) (s1, i1) rfl
  refine jw_ret_to hsp kk hF hR hS ha hn' hc hs hlc hst' (a := (((.inr (some (s1, i1)) : AV) :: As).map (av_tv ρ)).toArray) ?_
  have hrec : ∃ cell : Cell, H[ρ s1 i1]? = some cell ∧ cell.vm.isStatics = false ∧ s.vm.findClass z.cls = some cell.cls := by
    obtain ⟨ord, hnd, hmem, hP, hD, hok, hsx⟩ := hR
    obtain ⟨n', hn2, he⟩ := me_at (cA := G.2.2.1) (ρ := ρ) (M := M) ((hmem (s1, i1)).mpr ⟨hi, ht1⟩)
    rw [me_ce_o hs1] at he
    exact va_recv (gk_K hgk) hP hcf.1 he
  refine va_runV (C := z.cls) (b := ρ s1 i1) (As := As.map (av_tv ρ)) (rest := st.map (av_tv ρ)) ⟨hF.1, hF.2.1, hF.2.2.1, hF.2.2.2.1, hts⟩ (hsp.2 l ρ has) ⟨jw_callB hts hm hl ⟨rfl, rfl⟩, hts _ hin, hts _ hse⟩ ⟨gk_blind, hrec, fun U hU hW => ⟨rfl, ?_, ?_, ?_⟩⟩ rfl (by rw [List.length_map]; exact hn) hlc.1 ?_ (lv_room ?_) hd ⟨?_, ?_⟩
  · exact gk_warm hgk hW (fun q hq => by rw [hU]; exact hS.2.1 q (Nat.lt_of_lt_of_le hq hF.2.2.2.2.2.2.2.2.2) (Nat.not_le.mpr hq))
  · rw [hU]; exact Nat.le_trans hF.2.2.2.2.2.2.2.2.2 hS.1
  · rw [hU]; exact hR
  · show (As.reverse ++ .inr (some (s1, i1)) :: st).map (av_tv ρ) = _
    rw [av_rev]; rfl
  · rw [List.map_map]
    have : (st.map ((fun v => v.category) ∘ av_tv ρ)) = st.map (fun _ => 1) := List.map_congr_left fun v _ => av_cat ρ v
    rw [this, List.map_const', List.sum_replicate_nat]; omega
  · show cells + (me_C M1 - me_C M) ≤ me_C M' - c0; omega
  · show slots + (me_S M1 - me_S M) ≤ me_S M' - s0; omega
theorem jw_callIN {index n s1 i1 : Nat} {host : String} {As : List AV} (hsp : sp G Yz z d (.inr (some (s1, i1)) :: As) M none M1) (hm : mt_ok Yz z n) (hrt : Yz.2.2.2.2 = none) (hnm : z.name = "<init>") (hl : Cond.methodLinkNest Y.2.2.1 index z host ∈ nest_w) (hin : Cond.instanceMethod z ∈ TS) (hd : decode Y.1 pc = .ok (.invokespecial index, 3)) (hn : As.length = n) (hstk : stk = As.reverse ++ .inr (some (s1, i1)) :: st) (hw : st.length ≤ 8)
    (kk : jw G Y (d + 1) c0 s0 M1 (pc + 3) lc st r M') : jw G Y (d + 1) c0 s0 M pc lc stk r M' := by
  refine ⟨jw_calls (r1 := none) hsp kk, fun p l e s m args below meth c ρe ne ρ H locs cells slots ls hF hR hS ha hn' hc hs hlc hst => ?_⟩
  subst hstk
  have hts := hF.2.2.2.2.2.2.1
  have hst' : ∀ v ∈ st, av_ok M v := fun v hv => hst v (List.mem_append_right _ (List.mem_cons_of_mem _ hv))
  have has : ∀ v ∈ (.inr (some (s1, i1)) : AV) :: As, av_ok M v := fun v hv => by
    rcases List.mem_cons.mp hv with rfl | hv
    · exact hst _ (List.mem_append_right _ List.mem_cons_self)
    · exact hst v (List.mem_append_left _ (List.mem_reverse.mpr hv))
  have k1 := kk.1
  have k2 := hsp.1
  have hM := hsp.2 l ρ has
  have hgk := hF.2.2.2.2.2.2.2.2.1
  have hcb : va_CN (rm_of (d + 1) (me_C M' - c0) (me_S M' - s0)) s args Y.2.2.1 index z host Yz.1 Yz.2.1 Yz.2.2.2.2 (Cond.code z Yz.1 Yz.2.1 Yz.2.2.2.2 :: TS) (rm_of d (me_C M1 - me_C M) (me_S M1 - me_S M)) (me_C M1 - me_C M) (me_S M1 - me_S M) n := va_cnB n hts (ts_goodIn hm.1.1) rfl rfl rfl (hgk.2.2.1 _ hl) (hts _ hm.1.2) hm.2.1 ⟨Nat.le_refl _, by have := hm.2.2.1; show 8 + (Yz.2.1 + 11) + 64 * d ≤ 64 * (d + 1); omega⟩
  rw [hrt] at hcb hM
  refine jw_ret_to (r1 := none) hsp kk hF hR hS ha hn' hc hs hlc hst' (a := (((.inr (some (s1, i1)) : AV) :: As).map (av_tv ρ)).toArray) ?_
  refine va_runIN (b := ρ s1 i1) (As := As.map (av_tv ρ)) (rest := st.map (av_tv ρ)) ⟨hF.1, hF.2.1, hF.2.2.1, hF.2.2.2.1, hts⟩ hM ⟨hcb, hnm, hts _ hin⟩ ⟨gk_blind, fun U hU hW => ⟨rfl, ?_, ?_, ?_⟩⟩ rfl (by rw [List.length_map]; exact hn) hlc.1 ?_ (lv_room ?_) hd ⟨?_, ?_⟩
  · exact gk_warm hgk hW (fun q hq => by rw [hU]; exact hS.2.1 q (Nat.lt_of_lt_of_le hq hF.2.2.2.2.2.2.2.2.2) (Nat.not_le.mpr hq))
  · rw [hU]; exact Nat.le_trans hF.2.2.2.2.2.2.2.2.2 hS.1
  · rw [hU]; exact hR
  · show (As.reverse ++ .inr (some (s1, i1)) :: st).map (av_tv ρ) = _
    rw [av_rev]; rfl
  · rw [List.map_map]
    have : (st.map ((fun v => v.category) ∘ av_tv ρ)) = st.map (fun _ => 1) := List.map_congr_left fun v _ => av_cat ρ v
    rw [this, List.map_const', List.sum_replicate_nat]; omega
  · show cells + (me_C M1 - me_C M) ≤ me_C M' - c0; omega
  · show slots + (me_S M1 - me_S M) ≤ me_S M' - s0; omega
theorem jw_mmax {index : Nat} {x y : Int32} (hl : Cond.methodLink Y.2.2.1 index Lib.Math.max.name ∈ TS) (hsm : Cond.static Lib.Math.max.name ∈ TS) (hin : Cond.initialized "java/lang/Math" ∈ TS) (hco : Cond.code Lib.Math.max.name Lib.Math.max.code 2 (some .int) ∈ TS) (hd : decode Y.1 pc = .ok (.invokestatic index, 3)) (hw : st.length ≤ 8) (kk : jw G Y (d + 1) c0 s0 M (pc + 3) lc (.inl (if x < y then y else x) :: st) r M') : jw G Y (d + 1) c0 s0 M pc lc (.inl y :: .inl x :: st) r M' := by
  refine ⟨kk.1, fun p l e s m args below meth c ρe ne ρ H locs cells slots ls hF hR hS ha hn' hc hs hlc hst => ?_⟩
  have hts := hF.2.2.2.2.2.2.1
  have k1 := kk.1
  have h1 : ((st.map (av_tv ρ)).map (fun v => v.category)).sum = st.length := by
    have h2 : (st.map (av_tv ρ)).map (fun v => v.category) = st.map (fun _ => 1) := by
      rw [List.map_map]; exact List.map_congr_left fun v _ => av_cat ρ v
    rw [h2, List.map_const', List.sum_replicate_nat]; omega
  refine va_mmax (rest := st.map (av_tv ρ)) hF.1 hF.2.1 (hF.2.2.1.trans hlc.1.symm) hF.2.2.2.1 (hts _ hl) (hts _ hsm) (hts _ hin) (hts _ hco) (show 1 ≤ d + 1 by omega) (by rw [h1]; show st.length + 13 ≤ 64 * (d + 1); omega) (show cells ≤ me_C M' - c0 by omega) (show slots ≤ me_S M' - s0 by omega) hd ?_
  exact kk.2 p l e s m args below meth c ρe ne ρ H locs cells slots ls hF hR hS ha hn' hc hs hlc (fun v hv => by
    rcases List.mem_cons.mp hv with rfl | hv
    · exact av_ok_i
    · exact hst v (List.mem_cons_of_mem _ (List.mem_cons_of_mem _ hv)))
theorem jw_mmin {index : Nat} {x y : Int32} (hl : Cond.methodLink Y.2.2.1 index Lib.Math.min.name ∈ TS) (hsm : Cond.static Lib.Math.min.name ∈ TS) (hin : Cond.initialized "java/lang/Math" ∈ TS) (hco : Cond.code Lib.Math.min.name Lib.Math.min.code 2 (some .int) ∈ TS) (hd : decode Y.1 pc = .ok (.invokestatic index, 3)) (hw : st.length ≤ 8) (kk : jw G Y (d + 1) c0 s0 M (pc + 3) lc (.inl (if y < x then y else x) :: st) r M') : jw G Y (d + 1) c0 s0 M pc lc (.inl y :: .inl x :: st) r M' := by
  refine ⟨kk.1, fun p l e s m args below meth c ρe ne ρ H locs cells slots ls hF hR hS ha hn' hc hs hlc hst => ?_⟩
  have hts := hF.2.2.2.2.2.2.1
  have k1 := kk.1
  have h1 : ((st.map (av_tv ρ)).map (fun v => v.category)).sum = st.length := by
    have h2 : (st.map (av_tv ρ)).map (fun v => v.category) = st.map (fun _ => 1) := by
      rw [List.map_map]; exact List.map_congr_left fun v _ => av_cat ρ v
    rw [h2, List.map_const', List.sum_replicate_nat]; omega
  refine va_mmin (rest := st.map (av_tv ρ)) hF.1 hF.2.1 (hF.2.2.1.trans hlc.1.symm) hF.2.2.2.1 (hts _ hl) (hts _ hsm) (hts _ hin) (hts _ hco) (show 1 ≤ d + 1 by omega) (by rw [h1]; show st.length + 13 ≤ 64 * (d + 1); omega) (show cells ≤ me_C M' - c0 by omega) (show slots ≤ me_S M' - s0 by omega) hd ?_
  exact kk.2 p l e s m args below meth c ρe ne ρ H locs cells slots ls hF hR hS ha hn' hc hs hlc (fun v hv => by
    rcases List.mem_cons.mp hv with rfl | hv
    · exact av_ok_i
    · exact hst v (List.mem_cons_of_mem _ (List.mem_cons_of_mem _ hv)))
theorem jw_objInit {index : Nat} {o : Nat × Nat} (hl : Cond.methodLink Y.2.2.1 index Lib.objectInit ∈ TS) (hin : Cond.instanceMethod Lib.objectInit ∈ TS) (hco : Cond.code Lib.objectInit ⟨#[0xb1]⟩ 1 none ∈ TS) (hd : decode Y.1 pc = .ok (.invokespecial index, 3)) (hw : st.length ≤ 8) (kk : jw G Y (d + 1) c0 s0 M (pc + 3) lc st r M') : jw G Y (d + 1) c0 s0 M pc lc (.inr (some o) :: st) r M' := by
  refine ⟨kk.1, fun p l e s m args below meth c ρe ne ρ H locs cells slots ls hF hR hS ha hn' hc hs hlc hst => ?_⟩
  have hts := hF.2.2.2.2.2.2.1
  refine W.objInit (a := ρ o.1 o.2) (rest := st.map (av_tv ρ)) hF.1 hF.2.1 hF.2.2.2.1 (hts _ hl) (hts _ hin) (hts _ hco) rfl (hlc.1.trans hF.2.2.1.symm) rfl hd (show 1 ≤ d + 1 by omega) ?_ ?_
  · have h1 : (st.map (av_tv ρ)).map (fun v => v.category) = st.map (fun _ => 1) := by
      rw [List.map_map]; exact List.map_congr_left fun v _ => av_cat ρ v
    rw [h1, List.map_const', List.sum_replicate_nat]
    show 2 * 0 + st.length * 1 + 12 ≤ 64 * (d + 1)
    omega
  · exact kk.2 p l e s m args below meth c ρe ne ρ H locs cells slots ls hF hR hS ha hn' hc hs hlc (fun v hv => hst v (List.mem_cons_of_mem _ hv))
theorem jw_iret {x : Int32} (hd : decode Y.1 pc = .ok (.ireturn, 1)) (hr : Y.2.2.2.2 = some .int) : jw G Y d c0 s0 M pc lc [.inl x] (some (.inl x)) M := by
  refine ⟨⟨Nat.le_refl _, Nat.le_refl _⟩, fun p l e s m args below meth c ρe ne ρ H locs cells slots ls hF hR hS ha hn' hc hs hlc hst => ?_⟩
  have e1 : me_C M - c0 = cells := by omega
  have e2 : me_S M - s0 = slots := by omega
  rw [e1, e2]
  exact W.iret hF.1 hF.2.1 (hF.2.2.2.2.2.1.trans hr) (fun t ht hW => ⟨ρ, rfl, by rw [ht]; exact hR, ha, hn', fun v hv => by cases hv; exact av_ok_i, hS.F ht⟩) hS.2.2 hd hF.2.2.2.2.2.2.2.1
theorem jw_zret {x : Int32} (hd : decode Y.1 pc = .ok (.ireturn, 1)) (hr : Y.2.2.2.2 = some .boolean) (hx : x = 0 ∨ x = 1) : jw G Y d c0 s0 M pc lc [.inl x] (some (.inl x)) M := by
  refine ⟨⟨Nat.le_refl _, Nat.le_refl _⟩, fun p l e s m args below meth c ρe ne ρ H locs cells slots ls hF hR hS ha hn' hc hs hlc hst => ?_⟩
  have e1 : me_C M - c0 = cells := by omega
  have e2 : me_S M - s0 = slots := by omega
  rw [e1, e2]
  exact W.zret hF.1 hF.2.1 (hF.2.2.2.2.2.1.trans hr) (by rcases hx with rfl | rfl <;> rfl) (fun t ht hW => ⟨ρ, rfl, by rw [ht]; exact hR, ha, hn', fun v hv => by cases hv; exact av_ok_i, hS.F ht⟩) hS.2.2 hd hF.2.2.2.2.2.2.2.1
theorem jw_vret (hd : decode Y.1 pc = .ok (.return_, 1)) (hr : Y.2.2.2.2 = none) : jw G Y d c0 s0 M pc lc [] none M := by
  refine ⟨⟨Nat.le_refl _, Nat.le_refl _⟩, fun p l e s m args below meth c ρe ne ρ H locs cells slots ls hF hR hS ha hn' hc hs hlc hst => ?_⟩
  have e1 : me_C M - c0 = cells := by omega
  have e2 : me_S M - s0 = slots := by omega
  rw [e1, e2]
  exact W.vret hF.1 hF.2.1 (hF.2.2.2.2.2.1.trans hr) (fun t ht hW => ⟨ρ, rfl, by rw [ht]; exact hR, ha, hn', fun v hv => by (cases hv), hS.F ht⟩) hS.2.2 hd hF.2.2.2.2.2.2.2.1
theorem jw_aret {o : Option (Nat × Nat)} {C : String} (hd : decode Y.1 pc = .ok (.areturn, 1)) (hr : Y.2.2.2.2 = some (.object C)) : jw G Y d c0 s0 M pc lc [.inr o] (some (.inr o)) M := by
  refine ⟨⟨Nat.le_refl _, Nat.le_refl _⟩, fun p l e s m args below meth c ρe ne ρ H locs cells slots ls hF hR hS ha hn' hc hs hlc hst => ?_⟩
  have e1 : me_C M - c0 = cells := by omega
  have e2 : me_S M - s0 = slots := by omega
  rw [e1, e2]
  exact W.aret hF.1 hF.2.1 (hF.2.2.2.2.2.1.trans hr) (Or.inl ⟨C, rfl⟩) (va_rf_or _) (fun t ht hW => ⟨ρ, rfl, by rw [ht]; exact hR, ha, hn', fun v hv => by cases hv; exact hst _ List.mem_cons_self, hS.F ht⟩) hS.2.2 hd hF.2.2.2.2.2.2.2.1
end RowsD
