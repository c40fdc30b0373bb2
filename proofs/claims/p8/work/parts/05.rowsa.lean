abbrev Yt : Type := ByteArray × Nat × String × String × Option FieldType
def fr_ok (G : Gt) (Y : Yt) (p : Program) (s : State) (m : MethodId) (args : Array Value) (meth : Method) (c : Code) : Prop :=
  p.tables.exec = Jvm.exec ∧ c.code = Y.1 ∧ c.maxLocals = Y.2.1 ∧ s.vm.findClass Y.2.2.1 = some m.cls ∧ meth.name = Y.2.2.2.1 ∧ meth.sig.returnType = Y.2.2.2.2 ∧ (∀ w ∈ TS, w.before args s = true) ∧ meth.locks = false ∧ gk_ok G s s.heap ∧ G.1 ≤ s.heap.size
def rm_of (d c s : Nat) : Room := { frames := d, cells := c, slots := s, locals := 64 * d }
def q_of (G : Gt) (ρe : Rh) (ne : Nat → Nat) (r : Option AV) (M' : Me) : Array Value → State → Outcome → State → Prop := fun _ st o t => ∃ ρ' : Rh, o = .returned (r.map (av_tv ρ')) ∧ me_rl G ρ' M' t.heap ∧ (∀ a b, b < ne a → ρ' a b = ρe a b) ∧ (∀ a, ne a ≤ me_N M' a) ∧ (∀ v, r = some v → av_ok M' v) ∧ va_F (fun q => G.1 ≤ q) st t
def lc_ok (nL : Nat) (ρ : Rh) (M : Me) (lc : List (Option AV)) (ls : Array Slot) : Prop := ls.size = nL ∧ lv_wf ls ∧ ∀ (i : Nat) (v : AV), lc[i]? = some (some v) → ls[i]? = some (Slot.val (av_tv ρ v)) ∧ av_ok M v
def jw (G : Gt) (Y : Yt) (d c0 s0 : Nat) (M : Me) (pc : Nat) (lc : List (Option AV)) (st : List AV) (r : Option AV) (M' : Me) : Prop :=
  (me_C M ≤ me_C M' ∧ me_S M ≤ me_S M') ∧
  ∀ (p : Program) (l : Launch) (e : Env) (s : State) (m : MethodId) (args : Array Value) (below : List Frame) (meth : Method) (c : Code) (ρe : Rh) (ne : Nat → Nat) (ρ : Rh) (H : Heap) (locs : List Loc) (cells slots : Nat) (ls : Array Slot),
    fr_ok G Y p s m args meth c → me_rl G ρ M H → va_S (fun q => G.1 ≤ q) s.heap H locs → (∀ a b, b < ne a → ρ a b = ρe a b) → (∀ a, ne a ≤ me_N M a) → cells + c0 = me_C M → slots + s0 = me_S M → lc_ok Y.2.1 ρ M lc ls → (∀ v ∈ st, av_ok M v) →
    W p l e (rm_of d (me_C M' - c0) (me_S M' - s0)) s m args below meth c H locs cells slots (MQ below (q_of G ρe ne r M') args s (me_C M' - c0) (me_S M' - s0) (fun q => G.1 ≤ q)) (F0 m pc ls (st.map (av_tv ρ)))
theorem lc_mono {nL : Nat} {ρ ρ' : Rh} {M M' : Me} {lc : List (Option AV)} {ls : Array Slot} (h : lc_ok nL ρ M lc ls) (hn : ∀ a, me_N M a ≤ me_N M' a) (he : ∀ a b, b < me_N M a → ρ' a b = ρ a b) : lc_ok nL ρ' M' lc ls :=
  ⟨h.1, h.2.1, fun i v hv => ⟨by rw [av_tv_eq (h.2.2 i v hv).2 he]; exact (h.2.2 i v hv).1, av_ok_mono hn (h.2.2 i v hv).2⟩⟩
def lc_li (ρ : Rh) (lc : List (Option AV)) : List (Nat × Value) := lc.zipIdx.filterMap (fun q => q.1.map (fun v => (q.2, av_tv ρ v)))
theorem lc_li_mem {ρ : Rh} {lc : List (Option AV)} {i : Nat} {v : AV} (h : lc[i]? = some (some v)) : (i, av_tv ρ v) ∈ lc_li ρ lc := by
  unfold lc_li
  rw [List.mem_filterMap]
  refine ⟨(some v, i), ?_, rfl⟩
  rw [List.mem_zipIdx_iff_getElem?]
  exact h
theorem lc_li_of {ρ : Rh} {lc : List (Option AV)} {q : Nat × Value} (h : q ∈ lc_li ρ lc) : ∃ v, lc[q.1]? = some (some v) ∧ q.2 = av_tv ρ v := by
  unfold lc_li at h
  rw [List.mem_filterMap] at h
  obtain ⟨⟨o, i⟩, h1, h2⟩ := h
  rw [List.mem_zipIdx_iff_getElem?] at h1
  cases o with
  | none => cases h2
  | some v =>
    cases h2
    exact ⟨v, h1, rfl⟩
theorem lc_has {nL : Nat} {ρ : Rh} {M : Me} {lc : List (Option AV)} {ls : Array Slot} (h : lc_ok nL ρ M lc ls) : lv_has ls nL (lc_li ρ lc) :=
  ⟨h.1, h.2.1, fun q hq => by
    obtain ⟨v, h1, h2⟩ := lc_li_of hq
    rw [h2]; exact (h.2.2 q.1 v h1).1⟩
theorem lc_back {nL i : Nat} {ρ : Rh} {M : Me} {lc : List (Option AV)} {ls ls' : Array Slot} {v : AV} (h : lc_ok nL ρ M lc ls) (hv : av_ok M v) (h' : lv_has ls' nL ((i, av_tv ρ v) :: (lc_li ρ lc).filter (fun q => !(q.1 == i) && !(q.1 + 1 == i && q.2.category == 2)))) : lc_ok nL ρ M (lc.set i (some v)) ls' := by
  refine ⟨h'.1, h'.2.1, fun j w hw => ?_⟩
  rw [List.getElem?_set] at hw
  split at hw
  · rename_i hij; subst hij
    split at hw
    · cases hw
      exact ⟨h'.2.2 _ List.mem_cons_self, hv⟩
    · cases hw
  · rename_i hij
    refine ⟨?_, (h.2.2 j w hw).2⟩
    refine h'.2.2 (j, av_tv ρ w) (List.mem_cons_of_mem _ (List.mem_filter.mpr ⟨lc_li_mem hw, ?_⟩))
    simp [av_cat, Ne.symm hij]
theorem jw_go {G : Gt} {Y : Yt} {d c0 s0 : Nat} {M M' : Me} {pc pc' : Nat} {lc : List (Option AV)} {st st' : List AV} {r : Option AV}
    (h : ∀ {p : Program} {l : Launch} {e : Env} {R : Room} {s : State} {m : MethodId} {args : Array Value} {below : List Frame} {meth : Method} {c : Code} {H : Heap} {locs : List Loc} {cells slots : Nat} {Q : State → Prop} {ls : Array Slot} {ρ : Rh}, p.tables.exec = Jvm.exec → c.code = Y.1 → s.vm.findClass Y.2.2.1 = some m.cls → (∀ w ∈ TS, w.before args s = true) → lc_ok Y.2.1 ρ M lc ls → W p l e R s m args below meth c H locs cells slots Q (F0 m pc' ls (st'.map (av_tv ρ))) → W p l e R s m args below meth c H locs cells slots Q (F0 m pc ls (st.map (av_tv ρ))))
    (ho : (∀ (i : Nat) (v : AV), lc[i]? = some (some v) → av_ok M v) → (∀ v ∈ st, av_ok M v) → ∀ v ∈ st', av_ok M v) (k : jw G Y d c0 s0 M pc' lc st' r M') : jw G Y d c0 s0 M pc lc st r M' :=
  ⟨k.1, fun p l e s m args below meth c ρe ne ρ H locs cells slots ls hF hR hS ha hn hc hs hl hst => h hF.1 hF.2.1 hF.2.2.2.1 hF.2.2.2.2.2.2.1 hl (k.2 p l e s m args below meth c ρe ne ρ H locs cells slots ls hF hR hS ha hn hc hs hl (ho (fun i v hv => (hl.2.2 i v hv).2) hst))⟩
theorem jw_sto {G : Gt} {Y : Yt} {d c0 s0 : Nat} {M M' : Me} {pc pc' i : Nat} {lc : List (Option AV)} {st st' : List AV} {v : AV} {r : Option AV}
    (h : ∀ {p : Program} {l : Launch} {e : Env} {R : Room} {s : State} {m : MethodId} {args : Array Value} {below : List Frame} {meth : Method} {c : Code} {H : Heap} {locs : List Loc} {cells slots : Nat} {Q : State → Prop} {ls : Array Slot} {ρ : Rh}, p.tables.exec = Jvm.exec → c.code = Y.1 → lc_ok Y.2.1 ρ M lc ls → (∀ ls' : Array Slot, lv_has ls' Y.2.1 ((i, av_tv ρ v) :: (lc_li ρ lc).filter (fun q => !(q.1 == i) && !(q.1 + 1 == i && q.2.category == 2))) → W p l e R s m args below meth c H locs cells slots Q (F0 m pc' ls' (st'.map (av_tv ρ)))) → W p l e R s m args below meth c H locs cells slots Q (F0 m pc ls (st.map (av_tv ρ))))
    (ho : (∀ v ∈ st, av_ok M v) → (∀ v ∈ st', av_ok M v) ∧ av_ok M v) (k : jw G Y d c0 s0 M pc' (lc.set i (some v)) st' r M') : jw G Y d c0 s0 M pc lc st r M' :=
  ⟨k.1, fun p l e s m args below meth c ρe ne ρ H locs cells slots ls hF hR hS ha hn hc hs hl hst => h hF.1 hF.2.1 hl (fun ls' hl' => k.2 p l e s m args below meth c ρe ne ρ H locs cells slots ls' hF hR hS ha hn hc hs (lc_back hl (ho hst).2 hl') (ho hst).1)⟩
section RowsA
variable {G : Gt} {Y : Yt} {d c0 s0 : Nat} {M M' : Me} {pc : Nat} {lc : List (Option AV)} {st : List AV} {r : Option AV}
theorem jw_iconst {n : Int} (v : Int32) (hd : decode Y.1 pc = .ok (.iconst n, 1)) (hv : Int32.ofInt n = v) (k : jw G Y d c0 s0 M (pc + 1) lc (.inl v :: st) r M') : jw G Y d c0 s0 M pc lc st r M' :=
  jw_go (fun hx hb _ _ _ k => lv_iconst hx hb hd hv k) (fun _ h v hv => by rcases List.mem_cons.mp hv with rfl | hv; exact av_ok_i; exact h v hv) k
theorem jw_bipush {n : Int} (v : Int32) (hd : decode Y.1 pc = .ok (.bipush n, 2)) (hv : (Int8.ofInt n).toInt32 = v) (k : jw G Y d c0 s0 M (pc + 2) lc (.inl v :: st) r M') : jw G Y d c0 s0 M pc lc st r M' :=
  jw_go (fun hx hb _ _ _ k => lv_bipush hx hb hd hv k) (fun _ h v hv => by rcases List.mem_cons.mp hv with rfl | hv; exact av_ok_i; exact h v hv) k
theorem jw_sipush {n : Int} (v : Int32) (hd : decode Y.1 pc = .ok (.sipush n, 3)) (hv : (Int16.ofInt n).toInt32 = v) (k : jw G Y d c0 s0 M (pc + 3) lc (.inl v :: st) r M') : jw G Y d c0 s0 M pc lc st r M' :=
  jw_go (fun hx hb _ _ _ k => lv_sipush hx hb hd hv k) (fun _ h v hv => by rcases List.mem_cons.mp hv with rfl | hv; exact av_ok_i; exact h v hv) k
theorem jw_null (hd : decode Y.1 pc = .ok (.aconst_null, 1)) (k : jw G Y d c0 s0 M (pc + 1) lc (.inr none :: st) r M') : jw G Y d c0 s0 M pc lc st r M' :=
  jw_go (fun hx hb _ _ _ k => lv_null hx hb hd k) (fun _ h v hv => by rcases List.mem_cons.mp hv with rfl | hv; exact av_ok_n; exact h v hv) k
theorem jw_iload_n {n : Fin 4} (i : Nat) {x : Int32} (hd : decode Y.1 pc = .ok (.iload_n n, 1)) (hi : (n : Nat) = i) (hl : lc[i]? = some (some (.inl x))) (k : jw G Y d c0 s0 M (pc + 1) lc (.inl x :: st) r M') : jw G Y d c0 s0 M pc lc st r M' :=
  jw_go (fun hx hb _ _ hlc k => lv_iload_n hx hb hd hi (hlc.2.2 i _ hl).1 k) (fun _ h v hv => by rcases List.mem_cons.mp hv with rfl | hv; exact av_ok_i; exact h v hv) k
theorem jw_iload {i : Nat} {x : Int32} (hd : decode Y.1 pc = .ok (.iload i, 2)) (hl : lc[i]? = some (some (.inl x))) (k : jw G Y d c0 s0 M (pc + 2) lc (.inl x :: st) r M') : jw G Y d c0 s0 M pc lc st r M' :=
  jw_go (fun hx hb _ _ hlc k => lv_iload hx hb hd (hlc.2.2 i _ hl).1 k) (fun _ h v hv => by rcases List.mem_cons.mp hv with rfl | hv; exact av_ok_i; exact h v hv) k
theorem jw_aload_n {n : Fin 4} (i : Nat) {o : Option (Nat × Nat)} (hd : decode Y.1 pc = .ok (.aload_n n, 1)) (hi : (n : Nat) = i) (hl : lc[i]? = some (some (.inr o))) (k : jw G Y d c0 s0 M (pc + 1) lc (.inr o :: st) r M') : jw G Y d c0 s0 M pc lc st r M' :=
  jw_go (fun hx hb _ _ hlc k => by
    have h1 := (hlc.2.2 i _ hl).1
    cases o with
    | none => exact lv_aload_nN hx hb hd hi h1 k
    | some a => exact lv_aload_n hx hb hd hi h1 k) (fun hl' h v hv => by rcases List.mem_cons.mp hv with rfl | hv; exact hl' i _ hl; exact h v hv) k
theorem jw_aload {i : Nat} {o : Option (Nat × Nat)} (hd : decode Y.1 pc = .ok (.aload i, 2)) (hl : lc[i]? = some (some (.inr o))) (k : jw G Y d c0 s0 M (pc + 2) lc (.inr o :: st) r M') : jw G Y d c0 s0 M pc lc st r M' :=
  jw_go (fun hx hb _ _ hlc k => by
    have h1 := (hlc.2.2 i _ hl).1
    cases o with
    | none => exact lv_aloadN hx hb hd h1 k
    | some a => exact lv_aload hx hb hd h1 k) (fun hl' h v hv => by rcases List.mem_cons.mp hv with rfl | hv; exact hl' i _ hl; exact h v hv) k
theorem jw_istore_n {n : Fin 4} (i : Nat) {x : Int32} (hd : decode Y.1 pc = .ok (.istore_n n, 1)) (hi : (n : Nat) = i) (hn : i < Y.2.1) (k : jw G Y d c0 s0 M (pc + 1) (lc.set i (some (.inl x))) st r M') : jw G Y d c0 s0 M pc lc (.inl x :: st) r M' :=
  jw_sto (fun hx hb hlc k => lv_istore_n hx hb hd hi (lc_has hlc) hn rfl k) (fun h => ⟨fun v hv => h v (List.mem_cons_of_mem _ hv), av_ok_i⟩) k
theorem jw_istore {i : Nat} {x : Int32} (hd : decode Y.1 pc = .ok (.istore i, 2)) (hn : i < Y.2.1) (k : jw G Y d c0 s0 M (pc + 2) (lc.set i (some (.inl x))) st r M') : jw G Y d c0 s0 M pc lc (.inl x :: st) r M' :=
  jw_sto (fun hx hb hlc k => lv_istore hx hb hd (lc_has hlc) hn rfl k) (fun h => ⟨fun v hv => h v (List.mem_cons_of_mem _ hv), av_ok_i⟩) k
theorem jw_astore_n {n : Fin 4} (i : Nat) {o : Option (Nat × Nat)} (hd : decode Y.1 pc = .ok (.astore_n n, 1)) (hi : (n : Nat) = i) (hn : i < Y.2.1) (k : jw G Y d c0 s0 M (pc + 1) (lc.set i (some (.inr o))) st r M') : jw G Y d c0 s0 M pc lc (.inr o :: st) r M' :=
  jw_sto (v := .inr o) (fun hx hb hlc k => by
    cases o with
    | none => exact lv_astore_nN hx hb hd hi (lc_has hlc) hn rfl k
    | some a => exact lv_astore_n hx hb hd hi (lc_has hlc) hn rfl k) (fun h => ⟨fun v hv => h v (List.mem_cons_of_mem _ hv), h _ List.mem_cons_self⟩) k
theorem jw_astore {i : Nat} {o : Option (Nat × Nat)} (hd : decode Y.1 pc = .ok (.astore i, 2)) (hn : i < Y.2.1) (k : jw G Y d c0 s0 M (pc + 2) (lc.set i (some (.inr o))) st r M') : jw G Y d c0 s0 M pc lc (.inr o :: st) r M' :=
  jw_sto (v := .inr o) (fun hx hb hlc k => by
    cases o with
    | none => exact lv_astoreN hx hb hd (lc_has hlc) hn rfl k
    | some a => exact lv_astore hx hb hd (lc_has hlc) hn rfl k) (fun h => ⟨fun v hv => h v (List.mem_cons_of_mem _ hv), h _ List.mem_cons_self⟩) k
theorem jw_iinc {i : Nat} {n : Int} {x : Int32} (v : Int32) (hd : decode Y.1 pc = .ok (.iinc i n, 3)) (hl : lc[i]? = some (some (.inl x))) (hv : x + Int32.ofInt n = v) (hn : i < Y.2.1) (k : jw G Y d c0 s0 M (pc + 3) (lc.set i (some (.inl v))) st r M') : jw G Y d c0 s0 M pc lc st r M' :=
  jw_sto (v := .inl v) (fun {p l e R s m args below meth c H locs cells slots Q ls ρ} hx hb hlc k => by
    obtain ⟨j, hj⟩ := List.getElem?_of_mem (lc_li_mem (ρ := ρ) hl)
    exact lv_iinc hx hb hd (lc_has hlc) hj hv hn rfl k) (fun h => ⟨h, av_ok_i⟩) k
theorem jw_iadd {x y : Int32} (hd : decode Y.1 pc = .ok (.iadd, 1)) (k : jw G Y d c0 s0 M (pc + 1) lc (.inl (x + y) :: st) r M') : jw G Y d c0 s0 M pc lc (.inl y :: .inl x :: st) r M' :=
  jw_go (fun hx hb _ _ _ k => lv_iadd hx hb hd k) (fun _ h v hv => by rcases List.mem_cons.mp hv with rfl | hv; exact av_ok_i; exact h v (List.mem_cons_of_mem _ (List.mem_cons_of_mem _ hv))) k
theorem jw_isub {x y : Int32} (hd : decode Y.1 pc = .ok (.isub, 1)) (k : jw G Y d c0 s0 M (pc + 1) lc (.inl (x - y) :: st) r M') : jw G Y d c0 s0 M pc lc (.inl y :: .inl x :: st) r M' :=
  jw_go (fun hx hb _ _ _ k => lv_isub hx hb hd k) (fun _ h v hv => by rcases List.mem_cons.mp hv with rfl | hv; exact av_ok_i; exact h v (List.mem_cons_of_mem _ (List.mem_cons_of_mem _ hv))) k
theorem jw_imul {x y : Int32} (hd : decode Y.1 pc = .ok (.imul, 1)) (k : jw G Y d c0 s0 M (pc + 1) lc (.inl (x * y) :: st) r M') : jw G Y d c0 s0 M pc lc (.inl y :: .inl x :: st) r M' :=
  jw_go (fun hx hb _ _ _ k => lv_imul hx hb hd k) (fun _ h v hv => by rcases List.mem_cons.mp hv with rfl | hv; exact av_ok_i; exact h v (List.mem_cons_of_mem _ (List.mem_cons_of_mem _ hv))) k
theorem jw_iand {x y : Int32} (hd : decode Y.1 pc = .ok (.iand, 1)) (k : jw G Y d c0 s0 M (pc + 1) lc (.inl (x &&& y) :: st) r M') : jw G Y d c0 s0 M pc lc (.inl y :: .inl x :: st) r M' :=
  jw_go (fun hx hb _ _ _ k => lv_iand hx hb hd k) (fun _ h v hv => by rcases List.mem_cons.mp hv with rfl | hv; exact av_ok_i; exact h v (List.mem_cons_of_mem _ (List.mem_cons_of_mem _ hv))) k
theorem jw_ior {x y : Int32} (hd : decode Y.1 pc = .ok (.ior, 1)) (k : jw G Y d c0 s0 M (pc + 1) lc (.inl (x ||| y) :: st) r M') : jw G Y d c0 s0 M pc lc (.inl y :: .inl x :: st) r M' :=
  jw_go (fun hx hb _ _ _ k => lv_ior hx hb hd k) (fun _ h v hv => by rcases List.mem_cons.mp hv with rfl | hv; exact av_ok_i; exact h v (List.mem_cons_of_mem _ (List.mem_cons_of_mem _ hv))) k
theorem jw_ixor {x y : Int32} (hd : decode Y.1 pc = .ok (.ixor, 1)) (k : jw G Y d c0 s0 M (pc + 1) lc (.inl (x ^^^ y) :: st) r M') : jw G Y d c0 s0 M pc lc (.inl y :: .inl x :: st) r M' :=
  jw_go (fun hx hb _ _ _ k => lv_ixor hx hb hd k) (fun _ h v hv => by rcases List.mem_cons.mp hv with rfl | hv; exact av_ok_i; exact h v (List.mem_cons_of_mem _ (List.mem_cons_of_mem _ hv))) k
theorem jw_idiv {x y : Int32} (hd : decode Y.1 pc = .ok (.idiv, 1)) (hne : ¬ y = 0) (k : jw G Y d c0 s0 M (pc + 1) lc (.inl (x / y) :: st) r M') : jw G Y d c0 s0 M pc lc (.inl y :: .inl x :: st) r M' :=
  jw_go (fun hx hb _ _ _ k => lv_idiv hx hb hd hne k) (fun _ h v hv => by rcases List.mem_cons.mp hv with rfl | hv; exact av_ok_i; exact h v (List.mem_cons_of_mem _ (List.mem_cons_of_mem _ hv))) k
theorem jw_irem {x y : Int32} (hd : decode Y.1 pc = .ok (.irem, 1)) (hne : ¬ y = 0) (k : jw G Y d c0 s0 M (pc + 1) lc (.inl (x - x / y * y) :: st) r M') : jw G Y d c0 s0 M pc lc (.inl y :: .inl x :: st) r M' :=
  jw_go (fun hx hb _ _ _ k => lv_irem hx hb hd hne k) (fun _ h v hv => by rcases List.mem_cons.mp hv with rfl | hv; exact av_ok_i; exact h v (List.mem_cons_of_mem _ (List.mem_cons_of_mem _ hv))) k
theorem jw_ineg {x : Int32} (hd : decode Y.1 pc = .ok (.ineg, 1)) (k : jw G Y d c0 s0 M (pc + 1) lc (.inl (-x) :: st) r M') : jw G Y d c0 s0 M pc lc (.inl x :: st) r M' :=
  jw_go (fun hx hb _ _ _ k => lv_ineg hx hb hd k) (fun _ h v hv => by rcases List.mem_cons.mp hv with rfl | hv; exact av_ok_i; exact h v (List.mem_cons_of_mem _ hv)) k
theorem jw_dup {a : AV} (hd : decode Y.1 pc = .ok (.dup, 1)) (k : jw G Y d c0 s0 M (pc + 1) lc (a :: a :: st) r M') : jw G Y d c0 s0 M pc lc (a :: st) r M' :=
  jw_go (fun hx hb _ _ _ k => lv_dup hx hb hd (av_cat _ _) k) (fun _ h v hv => h v (by simp only [List.mem_cons] at hv ⊢; rcases hv with h1 | h1 | h1 <;> simp [h1])) k
theorem jw_pop {a : AV} (hd : decode Y.1 pc = .ok (.pop, 1)) (k : jw G Y d c0 s0 M (pc + 1) lc st r M') : jw G Y d c0 s0 M pc lc (a :: st) r M' :=
  jw_go (fun hx hb _ _ _ k => lv_pop hx hb hd (av_cat _ _) k) (fun _ h v hv => h v (List.mem_cons_of_mem _ hv)) k
theorem jw_dup_x1 {a b : AV} (hd : decode Y.1 pc = .ok (.dup_x1, 1)) (k : jw G Y d c0 s0 M (pc + 1) lc (a :: b :: a :: st) r M') : jw G Y d c0 s0 M pc lc (a :: b :: st) r M' :=
  jw_go (fun hx hb _ _ _ k => lv_dup_x1 hx hb hd (av_cat _ _) (av_cat _ _) k) (fun _ h v hv => h v (by simp only [List.mem_cons] at hv ⊢; rcases hv with h1 | h1 | h1 | h1 <;> simp [h1])) k
theorem jw_dup_x2 {a b a2 : AV} (hd : decode Y.1 pc = .ok (.dup_x2, 1)) (k : jw G Y d c0 s0 M (pc + 1) lc (a :: b :: a2 :: a :: st) r M') : jw G Y d c0 s0 M pc lc (a :: b :: a2 :: st) r M' :=
  jw_go (fun hx hb _ _ _ k => lv_dup_x2 hx hb hd (av_cat _ _) (av_cat _ _) (av_cat _ _) k) (fun _ h v hv => h v (by simp only [List.mem_cons] at hv ⊢; rcases hv with h1 | h1 | h1 | h1 | h1 <;> simp [h1])) k
theorem jw_dup2 {a b : AV} (hd : decode Y.1 pc = .ok (.dup2, 1)) (k : jw G Y d c0 s0 M (pc + 1) lc (a :: b :: a :: b :: st) r M') : jw G Y d c0 s0 M pc lc (a :: b :: st) r M' :=
  jw_go (fun hx hb _ _ _ k => lv_dup2_11 hx hb hd (av_cat _ _) (av_cat _ _) k) (fun _ h v hv => h v (by simp only [List.mem_cons] at hv ⊢; rcases hv with h1 | h1 | h1 | h1 | h1 <;> simp [h1])) k
theorem jw_goto {off : Int} (tgt : Nat) (hd : decode Y.1 pc = .ok (.goto off, 3)) (ht : (pc : Int) + off = (tgt : Int)) (k : jw G Y d c0 s0 M tgt lc st r M') : jw G Y d c0 s0 M pc lc st r M' :=
  jw_go (fun hx hb _ _ _ k => lv_goto hx hb hd ht k) (fun _ h => h) k
theorem jw_if_eq {x : Int32} {off : Int} (tgt : Nat) (hd : decode Y.1 pc = .ok (.ifCond .eq off, 3)) (ht : (pc : Int) + off = (tgt : Int)) (kt : x = 0 → jw G Y d c0 s0 M tgt lc st r M') (kf : ¬ x = 0 → jw G Y d c0 s0 M (pc + 3) lc st r M') : jw G Y d c0 s0 M pc lc (.inl x :: st) r M' := by
  rcases Classical.em (x = 0) with h | h
  · exact jw_go (fun hx hb _ _ _ k => lv_if_eq hx hb hd ht (fun _ => k) (fun q => absurd h q)) (fun _ h v hv => h v (List.mem_cons_of_mem _ hv)) (kt h)
  · exact jw_go (fun hx hb _ _ _ k => lv_if_eq hx hb hd ht (fun q => absurd q h) (fun _ => k)) (fun _ h v hv => h v (List.mem_cons_of_mem _ hv)) (kf h)
theorem jw_if_ne {x : Int32} {off : Int} (tgt : Nat) (hd : decode Y.1 pc = .ok (.ifCond .ne off, 3)) (ht : (pc : Int) + off = (tgt : Int)) (kt : ¬ x = 0 → jw G Y d c0 s0 M tgt lc st r M') (kf : x = 0 → jw G Y d c0 s0 M (pc + 3) lc st r M') : jw G Y d c0 s0 M pc lc (.inl x :: st) r M' := by
  rcases Classical.em (x = 0) with h | h
  · exact jw_go (fun hx hb _ _ _ k => lv_if_ne hx hb hd ht (fun q => absurd h q) (fun _ => k)) (fun _ h v hv => h v (List.mem_cons_of_mem _ hv)) (kf h)
  · exact jw_go (fun hx hb _ _ _ k => lv_if_ne hx hb hd ht (fun _ => k) (fun q => absurd q h)) (fun _ h v hv => h v (List.mem_cons_of_mem _ hv)) (kt h)
theorem jw_if_lt {x : Int32} {off : Int} (tgt : Nat) (hd : decode Y.1 pc = .ok (.ifCond .lt off, 3)) (ht : (pc : Int) + off = (tgt : Int)) (kt : x < 0 → jw G Y d c0 s0 M tgt lc st r M') (kf : ¬ x < 0 → jw G Y d c0 s0 M (pc + 3) lc st r M') : jw G Y d c0 s0 M pc lc (.inl x :: st) r M' := by
  rcases Classical.em (x < 0) with h | h
  · exact jw_go (fun hx hb _ _ _ k => lv_if_lt hx hb hd ht (fun _ => k) (fun q => absurd h q)) (fun _ h v hv => h v (List.mem_cons_of_mem _ hv)) (kt h)
  · exact jw_go (fun hx hb _ _ _ k => lv_if_lt hx hb hd ht (fun q => absurd q h) (fun _ => k)) (fun _ h v hv => h v (List.mem_cons_of_mem _ hv)) (kf h)
theorem jw_if_ge {x : Int32} {off : Int} (tgt : Nat) (hd : decode Y.1 pc = .ok (.ifCond .ge off, 3)) (ht : (pc : Int) + off = (tgt : Int)) (kt : 0 ≤ x → jw G Y d c0 s0 M tgt lc st r M') (kf : ¬ 0 ≤ x → jw G Y d c0 s0 M (pc + 3) lc st r M') : jw G Y d c0 s0 M pc lc (.inl x :: st) r M' := by
  rcases Classical.em (0 ≤ x) with h | h
  · exact jw_go (fun hx hb _ _ _ k => lv_if_ge hx hb hd ht (fun _ => k) (fun q => absurd h q)) (fun _ h v hv => h v (List.mem_cons_of_mem _ hv)) (kt h)
  · exact jw_go (fun hx hb _ _ _ k => lv_if_ge hx hb hd ht (fun q => absurd q h) (fun _ => k)) (fun _ h v hv => h v (List.mem_cons_of_mem _ hv)) (kf h)
theorem jw_if_gt {x : Int32} {off : Int} (tgt : Nat) (hd : decode Y.1 pc = .ok (.ifCond .gt off, 3)) (ht : (pc : Int) + off = (tgt : Int)) (kt : 0 < x → jw G Y d c0 s0 M tgt lc st r M') (kf : ¬ 0 < x → jw G Y d c0 s0 M (pc + 3) lc st r M') : jw G Y d c0 s0 M pc lc (.inl x :: st) r M' := by
  rcases Classical.em (0 < x) with h | h
  · exact jw_go (fun hx hb _ _ _ k => lv_if_gt hx hb hd ht (fun _ => k) (fun q => absurd h q)) (fun _ h v hv => h v (List.mem_cons_of_mem _ hv)) (kt h)
  · exact jw_go (fun hx hb _ _ _ k => lv_if_gt hx hb hd ht (fun q => absurd q h) (fun _ => k)) (fun _ h v hv => h v (List.mem_cons_of_mem _ hv)) (kf h)
theorem jw_if_le {x : Int32} {off : Int} (tgt : Nat) (hd : decode Y.1 pc = .ok (.ifCond .le off, 3)) (ht : (pc : Int) + off = (tgt : Int)) (kt : x ≤ 0 → jw G Y d c0 s0 M tgt lc st r M') (kf : ¬ x ≤ 0 → jw G Y d c0 s0 M (pc + 3) lc st r M') : jw G Y d c0 s0 M pc lc (.inl x :: st) r M' := by
  rcases Classical.em (x ≤ 0) with h | h
  · exact jw_go (fun hx hb _ _ _ k => lv_if_le hx hb hd ht (fun _ => k) (fun q => absurd h q)) (fun _ h v hv => h v (List.mem_cons_of_mem _ hv)) (kt h)
  · exact jw_go (fun hx hb _ _ _ k => lv_if_le hx hb hd ht (fun q => absurd q h) (fun _ => k)) (fun _ h v hv => h v (List.mem_cons_of_mem _ hv)) (kf h)
theorem jw_icmp_eq {x y : Int32} {off : Int} (tgt : Nat) (hd : decode Y.1 pc = .ok (.if_icmp .eq off, 3)) (ht : (pc : Int) + off = (tgt : Int)) (kt : x = y → jw G Y d c0 s0 M tgt lc st r M') (kf : ¬ x = y → jw G Y d c0 s0 M (pc + 3) lc st r M') : jw G Y d c0 s0 M pc lc (.inl y :: .inl x :: st) r M' := by
  rcases Classical.em (x = y) with h | h
  · exact jw_go (fun hx hb _ _ _ k => lv_icmp_eq hx hb hd ht (fun _ => k) (fun q => absurd h q)) (fun _ h v hv => h v (List.mem_cons_of_mem _ (List.mem_cons_of_mem _ hv))) (kt h)
  · exact jw_go (fun hx hb _ _ _ k => lv_icmp_eq hx hb hd ht (fun q => absurd q h) (fun _ => k)) (fun _ h v hv => h v (List.mem_cons_of_mem _ (List.mem_cons_of_mem _ hv))) (kf h)
theorem jw_icmp_ne {x y : Int32} {off : Int} (tgt : Nat) (hd : decode Y.1 pc = .ok (.if_icmp .ne off, 3)) (ht : (pc : Int) + off = (tgt : Int)) (kt : ¬ x = y → jw G Y d c0 s0 M tgt lc st r M') (kf : x = y → jw G Y d c0 s0 M (pc + 3) lc st r M') : jw G Y d c0 s0 M pc lc (.inl y :: .inl x :: st) r M' := by
  rcases Classical.em (x = y) with h | h
  · exact jw_go (fun hx hb _ _ _ k => lv_icmp_ne hx hb hd ht (fun q => absurd h q) (fun _ => k)) (fun _ h v hv => h v (List.mem_cons_of_mem _ (List.mem_cons_of_mem _ hv))) (kf h)
  · exact jw_go (fun hx hb _ _ _ k => lv_icmp_ne hx hb hd ht (fun _ => k) (fun q => absurd q h)) (fun _ h v hv => h v (List.mem_cons_of_mem _ (List.mem_cons_of_mem _ hv))) (kt h)
theorem jw_icmp_lt {x y : Int32} {off : Int} (tgt : Nat) (hd : decode Y.1 pc = .ok (.if_icmp .lt off, 3)) (ht : (pc : Int) + off = (tgt : Int)) (kt : x < y → jw G Y d c0 s0 M tgt lc st r M') (kf : ¬ x < y → jw G Y d c0 s0 M (pc + 3) lc st r M') : jw G Y d c0 s0 M pc lc (.inl y :: .inl x :: st) r M' := by
  rcases Classical.em (x < y) with h | h
  · exact jw_go (fun hx hb _ _ _ k => lv_icmp_lt hx hb hd ht (fun _ => k) (fun q => absurd h q)) (fun _ h v hv => h v (List.mem_cons_of_mem _ (List.mem_cons_of_mem _ hv))) (kt h)
  · exact jw_go (fun hx hb _ _ _ k => lv_icmp_lt hx hb hd ht (fun q => absurd q h) (fun _ => k)) (fun _ h v hv => h v (List.mem_cons_of_mem _ (List.mem_cons_of_mem _ hv))) (kf h)
theorem jw_icmp_ge {x y : Int32} {off : Int} (tgt : Nat) (hd : decode Y.1 pc = .ok (.if_icmp .ge off, 3)) (ht : (pc : Int) + off = (tgt : Int)) (kt : y ≤ x → jw G Y d c0 s0 M tgt lc st r M') (kf : ¬ y ≤ x → jw G Y d c0 s0 M (pc + 3) lc st r M') : jw G Y d c0 s0 M pc lc (.inl y :: .inl x :: st) r M' := by
  rcases Classical.em (y ≤ x) with h | h
  · exact jw_go (fun hx hb _ _ _ k => lv_icmp_ge hx hb hd ht (fun _ => k) (fun q => absurd h q)) (fun _ h v hv => h v (List.mem_cons_of_mem _ (List.mem_cons_of_mem _ hv))) (kt h)
  · exact jw_go (fun hx hb _ _ _ k => lv_icmp_ge hx hb hd ht (fun q => absurd q h) (fun _ => k)) (fun _ h v hv => h v (List.mem_cons_of_mem _ (List.mem_cons_of_mem _ hv))) (kf h)
theorem jw_icmp_gt {x y : Int32} {off : Int} (tgt : Nat) (hd : decode Y.1 pc = .ok (.if_icmp .gt off, 3)) (ht : (pc : Int) + off = (tgt : Int)) (kt : y < x → jw G Y d c0 s0 M tgt lc st r M') (kf : ¬ y < x → jw G Y d c0 s0 M (pc + 3) lc st r M') : jw G Y d c0 s0 M pc lc (.inl y :: .inl x :: st) r M' := by
  rcases Classical.em (y < x) with h | h
  · exact jw_go (fun hx hb _ _ _ k => lv_icmp_gt hx hb hd ht (fun _ => k) (fun q => absurd h q)) (fun _ h v hv => h v (List.mem_cons_of_mem _ (List.mem_cons_of_mem _ hv))) (kt h)
  · exact jw_go (fun hx hb _ _ _ k => lv_icmp_gt hx hb hd ht (fun q => absurd q h) (fun _ => k)) (fun _ h v hv => h v (List.mem_cons_of_mem _ (List.mem_cons_of_mem _ hv))) (kf h)
theorem jw_icmp_le {x y : Int32} {off : Int} (tgt : Nat) (hd : decode Y.1 pc = .ok (.if_icmp .le off, 3)) (ht : (pc : Int) + off = (tgt : Int)) (kt : x ≤ y → jw G Y d c0 s0 M tgt lc st r M') (kf : ¬ x ≤ y → jw G Y d c0 s0 M (pc + 3) lc st r M') : jw G Y d c0 s0 M pc lc (.inl y :: .inl x :: st) r M' := by
  rcases Classical.em (x ≤ y) with h | h
  · exact jw_go (fun hx hb _ _ _ k => lv_icmp_le hx hb hd ht (fun _ => k) (fun q => absurd h q)) (fun _ h v hv => h v (List.mem_cons_of_mem _ (List.mem_cons_of_mem _ hv))) (kt h)
  · exact jw_go (fun hx hb _ _ _ k => lv_icmp_le hx hb hd ht (fun q => absurd q h) (fun _ => k)) (fun _ h v hv => h v (List.mem_cons_of_mem _ (List.mem_cons_of_mem _ hv))) (kf h)
theorem jw_ifnull {o : Option (Nat × Nat)} {off : Int} (tgt : Nat) (hd : decode Y.1 pc = .ok (.ifnull off, 3)) (ht : (pc : Int) + off = (tgt : Int)) (kt : o = none → jw G Y d c0 s0 M tgt lc st r M') (kf : ∀ a, o = some a → jw G Y d c0 s0 M (pc + 3) lc st r M') : jw G Y d c0 s0 M pc lc (.inr o :: st) r M' := by
  cases o with
  | none => exact jw_go (fun hx hb _ _ _ k => lv_ifnullN hx hb hd ht k) (fun _ h v hv => h v (List.mem_cons_of_mem _ hv)) (kt rfl)
  | some a => exact jw_go (fun hx hb _ _ _ k => lv_ifnull hx hb hd k) (fun _ h v hv => h v (List.mem_cons_of_mem _ hv)) (kf a rfl)
theorem jw_ifnonnull {o : Option (Nat × Nat)} {off : Int} (tgt : Nat) (hd : decode Y.1 pc = .ok (.ifnonnull off, 3)) (ht : (pc : Int) + off = (tgt : Int)) (kt : ∀ a, o = some a → jw G Y d c0 s0 M tgt lc st r M') (kf : o = none → jw G Y d c0 s0 M (pc + 3) lc st r M') : jw G Y d c0 s0 M pc lc (.inr o :: st) r M' := by
  cases o with
  | none => exact jw_go (fun hx hb _ _ _ k => lv_ifnonnullN hx hb hd k) (fun _ h v hv => h v (List.mem_cons_of_mem _ hv)) (kf rfl)
  | some a => exact jw_go (fun hx hb _ _ _ k => lv_ifnonnull hx hb hd ht k) (fun _ h v hv => h v (List.mem_cons_of_mem _ hv)) (kt a rfl)
theorem jw_tabOut {dflt lo hi : Int} {offs : Array Int} {len : Nat} {x : Int32} (tgt : Nat) (hd : decode Y.1 pc = .ok (.tableswitch dflt lo hi offs, len)) (h : x.toInt < lo ∨ hi < x.toInt) (ht : (pc : Int) + dflt = (tgt : Int)) (k : jw G Y d c0 s0 M tgt lc st r M') : jw G Y d c0 s0 M pc lc (.inl x :: st) r M' :=
  jw_go (fun hx hb _ _ _ k => lv_tableOut hx hb hd h ht k) (fun _ h v hv => h v (List.mem_cons_of_mem _ hv)) k
theorem jw_tabIn {dflt lo hi off : Int} {offs : Array Int} {len : Nat} {x : Int32} (tgt : Nat) (hd : decode Y.1 pc = .ok (.tableswitch dflt lo hi offs, len)) (h1 : ¬ x.toInt < lo) (h2 : ¬ hi < x.toInt) (ho : offs[(x.toInt - lo).toNat]? = some off) (ht : (pc : Int) + off = (tgt : Int)) (k : jw G Y d c0 s0 M tgt lc st r M') : jw G Y d c0 s0 M pc lc (.inl x :: st) r M' :=
  jw_go (fun hx hb _ _ _ k => lv_tableIn hx hb hd h1 h2 ho ht k) (fun _ h v hv => h v (List.mem_cons_of_mem _ hv)) k
end RowsA
