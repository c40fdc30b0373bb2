theorem rm_mono {s : State} {pl : Platform} {r r' : Room} (hf : r.frames ≤ r'.frames) (hl : r.locals ≤ r'.locals) (hc : r.cells ≤ r'.cells) (hs : r.slots ≤ r'.slots) (h : s.hasRoom pl r' = true) : s.hasRoom pl r = true := by
  simp only [State.hasRoom, Bool.and_eq_true, decide_eq_true_eq] at h ⊢
  obtain ⟨⟨⟨⟨y, a, b, c, d, e⟩, f⟩, g⟩, i⟩ := h
  exact ⟨⟨⟨⟨by omega, by omega, by omega, by omega, by omega, e⟩, by omega⟩, by omega⟩, i⟩
def ma_0 : Me := (fun _ _ _ => 0, fun _ _ _ => none, fun _ _ => 0, fun s => if st_is s = true then 1 else 0, 0, 0)
abbrev yt_L (nm : String) : Yt := (code, 4, "PollYardLaw", nm, ret)
theorem ar_tys : ∀ s ty, ar_ty s = some ty → ty = .int ∨ ty = .boolean ∨ ty = .object "PollYard$Program" ∨ ty = .object "PollYard$Task" ∨ ty = .object "PollYard$Worker" ∨ ty = .object "PollYard$Gate" ∨ ty = .object "PollYard$Notice" := by
  intro s ty h
  unfold ar_ty sk at h
  split at h
  · cases h
  · rename_i t he
    have ht : t = ty := Option.some.inj h
    subst ht
    split at he <;> first | (cases he; done) | (have h2 := Sum.inr.inj he; subst h2; simp)
def ca_of (c : Nat → ClassId) (ty : FieldType) : ClassId := if ty = .int then c 0 else if ty = .boolean then c 1 else if ty = .object "PollYard$Program" then c 2 else if ty = .object "PollYard$Task" then c 3 else if ty = .object "PollYard$Worker" then c 4 else if ty = .object "PollYard$Gate" then c 5 else if ty = .object "PollYard$Notice" then c 6 else 0
theorem nest_in : ∀ w ∈ nest_w, w ∈ lw_tbl := by decide +kernel
theorem over_in : ∀ C ∈ over_c, Cond.arrayOver (.object C) ∈ lw_tbl := by decide +kernel
theorem stat_T {args : Array Value} {s : State} {n : String} {sv : List Int32} {A : Nat → Prop} (hs : ∀ c ∈ flatC (Jvm.Cond.and given_1 narrow_1), c.before args s = true) (h1 : Cond.arrayOf (.static "PollYard" n "[I") .int ∈ flatC (Jvm.Cond.and given_1 narrow_1)) (h2 : Cond.eq (.length (.static "PollYard" n "[I")) (.int 16) ∈ flatC (Jvm.Cond.and given_1 narrow_1)) (h3 : ∀ j, j < 16 → Cond.eq (.elem (.static "PollYard" n "[I") (.int (Int32.ofNat j))) (.int (sv.getD j 0)) ∈ flatC (Jvm.Cond.and given_1 narrow_1)) (h4 : (Cond.laysStatic "PollYard" n "[I").before args s = true) (h5 : (Cond.initialized "PollYard").before args s = true) (hA : ∀ a : Nat, a < s.heap.size → ¬ A a) :
    ∃ t : Nat, va_Z "PollYard" n "[I" (.ref t) A s s.heap ∧ va_T .int t 16 (fun j => .int (sv.getD j 0)) A s s.heap := by
  obtain ⟨t, ht, hT⟩ := va_Tof (tm := .static "PollYard" n "[I") (ty := .int) (N := 16) (f := fun j => .int (sv.getD j 0)) (A := A) (by decide) (hs _ h1) (va_eqt (hs _ h2)) (fun j hj => va_eqt (hs _ (h3 j hj))) hA
  exact ⟨t, va_Zref h4 h5 ht hA, hT⟩
theorem st_PARTS : Cond.arrayOf (.static "PollYard" "PARTS" "[I") .int ∈ flatC (Jvm.Cond.and given_1 narrow_1) ∧ Cond.eq (.length (.static "PollYard" "PARTS" "[I")) (.int 16) ∈ flatC (Jvm.Cond.and given_1 narrow_1) ∧ (∀ j, j < 16 → Cond.eq (.elem (.static "PollYard" "PARTS" "[I") (.int (Int32.ofNat j))) (.int (sv_PARTS.getD j 0)) ∈ flatC (Jvm.Cond.and given_1 narrow_1)) ∧ Cond.laysStatic "PollYard" "PARTS" "[I" ∈ lw_tbl := ⟨by decide +kernel, by decide +kernel, by decide +kernel, by decide +kernel⟩
theorem st_LOWEST : Cond.arrayOf (.static "PollYard" "LOWEST" "[I") .int ∈ flatC (Jvm.Cond.and given_1 narrow_1) ∧ Cond.eq (.length (.static "PollYard" "LOWEST" "[I")) (.int 16) ∈ flatC (Jvm.Cond.and given_1 narrow_1) ∧ (∀ j, j < 16 → Cond.eq (.elem (.static "PollYard" "LOWEST" "[I") (.int (Int32.ofNat j))) (.int (sv_LOWEST.getD j 0)) ∈ flatC (Jvm.Cond.and given_1 narrow_1)) ∧ Cond.laysStatic "PollYard" "LOWEST" "[I" ∈ lw_tbl := ⟨by decide +kernel, by decide +kernel, by decide +kernel, by decide +kernel⟩
theorem st_HIGHEST : Cond.arrayOf (.static "PollYard" "HIGHEST" "[I") .int ∈ flatC (Jvm.Cond.and given_1 narrow_1) ∧ Cond.eq (.length (.static "PollYard" "HIGHEST" "[I")) (.int 16) ∈ flatC (Jvm.Cond.and given_1 narrow_1) ∧ (∀ j, j < 16 → Cond.eq (.elem (.static "PollYard" "HIGHEST" "[I") (.int (Int32.ofNat j))) (.int (sv_HIGHEST.getD j 0)) ∈ flatC (Jvm.Cond.and given_1 narrow_1)) ∧ Cond.laysStatic "PollYard" "HIGHEST" "[I" ∈ lw_tbl := ⟨by decide +kernel, by decide +kernel, by decide +kernel, by decide +kernel⟩
set_option maxHeartbeats 4000000 in
set_option maxRecDepth 100000 in
theorem law_G {p : Program} {s : State} {m : MethodId} {meth : Method} {c : Code} {b L : Nat} {xs : Nat → Int32} (C0 : lw_At p s m meth c b L xs) : ∃ G : Gt, G.1 = s.heap.size ∧ G.2.2.2.2.2.1 = L ∧ G.2.2.2.2.2.2 = xs ∧ G.2.2.2.2.1 25 = b ∧ gk_ok G s s.heap := by
  obtain ⟨hx, hb, hr, hml, hown, hts, hX, hbl, hlocks, hgv⟩ := C0
  have hs := flat_of_before _ hgv
  obtain ⟨c0, i0, k0⟩ := u_known (C := "PollYard") (T := tx_Y) (N := 14) (n := 14) hts (fun w hw => (ic_Y w hw).1) (hts _ (ts_tbl it_Y))
  obtain ⟨c1, i1, k1⟩ := u_known (C := "PollYard$Program") (T := tx_P) (N := 4) (n := 4) hts (fun w hw => (ic_P w hw).1) (hts _ (ts_tbl it_P))
  obtain ⟨c2, i2, k2⟩ := u_known (C := "PollYard$Task") (T := tx_T) (N := 11) (n := 11) hts (fun w hw => (ic_T w hw).1) (hts _ (ts_tbl it_T))
  obtain ⟨c3, i3, k3⟩ := u_known (C := "PollYard$Worker") (T := tx_K) (N := 5) (n := 5) hts (fun w hw => (ic_K w hw).1) (hts _ (ts_tbl it_K))
  obtain ⟨c4, i4, k4⟩ := u_known (C := "PollYard$Row") (T := tx_R) (N := 2) (n := 2) hts (fun w hw => (ic_R w hw).1) (hts _ (ts_tbl it_R))
  obtain ⟨c5, i5, k5⟩ := u_known (C := "PollYard$Gate") (T := tx_G) (N := 2) (n := 2) hts (fun w hw => (ic_G w hw).1) (hts _ (ts_tbl it_G))
  obtain ⟨c6, i6, k6⟩ := u_known (C := "PollYard$Notice") (T := tx_N) (N := 2) (n := 2) hts (fun w hw => (ic_N w hw).1) (hts _ (ts_tbl it_N))
  obtain ⟨c7, i7, k7⟩ := u_known (C := "PollYardModel") (T := tx_M) (N := 36) (n := 36) hts (fun w hw => (ic_M w hw).1) (hts _ (ts_tbl it_M))
  obtain ⟨dC, dI, hKc⟩ : ∃ (dC : Nat → ClassId) (dI : Nat → Nat → Nat), ∀ (k : Nat) (q : vw_C), vwCl[k]? = some q → u_Kn s q.1 q.2.1 q.2.2 (dC k) (dI k) := by
    refine ⟨fun k => if k = 0 then c0 else if k = 1 then c1 else if k = 2 then c2 else if k = 3 then c3 else if k = 4 then c4 else if k = 5 then c5 else if k = 6 then c6 else c7, fun k => if k = 0 then i0 else if k = 1 then i1 else if k = 2 then i2 else if k = 3 then i3 else if k = 4 then i4 else if k = 5 then i5 else if k = 6 then i6 else i7, ?_⟩
    intro k q hq
    match k, hq with
    | 0, hq => cases hq; exact k0
    | 1, hq => cases hq; exact k1
    | 2, hq => cases hq; exact k2
    | 3, hq => cases hq; exact k3
    | 4, hq => cases hq; exact k4
    | 5, hq => cases hq; exact k5
    | 6, hq => cases hq; exact k6
    | 7, hq => cases hq; exact k7
    | k + 8, hq => simp [vwCl] at hq
  obtain ⟨a0, ka0, cp0, n0, e0, d0⟩ := Cond.arrayClass_spec (hts _ (ts_tbl ac_int))
  obtain ⟨a1, ka1, cp1, n1, e1, d1⟩ := Cond.arrayClass_spec (hts _ (ts_tbl ac_bool))
  obtain ⟨cp2, a2, ka2, q2, x2, e2, d2, n2⟩ := Cond.arrayOver_spec (hts _ (over_in "PollYard$Program" (by decide)))
  obtain ⟨cp3, a3, ka3, q3, x3, e3, d3, n3⟩ := Cond.arrayOver_spec (hts _ (over_in "PollYard$Task" (by decide)))
  obtain ⟨cp4, a4, ka4, q4, x4, e4, d4, n4⟩ := Cond.arrayOver_spec (hts _ (over_in "PollYard$Worker" (by decide)))
  obtain ⟨cp5, a5, ka5, q5, x5, e5, d5, n5⟩ := Cond.arrayOver_spec (hts _ (over_in "PollYard$Gate" (by decide)))
  obtain ⟨cp6, a6, ka6, q6, x6, e6, d6, n6⟩ := Cond.arrayOver_spec (hts _ (over_in "PollYard$Notice" (by decide)))
  obtain ⟨t22, z22, y22⟩ := stat_T (A := fun a => s.heap.size ≤ a) hs st_PARTS.1 st_PARTS.2.1 st_PARTS.2.2.1 (hts _ st_PARTS.2.2.2) (hts _ (ts_tbl ii_Y)) (fun a ha => Nat.not_le.mpr ha)
  obtain ⟨t23, z23, y23⟩ := stat_T (A := fun a => s.heap.size ≤ a) hs st_LOWEST.1 st_LOWEST.2.1 st_LOWEST.2.2.1 (hts _ st_LOWEST.2.2.2) (hts _ (ts_tbl ii_Y)) (fun a ha => Nat.not_le.mpr ha)
  obtain ⟨t24, z24, y24⟩ := stat_T (A := fun a => s.heap.size ≤ a) hs st_HIGHEST.1 st_HIGHEST.2.1 st_HIGHEST.2.2.1 (hts _ st_HIGHEST.2.2.2) (hts _ (ts_tbl ii_Y)) (fun a ha => Nat.not_le.mpr ha)
  refine ⟨(s.heap.size, (dC, dI), (fun s => match ar_ty s with
    | some ty => ca_of (fun k => if k = 0 then a0 else if k = 1 then a1 else if k = 2 then a2 else if k = 3 then a3 else if k = 4 then a4 else if k = 5 then a5 else a6) ty
    | none => 0), [(a0, .int), (a1, .boolean), (a2, .object "PollYard$Program"), (a3, .object "PollYard$Task"), (a4, .object "PollYard$Worker"), (a5, .object "PollYard$Gate"), (a6, .object "PollYard$Notice")], (fun k => if k = 22 then t22 else if k = 23 then t23 else if k = 24 then t24 else b), L, xs), rfl, rfl, rfl, rfl, ⟨hKc, ?_⟩, ?_, ?_, ?_, ?_, hX, hbl⟩
  · intro k q hq
    match k, hq with
    | 0, hq => cases hq; exact ⟨fun n z => ⟨(fun k h => by cases h), ka0, e0, cp0, d0⟩, n0⟩
    | 1, hq => cases hq; exact ⟨fun n z => ⟨(fun k h => by cases h), ka1, e1, cp1, d1⟩, n1⟩
    | 2, hq => cases hq; exact ⟨fun n z => ⟨(fun k h => by cases h), ka2, e2, cp2, d2⟩, ka2, cp2, e2, d2, q2, n2⟩
    | 3, hq => cases hq; exact ⟨fun n z => ⟨(fun k h => by cases h), ka3, e3, cp3, d3⟩, ka3, cp3, e3, d3, q3, n3⟩
    | 4, hq => cases hq; exact ⟨fun n z => ⟨(fun k h => by cases h), ka4, e4, cp4, d4⟩, ka4, cp4, e4, d4, q4, n4⟩
    | 5, hq => cases hq; exact ⟨fun n z => ⟨(fun k h => by cases h), ka5, e5, cp5, d5⟩, ka5, cp5, e5, d5, q5, n5⟩
    | 6, hq => cases hq; exact ⟨fun n z => ⟨(fun k h => by cases h), ka6, e6, cp6, d6⟩, ka6, cp6, e6, d6, q6, n6⟩
    | k + 7, hq => simp at hq
  · intro s' ty hty
    dsimp only
    rw [hty]
    rcases ar_tys s' ty hty with rfl | rfl | rfl | rfl | rfl | rfl | rfl
    · exact ⟨0, rfl⟩
    · exact ⟨1, rfl⟩
    · exact ⟨2, rfl⟩
    · exact ⟨3, rfl⟩
    · exact ⟨4, rfl⟩
    · exact ⟨5, rfl⟩
    · exact ⟨6, rfl⟩
  · intro w hw
    exact va_Nw.of (nest_tab w hw) (hts w (nest_in w hw))
  · intro C hC
    exact va_AO.of (hts _ (over_in C hC))
  · intro q hq
    simp only [st_l, List.mem_cons, List.not_mem_nil, or_false] at hq
    rcases hq with rfl | rfl | rfl
    · exact ⟨z22, y22⟩
    · exact ⟨z23, y23⟩
    · exact ⟨z24, y24⟩
set_option maxHeartbeats 4000000 in
theorem law_W {p : Program} {e : Env} {s : State} {m : MethodId} {below : List Frame} {meth : Method} {c : Code} (l : Launch) {b L : Nat} {xs : Nat → Int32} (C0 : lw_At p s m meth c b L xs) (d : Nat) (hd : d ≤ 1300)
    (h : ∀ (G : Gt), G.2.2.2.2.2.1 = L → G.2.2.2.2.2.2 = xs → jx G (yt_L meth.name) d 0 0 ma_0 0 [some (.inr (some (25, 0))), none, none, none] [] (fun r M' => r = some (.inl 1) ∧ me_C M' ≤ 600000 ∧ me_S M' ≤ 7302250)) :
    W p l e room_1 s m #[Value.ref b] below meth c s.heap [] 0 0 (lw_Z below #[Value.ref b] s) (entryFrame m ([Value.ref b] : List Value).toArray 4) := by
  obtain ⟨G, g1, g2, g3, g4, hgk⟩ := law_G C0
  obtain ⟨r, M', hj, rfl, hC, hS⟩ := h G g2 g3
  obtain ⟨hx, hb, hr, hml, hown, hts, hX, hbl, hlocks, hgv⟩ := C0
  have hl := lv_entry ([.ref b]) (n := 4) (Nat.le_of_ble_eq_true rfl)
  rw [lg_entry_eq]
  generalize (lg_sl ([.ref b]) ++ List.replicate (4 - (lg_sl ([.ref b])).length) Slot.unset).toArray = ls at hl ⊢
  intro T hT X
  have X' : Stand p l e (rm_of d (me_C M' - 0) (me_S M' - 0)) s m #[Value.ref b] below meth c T [] 0 0 := { X with room := rm_mono (r' := room_1) (show d ≤ 2048 by omega) (show 64 * d ≤ 84000 by omega) (show me_C M' - 0 ≤ 600000 by omega) (show me_S M' - 0 ≤ 7302250 by omega) X.room }
  have hrl : me_rl G (fun k _ => G.2.2.2.2.1 k) ma_0 s.heap := by
    refine ⟨[], List.nodup_nil, fun q => ?_, (fun k q h => by simp [me_wl] at h), ⟨(fun i j p q h => by simp [me_wl] at h), (fun k q h => by simp [me_wl] at h)⟩, (fun s i k _ a e => by cases e), (fun k hk => ⟨?_, rfl⟩)⟩
    · constructor
      · intro h; cases h
      · rintro ⟨h1, h2⟩
        have h1 : q.2 < (if st_is q.1 = true then 1 else 0) := h1
        rw [h2] at h1
        exact absurd h1 (by simp)
    · show (if st_is k = true then 1 else 0) = 1
      rw [hk]; rfl
  obtain ⟨t, a1, o, b1, b2, ⟨ρ', ho, -⟩, Lc, hfe, hLc⟩ := hj.2 p l e s m _ below meth c (fun k _ => G.2.2.2.2.1 k) (me_N ma_0) (fun k _ => G.2.2.2.2.1 k) s.heap [] 0 0 ls ⟨hx, hb, hml, hown, rfl, hr, fun w hw => hts w (ts_tbl hw), hlocks, hgk, by rw [g1]; exact Nat.le_refl _⟩ hrl va_S.rf (fun _ _ _ => rfl) (fun _ => Nat.le_refl _) rfl rfl ⟨hl.1, hl.2.1, fun i v hv => by
    match i, hv with
    | 0, hv =>
      have hv := Option.some.inj (Option.some.inj hv)
      subst hv
      refine ⟨?_, fun a e => by cases e; decide⟩
      have h0 := hl.2.2 (0, .ref b) List.mem_cons_self
      show ls[0]? = some (Slot.val (Value.ref (G.2.2.2.2.1 25)))
      rw [g4]; exact h0
    | 1, hv => cases hv
    | 2, hv => cases hv
    | 3, hv => cases hv
    | i + 4, hv => simp at hv⟩ (fun v hv => by cases hv) T hT X'
  exact ⟨t, a1, o, b1, b2, ho, hfe.1, hfe.2.1, hfe.2.2.weaken (fun x hx hlt => absurd hlt (Nat.not_lt.mpr (by rw [← g1]; exact hLc x hx))) (by omega) (by omega)⟩
