section RowsE
variable {G : Gt} {Y : Yt} {d c0 s0 : Nat} {M M' : Me} {pc : Nat} {lc : List (Option AV)} {st : List AV} {r : Option AV}
theorem jw_getPe {s i index ci k : Nat} {C : String} {T : u_T} {N : Nat} {ty : Nat → FieldType} (o : Option (Nat × Nat)) (hf : fl_ok Y.2.2.1 index ci k C T N ty true) (hd : decode Y.1 pc = .ok (.getfield index, 3)) (hs : sk s = .inl ci) (ht : st_is s = false) (he : me_P M s i k = o) (kk : jw G Y d c0 s0 M (pc + 3) lc (.inr o :: st) r M') : jw G Y d c0 s0 M pc lc (.inr (some (s, i)) :: st) r M' := by
  subst he; exact jw_getP hf hd hs ht kk
theorem jw_getIe {s i index ci k : Nat} {C : String} {T : u_T} {N : Nat} {ty : Nat → FieldType} (x : Int32) (hf : fl_ok Y.2.2.1 index ci k C T N ty false) (hd : decode Y.1 pc = .ok (.getfield index, 3)) (hs : sk s = .inl ci) (ht : st_is s = false) (he : me_I M s i k = x) (kk : jw G Y d c0 s0 M (pc + 3) lc (.inl x :: st) r M') : jw G Y d c0 s0 M pc lc (.inr (some (s, i)) :: st) r M' := by
  subst he; exact jw_getI hf hd hs ht kk
theorem jw_aalde {s i : Nat} {x : Int32} {C : String} (o : Option (Nat × Nat)) (hd : decode Y.1 pc = .ok (.aaload, 1)) (hs : sk s = .inr (.object C)) (ht : st_is s = false) (hin : vp_in x (me_L M s i)) (he : me_P M s i x.toNatClampNeg = o) (kk : jw G Y d c0 s0 M (pc + 1) lc (.inr o :: st) r M') : jw G Y d c0 s0 M pc lc (.inl x :: .inr (some (s, i)) :: st) r M' := by
  subst he; exact jw_aald hd hs ht hin kk
theorem jw_ialde {s i : Nat} {x : Int32} (v : Int32) (hd : decode Y.1 pc = .ok (.iaload, 1)) (hs : sk s = .inr .int) (ht : st_is s = false) (hin : vp_in x (me_L M s i)) (he : me_I M s i x.toNatClampNeg = v) (kk : jw G Y d c0 s0 M (pc + 1) lc (.inl v :: st) r M') : jw G Y d c0 s0 M pc lc (.inl x :: .inr (some (s, i)) :: st) r M' := by
  subst he; exact jw_iald hd hs ht hin kk
theorem jw_zalde {s i : Nat} {x : Int32} (v : Int32) (hd : decode Y.1 pc = .ok (.baload, 1)) (hs : sk s = .inr .boolean) (ht : st_is s = false) (hin : vp_in x (me_L M s i)) (he : me_I M s i x.toNatClampNeg = v) (kk : jw G Y d c0 s0 M (pc + 1) lc (.inl v :: st) r M') : jw G Y d c0 s0 M pc lc (.inl x :: .inr (some (s, i)) :: st) r M' := by
  subst he; exact jw_zald hd hs ht hin kk
theorem jw_iincc {i : Nat} {n : Int} {x : Int32} (c : Int32) (hd : decode Y.1 pc = .ok (.iinc i n, 3)) (hc : Int32.ofInt n = c) (hl : lc[i]? = some (some (.inl x))) (hn : i < Y.2.1) (k : jw G Y d c0 s0 M (pc + 3) (lc.set i (some (.inl (x + c)))) st r M') : jw G Y d c0 s0 M pc lc st r M' := by
  subst hc; exact jw_iinc _ hd hl rfl hn k
def me_nx (M : Me) (s n len sl : Nat) : Me := (fun a b c => if a = s ∧ b = n then 0 else M.1 a b c, fun a b c => if a = s ∧ b = n then none else M.2.1 a b c, fun a b => if a = s ∧ b = n then len else M.2.2.1 a b, fun a => if a = s then n + 1 else M.2.2.2.1 a, me_C M + 1, me_S M + sl)
theorem me_nx_eq {M : Me} {s n : Nat} (len sl : Nat) (h : me_N M s = n) : me_nw M s len sl = me_nx M s n len sl := by subst h; rfl
theorem jw_newe {s index ci : Nat} {C : String} {T : u_T} {N : Nat} {ty : Nat → FieldType} (n : Nat) (hcf : cf_ok ci C T N ty) (hdf : ∀ j, j < N → defaultValue (ty j) = if fk ci j = true then .null else .int 0) (hcl : Cond.classLink Y.2.2.1 index C ∈ TS) (hinst : Cond.instantiable C N ∈ TS) (hini : Cond.initialized C ∈ TS) (hd : decode Y.1 pc = .ok (.new index, 3)) (hs : sk s = .inl ci) (ht : st_is s = false) (he : me_N M s = n)
    (kk : jw G Y d c0 s0 (me_nx M s n 0 N) (pc + 3) lc (.inr (some (s, n)) :: st) r M') : jw G Y d c0 s0 M pc lc st r M' := by
  refine jw_new hcf hdf hcl hinst hini hd hs ht ?_
  rw [me_nx_eq 0 N he, he]; exact kk
theorem jw_newIe {s k : Nat} {x : Int32} (n : Nat) (hcl : Cond.arrayClass .int ∈ TS) (hd : decode Y.1 pc = .ok (.newarray .int, 2)) (hs : sk s = .inr .int) (ht : st_is s = false) (hx : ¬ x < 0) (hn : x.toNatClampNeg = k) (hb : k ≤ 1000000) (he : me_N M s = n)
    (kk : jw G Y d c0 s0 (me_nx M s n k k) (pc + 2) lc (.inr (some (s, n)) :: st) r M') : jw G Y d c0 s0 M pc lc (.inl x :: st) r M' := by
  refine jw_newI hcl hd hs ht hx hn hb ?_
  rw [me_nx_eq k k he, he]; exact kk
theorem jw_newZe {s k : Nat} {x : Int32} (n : Nat) (hcl : Cond.arrayClass .boolean ∈ TS) (hd : decode Y.1 pc = .ok (.newarray .boolean, 2)) (hs : sk s = .inr .boolean) (ht : st_is s = false) (hx : ¬ x < 0) (hn : x.toNatClampNeg = k) (hb : k ≤ 1000000) (he : me_N M s = n)
    (kk : jw G Y d c0 s0 (me_nx M s n k k) (pc + 2) lc (.inr (some (s, n)) :: st) r M') : jw G Y d c0 s0 M pc lc (.inl x :: st) r M' := by
  refine jw_newZ hcl hd hs ht hx hn hb ?_
  rw [me_nx_eq k k he, he]; exact kk
theorem jw_newQe {s k index : Nat} {x : Int32} {C : String} (n : Nat) (hcl : Cond.classLink Y.2.2.1 index C ∈ TS) (hao : C ∈ over_c) (hd : decode Y.1 pc = .ok (.anewarray index, 3)) (hs : sk s = .inr (.object C)) (ht : st_is s = false) (hx : ¬ x < 0) (hn : x.toNatClampNeg = k) (hb : k ≤ 1000000) (he : me_N M s = n)
    (kk : jw G Y d c0 s0 (me_nx M s n k k) (pc + 3) lc (.inr (some (s, n)) :: st) r M') : jw G Y d c0 s0 M pc lc (.inl x :: st) r M' := by
  refine jw_newQ hcl (fun U H h => h.2.2.2.1 C hao) hd hs ht hx hn hb ?_
  rw [me_nx_eq k k he, he]; exact kk
end RowsE
