def jx (G : Gt) (Y : Yt) (d c0 s0 : Nat) (M : Me) (pc : Nat) (lc : List (Option AV)) (st : List AV) (Q : Option AV → Me → Prop) : Prop := ∃ (r : Option AV) (M' : Me), jw G Y d c0 s0 M pc lc st r M' ∧ Q r M'
def sx (G : Gt) (Y : Yt) (y : MethodName) (d : Nat) (as : List AV) (M : Me) (Q : Option AV → Me → Prop) : Prop := ∃ (r : Option AV) (M' : Me), sp G Y y d as M r M' ∧ Q r M'
theorem sx_mono {G : Gt} {Y : Yt} {y : MethodName} {d : Nat} {as : List AV} {M : Me} {Q Q' : Option AV → Me → Prop} (h : sx G Y y d as M Q) (hq : ∀ r M', Q r M' → Q' r M') : sx G Y y d as M Q' := by
  obtain ⟨r, M', h1, h2⟩ := h
  exact ⟨r, M', h1, hq r M' h2⟩
section RowsX
variable {G : Gt} {Y : Yt} {d c0 s0 : Nat} {M M2 : Me} {pc pc2 : Nat} {lc lc2 : List (Option AV)} {st st2 stk : List AV} {Q : Option AV → Me → Prop}
theorem jx_of (h : ∀ (r : Option AV) (M' : Me), jw G Y d c0 s0 M2 pc2 lc2 st2 r M' → jw G Y d c0 s0 M pc lc st r M') (k : jx G Y d c0 s0 M2 pc2 lc2 st2 Q) : jx G Y d c0 s0 M pc lc st Q := by
  obtain ⟨r, M', h1, h2⟩ := k
  exact ⟨r, M', h r M' h1, h2⟩
theorem jx_mono {Q' : Option AV → Me → Prop} (h : jx G Y d c0 s0 M pc lc st Q) (hq : ∀ r M', Q r M' → Q' r M') : jx G Y d c0 s0 M pc lc st Q' := by
  obtain ⟨r, M', h1, h2⟩ := h
  exact ⟨r, M', h1, hq r M' h2⟩
theorem jx_eq (hl : lc = lc2) (hs : st = st2) (hM : M = M2) (k : jx G Y d c0 s0 M2 pc lc2 st2 Q) : jx G Y d c0 s0 M pc lc st Q := by subst hl; subst hs; subst hM; exact k
theorem lc_std (as : List AV) (k : Nat) : ∀ (i : Nat) (v : AV), (as.map some ++ List.replicate k none)[i]? = some (some v) → as[i]? = some v := by
  intro i v h
  rw [List.getElem?_append] at h
  split at h
  · rw [List.getElem?_map] at h
    cases ha : as[i]? with
    | none => rw [ha] at h; cases h
    | some w => rw [ha] at h; cases h; rfl
  · rw [List.getElem?_replicate] at h
    split at h <;> cases h
theorem sx_of {y : MethodName} {n k : Nat} {as : List AV} (hm : mt_ok Y y n) (hlen : as.length ≤ Y.2.1) (hlc : lc = as.map some ++ List.replicate k none) (h : jx G Y d (me_C M) (me_S M) M 0 lc [] Q) : sx G Y y d as M Q := by
  subst hlc
  obtain ⟨r, M', h1, h2⟩ := h
  exact ⟨r, M', sp_of _ hm hlen (lc_std as k) h1, h2⟩
theorem jx_iret {x : Int32} (hd : decode Y.1 pc = .ok (.ireturn, 1)) (hr : Y.2.2.2.2 = some .int) (hq : Q (some (.inl x)) M) : jx G Y d c0 s0 M pc lc [.inl x] Q := ⟨_, _, jw_iret hd hr, hq⟩
theorem jx_zret {x : Int32} (hd : decode Y.1 pc = .ok (.ireturn, 1)) (hr : Y.2.2.2.2 = some .boolean) (hx : x = 0 ∨ x = 1) (hq : Q (some (.inl x)) M) : jx G Y d c0 s0 M pc lc [.inl x] Q := ⟨_, _, jw_zret hd hr hx, hq⟩
theorem jx_vret (hd : decode Y.1 pc = .ok (.return_, 1)) (hr : Y.2.2.2.2 = none) (hq : Q none M) : jx G Y d c0 s0 M pc lc [] Q := ⟨_, _, jw_vret hd hr, hq⟩
theorem jx_aret {a : Option (Nat × Nat)} {C : String} (hd : decode Y.1 pc = .ok (.areturn, 1)) (hr : Y.2.2.2.2 = some (.object C)) (hq : Q (some (.inr a)) M) : jx G Y d c0 s0 M pc lc [.inr a] Q := ⟨_, _, jw_aret hd hr, hq⟩
theorem jx_if_eq {x : Int32} {off : Int} (tgt : Nat) (hd : decode Y.1 pc = .ok (.ifCond .eq off, 3)) (ht : (pc : Int) + off = (tgt : Int)) (kt : x = 0 → jx G Y d c0 s0 M tgt lc st Q) (kf : ¬ x = 0 → jx G Y d c0 s0 M (pc + 3) lc st Q) : jx G Y d c0 s0 M pc lc (.inl x :: st) Q := by
  rcases Classical.em (x = 0) with h | h
  · exact jx_of (fun r M' k => jw_if_eq tgt hd ht (fun _ => k) (fun q => absurd h q)) (kt h)
  · exact jx_of (fun r M' k => jw_if_eq tgt hd ht (fun q => absurd q h) (fun _ => k)) (kf h)
theorem jx_if_ne {x : Int32} {off : Int} (tgt : Nat) (hd : decode Y.1 pc = .ok (.ifCond .ne off, 3)) (ht : (pc : Int) + off = (tgt : Int)) (kt : ¬ x = 0 → jx G Y d c0 s0 M tgt lc st Q) (kf : x = 0 → jx G Y d c0 s0 M (pc + 3) lc st Q) : jx G Y d c0 s0 M pc lc (.inl x :: st) Q := by
  rcases Classical.em (x = 0) with h | h
  · exact jx_of (fun r M' k => jw_if_ne tgt hd ht (fun q => absurd h q) (fun _ => k)) (kf h)
  · exact jx_of (fun r M' k => jw_if_ne tgt hd ht (fun _ => k) (fun q => absurd q h)) (kt h)
theorem jx_if_lt {x : Int32} {off : Int} (tgt : Nat) (hd : decode Y.1 pc = .ok (.ifCond .lt off, 3)) (ht : (pc : Int) + off = (tgt : Int)) (kt : x < 0 → jx G Y d c0 s0 M tgt lc st Q) (kf : ¬ x < 0 → jx G Y d c0 s0 M (pc + 3) lc st Q) : jx G Y d c0 s0 M pc lc (.inl x :: st) Q := by
  rcases Classical.em (x < 0) with h | h
  · exact jx_of (fun r M' k => jw_if_lt tgt hd ht (fun _ => k) (fun q => absurd h q)) (kt h)
  · exact jx_of (fun r M' k => jw_if_lt tgt hd ht (fun q => absurd q h) (fun _ => k)) (kf h)
theorem jx_if_ge {x : Int32} {off : Int} (tgt : Nat) (hd : decode Y.1 pc = .ok (.ifCond .ge off, 3)) (ht : (pc : Int) + off = (tgt : Int)) (kt : 0 ≤ x → jx G Y d c0 s0 M tgt lc st Q) (kf : ¬ 0 ≤ x → jx G Y d c0 s0 M (pc + 3) lc st Q) : jx G Y d c0 s0 M pc lc (.inl x :: st) Q := by
  rcases Classical.em (0 ≤ x) with h | h
  · exact jx_of (fun r M' k => jw_if_ge tgt hd ht (fun _ => k) (fun q => absurd h q)) (kt h)
  · exact jx_of (fun r M' k => jw_if_ge tgt hd ht (fun q => absurd q h) (fun _ => k)) (kf h)
theorem jx_if_gt {x : Int32} {off : Int} (tgt : Nat) (hd : decode Y.1 pc = .ok (.ifCond .gt off, 3)) (ht : (pc : Int) + off = (tgt : Int)) (kt : 0 < x → jx G Y d c0 s0 M tgt lc st Q) (kf : ¬ 0 < x → jx G Y d c0 s0 M (pc + 3) lc st Q) : jx G Y d c0 s0 M pc lc (.inl x :: st) Q := by
  rcases Classical.em (0 < x) with h | h
  · exact jx_of (fun r M' k => jw_if_gt tgt hd ht (fun _ => k) (fun q => absurd h q)) (kt h)
  · exact jx_of (fun r M' k => jw_if_gt tgt hd ht (fun q => absurd q h) (fun _ => k)) (kf h)
theorem jx_if_le {x : Int32} {off : Int} (tgt : Nat) (hd : decode Y.1 pc = .ok (.ifCond .le off, 3)) (ht : (pc : Int) + off = (tgt : Int)) (kt : x ≤ 0 → jx G Y d c0 s0 M tgt lc st Q) (kf : ¬ x ≤ 0 → jx G Y d c0 s0 M (pc + 3) lc st Q) : jx G Y d c0 s0 M pc lc (.inl x :: st) Q := by
  rcases Classical.em (x ≤ 0) with h | h
  · exact jx_of (fun r M' k => jw_if_le tgt hd ht (fun _ => k) (fun q => absurd h q)) (kt h)
  · exact jx_of (fun r M' k => jw_if_le tgt hd ht (fun q => absurd q h) (fun _ => k)) (kf h)
theorem jx_icmp_eq {x y : Int32} {off : Int} (tgt : Nat) (hd : decode Y.1 pc = .ok (.if_icmp .eq off, 3)) (ht : (pc : Int) + off = (tgt : Int)) (kt : x = y → jx G Y d c0 s0 M tgt lc st Q) (kf : ¬ x = y → jx G Y d c0 s0 M (pc + 3) lc st Q) : jx G Y d c0 s0 M pc lc (.inl y :: .inl x :: st) Q := by
  rcases Classical.em (x = y) with h | h
  · exact jx_of (fun r M' k => jw_icmp_eq tgt hd ht (fun _ => k) (fun q => absurd h q)) (kt h)
  · exact jx_of (fun r M' k => jw_icmp_eq tgt hd ht (fun q => absurd q h) (fun _ => k)) (kf h)
theorem jx_icmp_ne {x y : Int32} {off : Int} (tgt : Nat) (hd : decode Y.1 pc = .ok (.if_icmp .ne off, 3)) (ht : (pc : Int) + off = (tgt : Int)) (kt : ¬ x = y → jx G Y d c0 s0 M tgt lc st Q) (kf : x = y → jx G Y d c0 s0 M (pc + 3) lc st Q) : jx G Y d c0 s0 M pc lc (.inl y :: .inl x :: st) Q := by
  rcases Classical.em (x = y) with h | h
  · exact jx_of (fun r M' k => jw_icmp_ne tgt hd ht (fun q => absurd h q) (fun _ => k)) (kf h)
  · exact jx_of (fun r M' k => jw_icmp_ne tgt hd ht (fun _ => k) (fun q => absurd q h)) (kt h)
theorem jx_icmp_lt {x y : Int32} {off : Int} (tgt : Nat) (hd : decode Y.1 pc = .ok (.if_icmp .lt off, 3)) (ht : (pc : Int) + off = (tgt : Int)) (kt : x < y → jx G Y d c0 s0 M tgt lc st Q) (kf : ¬ x < y → jx G Y d c0 s0 M (pc + 3) lc st Q) : jx G Y d c0 s0 M pc lc (.inl y :: .inl x :: st) Q := by
  rcases Classical.em (x < y) with h | h
  · exact jx_of (fun r M' k => jw_icmp_lt tgt hd ht (fun _ => k) (fun q => absurd h q)) (kt h)
  · exact jx_of (fun r M' k => jw_icmp_lt tgt hd ht (fun q => absurd q h) (fun _ => k)) (kf h)
theorem jx_icmp_ge {x y : Int32} {off : Int} (tgt : Nat) (hd : decode Y.1 pc = .ok (.if_icmp .ge off, 3)) (ht : (pc : Int) + off = (tgt : Int)) (kt : y ≤ x → jx G Y d c0 s0 M tgt lc st Q) (kf : ¬ y ≤ x → jx G Y d c0 s0 M (pc + 3) lc st Q) : jx G Y d c0 s0 M pc lc (.inl y :: .inl x :: st) Q := by
  rcases Classical.em (y ≤ x) with h | h
  · exact jx_of (fun r M' k => jw_icmp_ge tgt hd ht (fun _ => k) (fun q => absurd h q)) (kt h)
  · exact jx_of (fun r M' k => jw_icmp_ge tgt hd ht (fun q => absurd q h) (fun _ => k)) (kf h)
theorem jx_icmp_gt {x y : Int32} {off : Int} (tgt : Nat) (hd : decode Y.1 pc = .ok (.if_icmp .gt off, 3)) (ht : (pc : Int) + off = (tgt : Int)) (kt : y < x → jx G Y d c0 s0 M tgt lc st Q) (kf : ¬ y < x → jx G Y d c0 s0 M (pc + 3) lc st Q) : jx G Y d c0 s0 M pc lc (.inl y :: .inl x :: st) Q := by
  rcases Classical.em (y < x) with h | h
  · exact jx_of (fun r M' k => jw_icmp_gt tgt hd ht (fun _ => k) (fun q => absurd h q)) (kt h)
  · exact jx_of (fun r M' k => jw_icmp_gt tgt hd ht (fun q => absurd q h) (fun _ => k)) (kf h)
theorem jx_icmp_le {x y : Int32} {off : Int} (tgt : Nat) (hd : decode Y.1 pc = .ok (.if_icmp .le off, 3)) (ht : (pc : Int) + off = (tgt : Int)) (kt : x ≤ y → jx G Y d c0 s0 M tgt lc st Q) (kf : ¬ x ≤ y → jx G Y d c0 s0 M (pc + 3) lc st Q) : jx G Y d c0 s0 M pc lc (.inl y :: .inl x :: st) Q := by
  rcases Classical.em (x ≤ y) with h | h
  · exact jx_of (fun r M' k => jw_icmp_le tgt hd ht (fun _ => k) (fun q => absurd h q)) (kt h)
  · exact jx_of (fun r M' k => jw_icmp_le tgt hd ht (fun q => absurd q h) (fun _ => k)) (kf h)
theorem jx_ifnull {o : Option (Nat × Nat)} {off : Int} (tgt : Nat) (hd : decode Y.1 pc = .ok (.ifnull off, 3)) (ht : (pc : Int) + off = (tgt : Int)) (kt : o = none → jx G Y d c0 s0 M tgt lc st Q) (kf : ∀ a, o = some a → jx G Y d c0 s0 M (pc + 3) lc st Q) : jx G Y d c0 s0 M pc lc (.inr o :: st) Q := by
  cases o with
  | none => exact jx_of (fun r M' k => jw_ifnull tgt hd ht (fun _ => k) (fun _ h => by cases h)) (kt rfl)
  | some a => exact jx_of (fun r M' k => jw_ifnull tgt hd ht (fun h => by cases h) (fun _ _ => k)) (kf a rfl)
theorem jx_ifnonnull {o : Option (Nat × Nat)} {off : Int} (tgt : Nat) (hd : decode Y.1 pc = .ok (.ifnonnull off, 3)) (ht : (pc : Int) + off = (tgt : Int)) (kt : ∀ a, o = some a → jx G Y d c0 s0 M tgt lc st Q) (kf : o = none → jx G Y d c0 s0 M (pc + 3) lc st Q) : jx G Y d c0 s0 M pc lc (.inr o :: st) Q := by
  cases o with
  | none => exact jx_of (fun r M' k => jw_ifnonnull tgt hd ht (fun _ h => by cases h) (fun _ => k)) (kf rfl)
  | some a => exact jx_of (fun r M' k => jw_ifnonnull tgt hd ht (fun _ _ => k) (fun h => by cases h)) (kt a rfl)
theorem jx_callS {Yz : Yt} {z : MethodName} {as : List AV} {index n : Nat} {Q1 : Option AV → Me → Prop} (hsx : sx G Yz z d as M Q1) (hm : mt_ok Yz z n) (hl : Cond.methodLink Y.2.2.1 index z ∈ TS) (hst2 : Cond.static z ∈ TS) (hd : decode Y.1 pc = .ok (.invokestatic index, 3)) (hn : as.length = n) (hstk : stk = as.reverse ++ st) (hw : st.length ≤ 8)
    (kk : ∀ (r1 : Option AV) (M1 : Me), Q1 r1 M1 → jx G Y (d + 1) c0 s0 M1 (pc + 3) lc (r1.toList ++ st) Q) : jx G Y (d + 1) c0 s0 M pc lc stk Q := by
  obtain ⟨r1, M1, h1, h2⟩ := hsx
  exact jx_of (fun r M' k => jw_callS h1 hm hl hst2 hd hn hstk hw k) (kk r1 M1 h2)
theorem jx_callI {Yz : Yt} {z : MethodName} {As : List AV} {index n s1 i1 : Nat} {Q1 : Option AV → Me → Prop} (hsx : sx G Yz z d (.inr (some (s1, i1)) :: As) M Q1) (hm : mt_ok Yz z n) (hrt : Yz.2.2.2.2 = none) (hnm : z.name = "<init>") (hl : Cond.methodLink Y.2.2.1 index z ∈ TS) (hin : Cond.instanceMethod z ∈ TS) (hd : decode Y.1 pc = .ok (.invokespecial index, 3)) (hn : As.length = n) (hstk : stk = As.reverse ++ .inr (some (s1, i1)) :: st) (hw : st.length ≤ 8)
    (hno : ∀ r1 M1, Q1 r1 M1 → r1 = none) (kk : ∀ (M1 : Me), Q1 none M1 → jx G Y (d + 1) c0 s0 M1 (pc + 3) lc st Q) : jx G Y (d + 1) c0 s0 M pc lc stk Q := by
  obtain ⟨r1, M1, h1, h2⟩ := hsx
  have h3 := hno r1 M1 h2
  subst h3
  exact jx_of (fun r M' k => jw_callI h1 hm hrt hnm hl hin hd hn hstk hw k) (kk M1 h2)
theorem jx_callIN {Yz : Yt} {z : MethodName} {As : List AV} {index n s1 i1 : Nat} {host : String} {Q1 : Option AV → Me → Prop} (hsx : sx G Yz z d (.inr (some (s1, i1)) :: As) M Q1) (hm : mt_ok Yz z n) (hrt : Yz.2.2.2.2 = none) (hnm : z.name = "<init>") (hl : Cond.methodLinkNest Y.2.2.1 index z host ∈ nest_w) (hin : Cond.instanceMethod z ∈ TS) (hd : decode Y.1 pc = .ok (.invokespecial index, 3)) (hn : As.length = n) (hstk : stk = As.reverse ++ .inr (some (s1, i1)) :: st) (hw : st.length ≤ 8)
    (hno : ∀ r1 M1, Q1 r1 M1 → r1 = none) (kk : ∀ (M1 : Me), Q1 none M1 → jx G Y (d + 1) c0 s0 M1 (pc + 3) lc st Q) : jx G Y (d + 1) c0 s0 M pc lc stk Q := by
  obtain ⟨r1, M1, h1, h2⟩ := hsx
  have h3 := hno r1 M1 h2
  subst h3
  exact jx_of (fun r M' k => jw_callIN h1 hm hrt hnm hl hin hd hn hstk hw k) (kk M1 h2)
theorem jx_callV {Yz : Yt} {z : MethodName} {As : List AV} {index n s1 i1 ci : Nat} {T : u_T} {N : Nat} {ty : Nat → FieldType} {Q1 : Option AV → Me → Prop} (hsx : sx G Yz z d (.inr (some (s1, i1)) :: As) M Q1) (hm : mt_ok Yz z n) (hcf : cf_ok ci z.cls T N ty) (hs1 : sk s1 = .inl ci) (ht1 : st_is s1 = false) (hl : Cond.methodLink Y.2.2.1 index z ∈ TS) (hin : Cond.instanceMethod z ∈ TS) (hse : Cond.selects z.cls z z ∈ TS) (hd : decode Y.1 pc = .ok (.invokevirtual index, 3)) (hn : As.length = n) (hstk : stk = As.reverse ++ .inr (some (s1, i1)) :: st) (hw : st.length ≤ 8)
    (kk : ∀ (r1 : Option AV) (M1 : Me), Q1 r1 M1 → jx G Y (d + 1) c0 s0 M1 (pc + 3) lc (r1.toList ++ st) Q) : jx G Y (d + 1) c0 s0 M pc lc stk Q := by
  obtain ⟨r1, M1, h1, h2⟩ := hsx
  exact jx_of (fun r M' k => jw_callV h1 hm hcf hs1 ht1 hl hin hse hd hn hstk hw k) (kk r1 M1 h2)
end RowsX
