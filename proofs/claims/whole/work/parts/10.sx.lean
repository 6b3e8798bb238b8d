/-! MY ROWS: the world is one function F from numbers of cells (0, 1 ..) to their contents; cell i lies at b + i. No sets of places, no joins. -/
abbrev sx_G : Type := va_G × ClassId × ClassId × ClassId × ClassId × Nat
abbrev sx_b (G : sx_G) : Nat := G.2.2.2.2.2
abbrev sx_ty (G : sx_G) : List (ClassId × FieldType) := [(G.2.1, .int), (G.2.2.1, .boolean), (G.2.2.2.1, .object "RaceWatch$Kept"), (G.2.2.2.2.1, .object "RaceWatch$World")]
abbrev rI (G : sx_G) (n : Nat) (f : Nat → Int32) : va_E := .inl (G.2.1, n, .inl f)
abbrev rZ (G : sx_G) (n : Nat) (f : Nat → Int32) : va_E := .inl (G.2.2.1, n, .inl f)
abbrev rK (G : sx_G) (n : Nat) (f : Nat → Option Nat) : va_E := .inl (G.2.2.2.1, n, .inr (.inr (.inr (.inr f))))
abbrev rO (G : sx_G) (n : Nat) (f : Nat → Option Nat) : va_E := .inl (G.2.2.2.2.1, n, .inr (.inr (.inr (.inr f))))
abbrev ob (ci : Nat) (fs : List Value) : va_E := .inr (ci, fs)
abbrev rf (G : sx_G) (i : Nat) : Value := .ref (sx_b G + i)
def sx_A (G : sx_G) : Nat → Prop := fun q => sx_b G ≤ q
def sx_L (G : sx_G) (n : Nat) (F : Nat → va_E) : va_W := (List.range n).map (fun i => (sx_b G + i, F i))
theorem sx_L_get (G : sx_G) {n : Nat} (F : Nat → va_E) {i : Nat} (h : i < n) : (sx_L G n F)[i]? = some (sx_b G + i, F i) := by simp [sx_L, h]
theorem sx_L_lt (G : sx_G) {n : Nat} (F : Nat → va_E) {i : Nat} {q : Nat × va_E} (h : (sx_L G n F)[i]? = some q) : i < n ∧ q = (sx_b G + i, F i) := by
  have h1 : i < n := by have := (List.getElem?_eq_some_iff.mp h).1; simpa [sx_L] using this
  refine ⟨h1, ?_⟩
  rw [sx_L_get G F h1] at h
  exact (Option.some.inj h).symm
theorem sx_L_set (G : sx_G) {n : Nat} (F : Nat → va_E) {i : Nat} (e : va_E) : (sx_L G n F).set i (sx_b G + i, e) = sx_L G n (va_up F i e) := by
  apply List.ext_getElem?
  intro k
  by_cases hk : k < n
  · rw [sx_L_get G _ hk]
    by_cases hki : k = i
    · subst hki
      rw [List.getElem?_set_self (by simp [sx_L]; exact hk), va_up_self]
    · rw [List.getElem?_set_ne (Ne.symm hki), sx_L_get G _ hk, va_up_ne _ _ hki]
  · rw [List.getElem?_eq_none (by simp [sx_L]; omega), List.getElem?_eq_none (by simp [sx_L]; omega)]
theorem sx_L_push (G : sx_G) {n : Nat} (F : Nat → va_E) (e : va_E) : sx_L G n F ++ [(sx_b G + n, e)] = sx_L G (n + 1) (va_up F n e) := by
  simp only [sx_L, List.range_succ, List.map_append, List.map_cons, List.map_nil, va_up_self]
  congr 1
  apply List.map_congr_left
  intro a ha
  rw [va_up_ne _ _ (Nat.ne_of_lt (List.mem_range.mp ha))]
theorem sx_LD (G : sx_G) (n : Nat) (F : Nat → va_E) : va_D (sx_A G) (sx_L G n F) := by
  refine ⟨fun i j p q hi hj h => ?_, fun k q hk => ?_⟩
  · obtain ⟨-, rfl⟩ := sx_L_lt G F hi
    obtain ⟨-, rfl⟩ := sx_L_lt G F hj
    exact Nat.add_left_cancel h
  · obtain ⟨-, rfl⟩ := sx_L_lt G F hk
    exact Nat.le_add_right _ _
/-- private members of nest mates, and the arrays of objects: what the tables say of them -/
def sx_N (U : State) : Prop := va_Nw (.methodLinkNest RX5 35 yX2_init RX6) U ∧ va_Nw (.methodLinkNest RX5 42 yX3_init RX6) U ∧ va_Nw (.methodLinkNest RX6 26 yX4_init RX6) U ∧ va_Nw (.methodLinkNest RX4 17 yX0_init RX6) U ∧ va_Nw (.methodLinkNest RX4 69 yX6_boundOf RX6) U ∧ va_AO "RaceWatch$Kept" U ∧ va_AO "RaceWatch$World" U
theorem sx_N.warm {s U : State} (hW : s.WarmedH U.vm) (h : sx_N s) : sx_N U := ⟨va_Nw.warmM hW h.1, va_Nw.warmM hW h.2.1, va_Nw.warmM hW h.2.2.1, va_Nw.warmM hW h.2.2.2.1, va_Nw.warmM hW h.2.2.2.2.1, va_AO.moved hW.alike h.2.2.2.2.2.1, va_AO.moved hW.alike h.2.2.2.2.2.2⟩
theorem sx_N.same {s U : State} (hW : s.vm = U.vm) (h : sx_N s) : sx_N U := ⟨va_Nw.same rfl hW h.1, va_Nw.same rfl hW h.2.1, va_Nw.same rfl hW h.2.2.1, va_Nw.same rfl hW h.2.2.2.1, va_Nw.same rfl hW h.2.2.2.2.1, va_AO.moved (by rw [hW]; exact Vm.Alike.refl _) h.2.2.2.2.2.1, va_AO.moved (by rw [hW]; exact Vm.Alike.refl _) h.2.2.2.2.2.2⟩
def sx_C (G : sx_G) (U : State) : Prop := va_K G.1 vwCl (sx_ty G) U ∧ sx_N U
theorem sx_C.warm {G : sx_G} {s U : State} (hW : s.WarmedH U.vm) (h : sx_C G s) : sx_C G U := ⟨va_K.moved hW.alike h.1, h.2.warm hW⟩
/-- the heap, while a method runs -/
def sx_H (G : sx_G) (n : Nat) (F : Nat → va_E) (H0 H : Heap) (locs : List Loc) : Prop := va_P G.1 vwCl (sx_L G n F) H ∧ va_S (sx_A G) H0 H locs
/-- the heap, as a method finds and leaves it -/
def sx_P (G : sx_G) (n : Nat) (F : Nat → va_E) (U : State) : Prop := U.heap.size = sx_b G + n ∧ va_P G.1 vwCl (sx_L G n F) U.heap ∧ sx_C G U
theorem sx_blind (G : sx_G) (n : Nat) (F : Nat → va_E) (av : List Value) : FrameBlind (va_Pc av (sx_P G n F)) := by
  intro a U g mk q
  obtain ⟨q0, q1, q2, q3, q4⟩ := q
  exact ⟨q0, q1, q2, va_K.moved (u := U) (U := U.calling g mk a) (Vm.Alike.refl U.vm) q3, q4.same rfl⟩
/-- a contract: an int (or boolean) comes back; nothing; a long -/
def sx_I (G : sx_G) (l : Launch) (y : MethodName) (ws : List Cond) (rm : Room) (av : List Value) (n : Nat) (F : Nat → va_E) (n' : Nat) (post : Int32 → (Nat → va_E) → Prop) : Prop := Met l y ws rm (va_Pc av (sx_P G n F)) (va_Qi post (sx_P G n') (sx_A G)) rm.cells rm.slots (sx_A G)
def sx_V (G : sx_G) (l : Launch) (y : MethodName) (ws : List Cond) (rm : Room) (av : List Value) (n : Nat) (F : Nat → va_E) (n' : Nat) (post : (Nat → va_E) → Prop) : Prop := Met l y ws rm (va_Pc av (sx_P G n F)) (va_Qv post (sx_P G n') (sx_A G)) rm.cells rm.slots (sx_A G)
def sx_J (G : sx_G) (l : Launch) (y : MethodName) (ws : List Cond) (rm : Room) (av : List Value) (n : Nat) (F : Nat → va_E) (n' : Nat) (post : Int64 → (Nat → va_E) → Prop) : Prop := Met l y ws rm (va_Pc av (sx_P G n F)) (va_Ql post (sx_P G n') (sx_A G)) rm.cells rm.slots (sx_A G)
/-- what a method's walk stands on -/
def sx_X (G : sx_G) (p : Program) (m : MethodId) (c : Code) (cc : ByteArray) (nL : Nat) (s : State) (args : Array Value) (Ts : List Cond) (own : String) (meth : Method) (ret : Option FieldType) (nm : String) : Prop := CallFix p m c cc nL s args Ts own ∧ meth.sig.returnType = ret ∧ meth.locks = false ∧ meth.name = nm ∧ sx_C G s
theorem sx_enter {l : Launch} {G : sx_G} {y : MethodName} {ws ws' : List Cond} {rm : Room} {av : List Value} {n : Nat} {F : Nat → va_E} {cc : ByteArray} {maxL : Nat} {ret : Option FieldType} {own nm : String} {Qc : Array Value → State → Outcome → State → Prop} {mc ms : Nat} {free : Addr → Prop}
    (hy : plainName y.cls = true) (hw : ws = Cond.code y cc maxL ret :: ws') (ho : y.cls = own) (hn : y.name = nm) (hm : (lg_sl av).length ≤ maxL)
    (body : ∀ (p : Program) (e : Env) (s : State) (m : MethodId) (args : Array Value) (below : List Frame) (meth : Method) (c : Code) (ls : Array Slot) (Q : State → Prop), Q = MQ below Qc args s mc ms free → sx_X G p m c cc maxL s args ws own meth ret nm → s.heap.size = sx_b G + n → sx_H G n F s.heap s.heap [] → lv_has ls maxL (lv_args 0 av) → W p l e rm s m args below meth c s.heap [] 0 0 Q (F0 m 0 ls [])) :
    Met l y ws rm (va_Pc av (sx_P G n F)) Qc mc ms free := by
  refine Met.ofW (cc := cc) (maxL := maxL) (ret := ret) hy hw ?_
  intro p e s m args below meth c s₁ B hml hv
  obtain ⟨rfl, hsz, hP, hC⟩ := hv
  have hown : s.vm.findClass y.cls = some m.cls := findClass_of_methodNamed B.named
  rw [lg_entry_eq]
  refine body p e s m _ below meth c _ _ rfl ⟨⟨B.exec, B.bytes, hml, by rw [← ho]; exact hown, atoms_spec (ws := ws) B.pre⟩, B.returns, B.notSynchronized, by rw [← hn]; exact (name_of_methodNamed B.named B.method).1, hC⟩ hsz ⟨hP, va_S.rf⟩ (lv_entry av hm)
section SX
variable {G : sx_G} {p : Program} {l : Launch} {e : Env} {R : Room} {s : State} {m : MethodId} {args : Array Value} {below : List Frame} {meth : Method} {c : Code} {H : Heap} {locs : List Loc} {cells slots : Nat} {Q : State → Prop} {cc : ByteArray} {nL : Nat} {Ts : List Cond} {own nm : String} {ret : Option FieldType} {pc : Nat} {ls : Array Slot} {rest : List Value} {n : Nat} {F : Nat → va_E}
/-- the heap's size, by the room that is used up -/
theorem sx_size {T : State} {n0 : Nat} (X : Stand p l e R s m args below meth c T locs cells slots) (hT : T.heap = H) (hs : s.heap.size = sx_b G + n0) (hn : n = n0 + cells) (hP : sx_H G n F s.heap H locs) : H.size = sx_b G + n := by
  have h1 : T.heap.size ≤ s.heap.size + cells := X.same.2.2.1
  rw [hT] at h1
  have h2 := hP.2.1
  by_cases hz : n = 0
  · omega
  · have h3 := (hP.1 (n - 1) _ (sx_L_get G F (by omega))).lt
    have h4 : sx_b G + (n - 1) < H.size := h3
    omega
theorem sx_iret {v : Int32} {n0 : Nat} {post : Int32 → (Nat → va_E) → Prop} (X : sx_X G p m c cc nL s args Ts own meth ret nm) (hr : ret = some .int) (hs : s.heap.size = sx_b G + n0) (hn : n = n0 + cells) (hP : sx_H G n F s.heap H locs) (hd : decode cc pc = .ok (.ireturn, 1)) (hp : post v F) : W p l e R s m args below meth c H locs (cells) (slots) (MQ below (va_Qi post (sx_P G n) (sx_A G)) args s cells slots (sx_A G)) (F0 m (pc) ls ([.int v])) := by
  obtain ⟨⟨hx, hb, -, -, -⟩, hrt, hlk, -, hC⟩ := X
  intro T hT X0
  have hz := sx_size X0 hT hs hn hP
  exact W.iret (v := v) hx hb (by rw [hrt, hr]) (fun t ht hW => ⟨⟨v, F, rfl, hp, by rw [ht]; exact hz, by rw [ht]; exact hP.1, hC.warm hW⟩, hP.2.F ht⟩) hP.2.2.2 hd hlk T hT X0
theorem sx_vret {n0 : Nat} {post : (Nat → va_E) → Prop} (X : sx_X G p m c cc nL s args Ts own meth ret nm) (hr : ret = none) (hs : s.heap.size = sx_b G + n0) (hn : n = n0 + cells) (hP : sx_H G n F s.heap H locs) (hd : decode cc pc = .ok (.return_, 1)) (hp : post F) : W p l e R s m args below meth c H locs (cells) (slots) (MQ below (va_Qv post (sx_P G n) (sx_A G)) args s cells slots (sx_A G)) (F0 m (pc) ls ([])) := by
  obtain ⟨⟨hx, hb, -, -, -⟩, hrt, hlk, -, hC⟩ := X
  intro T hT X0
  have hz := sx_size X0 hT hs hn hP
  exact W.vret hx hb (by rw [hrt, hr]) (fun t ht hW => ⟨⟨F, rfl, hp, by rw [ht]; exact hz, by rw [ht]; exact hP.1, hC.warm hW⟩, hP.2.F ht⟩) hP.2.2.2 hd hlk T hT X0
theorem sx_lret {v : Int64} {n0 : Nat} {post : Int64 → (Nat → va_E) → Prop} (X : sx_X G p m c cc nL s args Ts own meth ret nm) (hr : ret = some .long) (hs : s.heap.size = sx_b G + n0) (hn : n = n0 + cells) (hP : sx_H G n F s.heap H locs) (hd : decode cc pc = .ok (.lreturn, 1)) (hp : post v F) : W p l e R s m args below meth c H locs (cells) (slots) (MQ below (va_Ql post (sx_P G n) (sx_A G)) args s cells slots (sx_A G)) (F0 m (pc) ls ([.long v])) := by
  obtain ⟨⟨hx, hb, -, -, -⟩, hrt, hlk, -, hC⟩ := X
  intro T hT X0
  have hz := sx_size X0 hT hs hn hP
  exact W.lret (v := v) hx hb (by rw [hrt, hr]) (fun t ht hW => ⟨⟨v, F, rfl, hp, by rw [ht]; exact hz, by rw [ht]; exact hP.1, hC.warm hW⟩, hP.2.F ht⟩) hP.2.2.2 hd hlk T hT X0
theorem sx_zret {v : Int32} {n0 : Nat} {post : Int32 → (Nat → va_E) → Prop} (X : sx_X G p m c cc nL s args Ts own meth ret nm) (hr : ret = some .boolean) (hnr : narrow .boolean (.int v) = .int v) (hs : s.heap.size = sx_b G + n0) (hn : n = n0 + cells) (hP : sx_H G n F s.heap H locs) (hd : decode cc pc = .ok (.ireturn, 1)) (hp : post v F) : W p l e R s m args below meth c H locs (cells) (slots) (MQ below (va_Qi post (sx_P G n) (sx_A G)) args s cells slots (sx_A G)) (F0 m (pc) ls ([.int v])) := by
  obtain ⟨⟨hx, hb, -, -, -⟩, hrt, hlk, -, hC⟩ := X
  intro T hT X0
  have hz := sx_size X0 hT hs hn hP
  exact W.zret (v := v) hx hb (by rw [hrt, hr]) hnr (fun t ht hW => ⟨⟨v, F, rfl, hp, by rw [ht]; exact hz, by rw [ht]; exact hP.1, hC.warm hW⟩, hP.2.F ht⟩) hP.2.2.2 hd hlk T hT X0
theorem sx_get (X : sx_X G p m c cc nL s args Ts own meth ret nm) (hP : sx_H G n F s.heap H locs) {C : String} {T : u_T} {N ci index : Nat} (hin : ∀ w ∈ u_ws C T N, w ∈ Ts) {i : Nat} {fs : List Value} (hF : F i = ob ci fs) (hi : i < n) (hc : vwCl[ci]? = some (C, T, N)) (k : Nat) (hk : k < N) (hlink : Cond.fieldLink own index (T k).1 (T k).2.1 (T k).2.2.1 ∈ Ts) {v : Value} (hv : fs[k]? = some v) (hd : decode cc pc = .ok (.getfield index, 3))
    (kk : W p l e R s m args below meth c H locs (cells) (slots) Q (F0 m (pc + 3) ls (v :: rest))) : W p l e R s m args below meth c H locs (cells) (slots) Q (F0 m (pc) ls (rf G i :: rest)) := by
  obtain ⟨⟨hx, hb, -, hown, hts⟩, -, -, -, hC⟩ := X
  exact va_get (D := G.1) hx hb hts hin hown hC.1 hP.1 i (by rw [sx_L_get G F hi, hF]) hc k hk (hts _ hlink) (fun _ h9 => h9) hv hd kk
theorem sx_put (X : sx_X G p m c cc nL s args Ts own meth ret nm) (hP : sx_H G n F s.heap H locs) {C : String} {T : u_T} {N ci index : Nat} (hin : ∀ w ∈ u_ws C T N, w ∈ Ts) (ty0 : Nat → FieldType) (hty : ∀ k, k < N → parseFieldDescriptor (T k).2.2.1 = some (ty0 k)) (hnm : ∀ a, a < N → ∀ b, b < N → a ≠ b → (T a).2.1 ≠ (T b).2.1) {i : Nat} {fs : List Value} (hF : F i = ob ci fs) (hi : i < n) (hc : vwCl[ci]? = some (C, T, N)) (k : Nat) (hk : k < N) (hlink : Cond.fieldLink own index (T k).1 (T k).2.1 (T k).2.2.1 ∈ Ts) (hfin : (T k).2.2.2 = false) {v : Value} (hnr : narrow (ty0 k) v = v) (hfit : fits (ty0 k) v = true) (hl : k < fs.length) (hd : decode cc pc = .ok (.putfield index, 3))
    (kk : ∀ (F1 : Nat → va_E) (H1 : Heap) (locs1 : List Loc), F1 i = ob ci (fs.set k v) → (∀ j, j ≠ i → F1 j = F j) → sx_H G n F1 s.heap H1 locs1 → W p l e R s m args below meth c H1 locs1 (cells) (slots) Q (F0 m (pc + 3) ls (rest))) : W p l e R s m args below meth c H locs (cells) (slots) Q (F0 m (pc) ls (v :: rf G i :: rest)) := by
  obtain ⟨⟨hx, hb, -, hown, hts⟩, -, -, -, hC⟩ := X
  refine va_put (D := G.1) hx hb hts hin ty0 hty hnm hown hC.1 hP.1 (sx_LD G n F) hP.2 i (by rw [sx_L_get G F hi, hF]) hc k hk (hts _ hlink) (fun _ h9 => h9) hfin (hty k hk) hnr hfit hl hd (fun H1 locs1 h1 _ h3 => ?_)
  rw [sx_L_set] at h1
  exact kk _ H1 locs1 (va_up_self _ _ _) (fun j hj => va_up_ne _ _ hj) ⟨h1, h3⟩
theorem sx_putF (X : sx_X G p m c cc nL s args Ts own meth ret nm) (hP : sx_H G n F s.heap H locs) {C : String} {T : u_T} {N ci index : Nat} (hin : ∀ w ∈ u_ws C T N, w ∈ Ts) (ty0 : Nat → FieldType) (hty : ∀ k, k < N → parseFieldDescriptor (T k).2.2.1 = some (ty0 k)) (hnm : ∀ a, a < N → ∀ b, b < N → a ≠ b → (T a).2.1 ≠ (T b).2.1) {i : Nat} {fs : List Value} (hF : F i = ob ci fs) (hi : i < n) (hc : vwCl[ci]? = some (C, T, N)) (k : Nat) (hk : k < N) (hlink : Cond.fieldLink own index (T k).1 (T k).2.1 (T k).2.2.1 ∈ Ts) (hfin : (T k).2.2.2 = true) (hin2 : nm = "<init>") (hdecl : (T k).1 = own) {v : Value} (hnr : narrow (ty0 k) v = v) (hfit : fits (ty0 k) v = true) (hl : k < fs.length) (hd : decode cc pc = .ok (.putfield index, 3))
    (kk : ∀ (F1 : Nat → va_E) (H1 : Heap) (locs1 : List Loc), F1 i = ob ci (fs.set k v) → (∀ j, j ≠ i → F1 j = F j) → sx_H G n F1 s.heap H1 locs1 → W p l e R s m args below meth c H1 locs1 (cells) (slots) Q (F0 m (pc + 3) ls (rest))) : W p l e R s m args below meth c H locs (cells) (slots) Q (F0 m (pc) ls (v :: rf G i :: rest)) := by
  obtain ⟨⟨hx, hb, -, hown, hts⟩, -, -, hnm2, hC⟩ := X
  refine va_putF (D := G.1) hx hb hts hin ty0 hty hnm hown hC.1 hP.1 (sx_LD G n F) hP.2 i (by rw [sx_L_get G F hi, hF]) hc k hk (hts _ hlink) (fun _ h9 => h9) hfin (hnm2.trans hin2) hdecl (hty k hk) hnr hfit hl hd (fun H1 locs1 h1 _ h3 => ?_)
  rw [sx_L_set] at h1
  exact kk _ H1 locs1 (va_up_self _ _ _) (fun j hj => va_up_ne _ _ hj) ⟨h1, h3⟩
theorem sx_ald (X : sx_X G p m c cc nL s args Ts own meth ret nm) (hP : sx_H G n F s.heap H locs) {i len : Nat} {f : Nat → Int32} (hF : F i = rI G len f) (hi : i < n) (j : Nat) (hj : j < len) (hlen : len < 2 ^ 31) (hd : decode cc pc = .ok (.iaload, 1))
    (kk : W p l e R s m args below meth c H locs (cells) (slots) Q (F0 m (pc + 1) ls (.int (f j) :: rest))) : W p l e R s m args below meth c H locs (cells) (slots) Q (F0 m (pc) ls (.int (nI j) :: rf G i :: rest)) := by
  obtain ⟨⟨hx, hb, -, hown, hts⟩, -, -, -, hC⟩ := X
  exact va_iald (D := G.1) hx hb hC.1 hP.1 i 0 (by rw [sx_L_get G F hi, hF]) rfl (vp_in_nI hj hlen) hd (by rw [nI_clamp (Nat.lt_trans hj hlen)]; exact kk)
theorem sx_ast (X : sx_X G p m c cc nL s args Ts own meth ret nm) (hP : sx_H G n F s.heap H locs) {i len : Nat} {f : Nat → Int32} (hF : F i = rI G len f) (hi : i < n) (j : Nat) (hj : j < len) (hlen : len < 2 ^ 31) {x : Int32} (hd : decode cc pc = .ok (.iastore, 1))
    (kk : ∀ (F1 : Nat → va_E) (H1 : Heap) (locs1 : List Loc), F1 i = rI G len (upd f j x) → (∀ j, j ≠ i → F1 j = F j) → sx_H G n F1 s.heap H1 locs1 → W p l e R s m args below meth c H1 locs1 (cells) (slots) Q (F0 m (pc + 1) ls (rest))) : W p l e R s m args below meth c H locs (cells) (slots) Q (F0 m (pc) ls (.int x :: .int (nI j) :: rf G i :: rest)) := by
  obtain ⟨⟨hx, hb, -, hown, hts⟩, -, -, -, hC⟩ := X
  refine va_iast (D := G.1) hx hb hC.1 hP.1 (sx_LD G n F) hP.2 i 0 (by rw [sx_L_get G F hi, hF]) rfl (vp_in_nI hj hlen) hd (fun H1 locs1 h1 _ h3 => ?_)
  rw [sx_L_set, nI_clamp (Nat.lt_trans hj hlen)] at h1
  exact kk _ H1 locs1 (va_up_self _ _ _) (fun j hj => va_up_ne _ _ hj) ⟨h1, h3⟩
theorem sx_zald (X : sx_X G p m c cc nL s args Ts own meth ret nm) (hP : sx_H G n F s.heap H locs) {i len : Nat} {f : Nat → Int32} (hF : F i = rZ G len f) (hi : i < n) (j : Nat) (hj : j < len) (hlen : len < 2 ^ 31) (hd : decode cc pc = .ok (.baload, 1))
    (kk : W p l e R s m args below meth c H locs (cells) (slots) Q (F0 m (pc + 1) ls (.int (f j) :: rest))) : W p l e R s m args below meth c H locs (cells) (slots) Q (F0 m (pc) ls (.int (nI j) :: rf G i :: rest)) := by
  obtain ⟨⟨hx, hb, -, hown, hts⟩, -, -, -, hC⟩ := X
  exact va_zald (D := G.1) hx hb hC.1 hP.1 i 1 (by rw [sx_L_get G F hi, hF]) rfl (vp_in_nI hj hlen) hd (by rw [nI_clamp (Nat.lt_trans hj hlen)]; exact kk)
theorem sx_zast (X : sx_X G p m c cc nL s args Ts own meth ret nm) (hP : sx_H G n F s.heap H locs) {i len : Nat} {f : Nat → Int32} (hF : F i = rZ G len f) (hi : i < n) (j : Nat) (hj : j < len) (hlen : len < 2 ^ 31) {x : Int32} (hnx : vp_nar .boolean x = x) (hd : decode cc pc = .ok (.bastore, 1))
    (kk : ∀ (F1 : Nat → va_E) (H1 : Heap) (locs1 : List Loc), F1 i = rZ G len (upd f j x) → (∀ j, j ≠ i → F1 j = F j) → sx_H G n F1 s.heap H1 locs1 → W p l e R s m args below meth c H1 locs1 (cells) (slots) Q (F0 m (pc + 1) ls (rest))) : W p l e R s m args below meth c H locs (cells) (slots) Q (F0 m (pc) ls (.int x :: .int (nI j) :: rf G i :: rest)) := by
  obtain ⟨⟨hx, hb, -, hown, hts⟩, -, -, -, hC⟩ := X
  refine va_zast (D := G.1) hx hb hC.1 hP.1 (sx_LD G n F) hP.2 i 1 (by rw [sx_L_get G F hi, hF]) rfl (vp_in_nI hj hlen) hd (fun H1 locs1 h1 _ h3 => ?_)
  rw [sx_L_set, nI_clamp (Nat.lt_trans hj hlen), hnx] at h1
  exact kk _ H1 locs1 (va_up_self _ _ _) (fun j hj => va_up_ne _ _ hj) ⟨h1, h3⟩
theorem sx_kald (X : sx_X G p m c cc nL s args Ts own meth ret nm) (hP : sx_H G n F s.heap H locs) {i len : Nat} {f : Nat → Option Nat} (hF : F i = rK G len f) (hi : i < n) (j : Nat) (hj : j < len) (hlen : len < 2 ^ 31) {q : Nat} (hq : f j = some (sx_b G + q)) (hd : decode cc pc = .ok (.aaload, 1))
    (kk : W p l e R s m args below meth c H locs (cells) (slots) Q (F0 m (pc + 1) ls (rf G q :: rest))) : W p l e R s m args below meth c H locs (cells) (slots) Q (F0 m (pc) ls (.int (nI j) :: rf G i :: rest)) := by
  obtain ⟨⟨hx, hb, -, hown, hts⟩, -, -, -, hC⟩ := X
  exact va_aldq (D := G.1) hx hb hC.1 hP.1 i 2 (by rw [sx_L_get G F hi, hF]) rfl (vp_in_nI hj hlen) hd (by rw [nI_clamp (Nat.lt_trans hj hlen), hq]; exact kk)
theorem sx_oald (X : sx_X G p m c cc nL s args Ts own meth ret nm) (hP : sx_H G n F s.heap H locs) {i len : Nat} {f : Nat → Option Nat} (hF : F i = rO G len f) (hi : i < n) (j : Nat) (hj : j < len) (hlen : len < 2 ^ 31) {q : Nat} (hq : f j = some (sx_b G + q)) (hd : decode cc pc = .ok (.aaload, 1))
    (kk : W p l e R s m args below meth c H locs (cells) (slots) Q (F0 m (pc + 1) ls (rf G q :: rest))) : W p l e R s m args below meth c H locs (cells) (slots) Q (F0 m (pc) ls (.int (nI j) :: rf G i :: rest)) := by
  obtain ⟨⟨hx, hb, -, hown, hts⟩, -, -, -, hC⟩ := X
  exact va_aldq (D := G.1) hx hb hC.1 hP.1 i 3 (by rw [sx_L_get G F hi, hF]) rfl (vp_in_nI hj hlen) hd (by rw [nI_clamp (Nat.lt_trans hj hlen), hq]; exact kk)
theorem sx_alen (X : sx_X G p m c cc nL s args Ts own meth ret nm) (hP : sx_H G n F s.heap H locs) {i len : Nat} {f : Nat → Int32} (hF : F i = rI G len f) (hi : i < n) (hd : decode cc pc = .ok (.arraylength, 1))
    (kk : W p l e R s m args below meth c H locs (cells) (slots) Q (F0 m (pc + 1) ls (.int (nI len) :: rest))) : W p l e R s m args below meth c H locs (cells) (slots) Q (F0 m (pc) ls (rf G i :: rest)) := by
  obtain ⟨⟨hx, hb, -, hown, hts⟩, -, -, -, hC⟩ := X
  exact va_alen (D := G.1) hx hb hC.1 hP.1 i 0 (x := (len, .inl f)) (by rw [sx_L_get G F hi, hF]) (ty := .int) rfl rfl hd kk
theorem sx_kast (X : sx_X G p m c cc nL s args Ts own meth ret nm) (hP : sx_H G n F s.heap H locs) {i len : Nat} {f : Nat → Option Nat} (hF : F i = rK G len f) (hi : i < n) (j : Nat) (hj : j < len) (hlen : len < 2 ^ 31) {q : Nat} {vs : List Value} (hq : F q = ob 2 vs) (hqn : q < n) (hd : decode cc pc = .ok (.aastore, 1))
    (kk : ∀ (F1 : Nat → va_E) (H1 : Heap) (locs1 : List Loc), F1 i = rK G len (va_up f j (some (sx_b G + q))) → (∀ j, j ≠ i → F1 j = F j) → sx_H G n F1 s.heap H1 locs1 → W p l e R s m args below meth c H1 locs1 (cells) (slots) Q (F0 m (pc + 1) ls (rest))) : W p l e R s m args below meth c H locs (cells) (slots) Q (F0 m (pc) ls (rf G q :: .int (nI j) :: rf G i :: rest)) := by
  obtain ⟨⟨hx, hb, -, hown, hts⟩, -, -, -, hC⟩ := X
  refine va_astq (D := G.1) hx hb hC.1 hP.1 (sx_LD G n F) hP.2 i 2 q 2 (r := (RX2, TX2, 10)) (by rw [sx_L_get G F hi, hF]) rfl (by rw [sx_L_get G F hqn, hq]) rfl (vp_in_nI hj hlen) hd (fun H1 locs1 h1 _ h3 => ?_)
  rw [sx_L_set, nI_clamp (Nat.lt_trans hj hlen)] at h1
  exact kk _ H1 locs1 (va_up_self _ _ _) (fun j hj => va_up_ne _ _ hj) ⟨h1, h3⟩
theorem sx_oast (X : sx_X G p m c cc nL s args Ts own meth ret nm) (hP : sx_H G n F s.heap H locs) {i len : Nat} {f : Nat → Option Nat} (hF : F i = rO G len f) (hi : i < n) (j : Nat) (hj : j < len) (hlen : len < 2 ^ 31) {q : Nat} {vs : List Value} (hq : F q = ob 5 vs) (hqn : q < n) (hd : decode cc pc = .ok (.aastore, 1))
    (kk : ∀ (F1 : Nat → va_E) (H1 : Heap) (locs1 : List Loc), F1 i = rO G len (va_up f j (some (sx_b G + q))) → (∀ j, j ≠ i → F1 j = F j) → sx_H G n F1 s.heap H1 locs1 → W p l e R s m args below meth c H1 locs1 (cells) (slots) Q (F0 m (pc + 1) ls (rest))) : W p l e R s m args below meth c H locs (cells) (slots) Q (F0 m (pc) ls (rf G q :: .int (nI j) :: rf G i :: rest)) := by
  obtain ⟨⟨hx, hb, -, hown, hts⟩, -, -, -, hC⟩ := X
  refine va_astq (D := G.1) hx hb hC.1 hP.1 (sx_LD G n F) hP.2 i 3 q 5 (r := (RX5, TX5, 7)) (by rw [sx_L_get G F hi, hF]) rfl (by rw [sx_L_get G F hqn, hq]) rfl (vp_in_nI hj hlen) hd (fun H1 locs1 h1 _ h3 => ?_)
  rw [sx_L_set, nI_clamp (Nat.lt_trans hj hlen)] at h1
  exact kk _ H1 locs1 (va_up_self _ _ _) (fun j hj => va_up_ne _ _ hj) ⟨h1, h3⟩
theorem sx_copy (X : sx_X G p m c cc nL s args Ts own meth ret nm) (hP : sx_H G n F s.heap H locs) (hls : ls.size = nL) {index : Nat} (hlink : Cond.methodLink own index arraycopyName ∈ Ts) (hnat : Cond.native arraycopyName ∈ Ts) (hstat : Cond.static arraycopyName ∈ Ts) (hini : Cond.initialized "java/lang/System" ∈ Ts) {i i0 len len0 : Nat} {f g : Nat → Int32} (hF0 : F i0 = rI G len0 f) (hF : F i = rI G len g) (hi0 : i0 < n) (hi : i < n) (sp dp k : Nat) (h4 : sp + k ≤ len0) (h5 : dp + k ≤ len) (hl0 : len0 < 2 ^ 31) (hl1 : len < 2 ^ 31) (hfr : 1 ≤ R.frames) (hlo : (rest.map fun v => v.category).sum + (nativeFrameWords "java/lang/System" "arraycopy" 5 + 11) ≤ R.locals) (hd : decode cc pc = .ok (.invokestatic index, 3))
    (kk : ∀ (F1 : Nat → va_E) (H1 : Heap) (locs1 : List Loc), F1 i = rI G len (va_cpy f g sp dp k) → (∀ j, j ≠ i → F1 j = F j) → sx_H G n F1 s.heap H1 locs1 → W p l e R s m args below meth c H1 locs1 (cells) (slots) Q (F0 m (pc + 3) ls (rest))) : W p l e R s m args below meth c H locs (cells) (slots) Q (F0 m (pc) ls (.int (nI k) :: .int (nI dp) :: rf G i :: .int (nI sp) :: rf G i0 :: rest)) := by
  obtain ⟨⟨hx, hb, hml, hown, hts⟩, -, -, -, hC⟩ := X
  have e1 : (nI sp).toNatClampNeg = sp := nI_clamp (by omega)
  have e2 : (nI dp).toNatClampNeg = dp := nI_clamp (by omega)
  have e3 : (nI k).toNatClampNeg = k := nI_clamp (by omega)
  refine va_copyi (D := G.1) hx hb (hml.trans hls.symm) hown (hts _ hlink) (hts _ hnat) (hts _ hstat) (hts _ hini) hC.1 hP.1 (sx_LD G n F) hP.2 i0 i 0 0 (by rw [sx_L_get G F hi0, hF0]) (by rw [sx_L_get G F hi, hF]) rfl rfl rfl (nI_pos (by omega)) (nI_pos (by omega)) (nI_pos (by omega)) (by rw [e1, e3]; exact h4) (by rw [e2, e3]; exact h5) (fun _ _ => rfl) hfr hlo hd (fun H1 locs1 h1 _ h3 => ?_)
  rw [sx_L_set, e1, e2, e3] at h1
  exact kk _ H1 locs1 (va_up_self _ _ _) (fun j hj => va_up_ne _ _ hj) ⟨h1, h3⟩
theorem sx_max (X : sx_X G p m c cc nL s args Ts own meth ret nm) (hls : ls.size = nL) {index : Nat} (hlink : Cond.methodLink own index Lib.Math.max.name ∈ Ts) (hstat : Cond.static Lib.Math.max.name ∈ Ts) (hini : Cond.initialized "java/lang/Math" ∈ Ts) (hcode : Cond.code Lib.Math.max.name Lib.Math.max.code 2 (some .int) ∈ Ts) (hfr : 1 ≤ R.frames) (hlo : (rest.map fun v => v.category).sum + 13 ≤ R.locals) (hc : cells ≤ R.cells) (hs : slots ≤ R.slots) {x y : Int32} (hd : decode cc pc = .ok (.invokestatic index, 3))
    (kk : W p l e R s m args below meth c H locs (cells) (slots) Q (F0 m (pc + 3) ls (.int (if x < y then y else x) :: rest))) : W p l e R s m args below meth c H locs (cells) (slots) Q (F0 m (pc) ls (.int y :: .int x :: rest)) := by
  obtain ⟨⟨hx, hb, hml, hown, hts⟩, -, -, -, hC⟩ := X
  exact va_mmax hx hb (hml.trans hls.symm) hown (hts _ hlink) (hts _ hstat) (hts _ hini) (hts _ hcode) hfr hlo hc hs hd kk
theorem sx_min (X : sx_X G p m c cc nL s args Ts own meth ret nm) (hls : ls.size = nL) {index : Nat} (hlink : Cond.methodLink own index Lib.Math.min.name ∈ Ts) (hstat : Cond.static Lib.Math.min.name ∈ Ts) (hini : Cond.initialized "java/lang/Math" ∈ Ts) (hcode : Cond.code Lib.Math.min.name Lib.Math.min.code 2 (some .int) ∈ Ts) (hfr : 1 ≤ R.frames) (hlo : (rest.map fun v => v.category).sum + 13 ≤ R.locals) (hc : cells ≤ R.cells) (hs : slots ≤ R.slots) {x y : Int32} (hd : decode cc pc = .ok (.invokestatic index, 3))
    (kk : W p l e R s m args below meth c H locs (cells) (slots) Q (F0 m (pc + 3) ls (.int (if y < x then y else x) :: rest))) : W p l e R s m args below meth c H locs (cells) (slots) Q (F0 m (pc) ls (.int y :: .int x :: rest)) := by
  obtain ⟨⟨hx, hb, hml, hown, hts⟩, -, -, -, hC⟩ := X
  exact va_mmin hx hb (hml.trans hls.symm) hown (hts _ hlink) (hts _ hstat) (hts _ hini) (hts _ hcode) hfr hlo hc hs hd kk
theorem sx_cvI {y : MethodName} {ws ws' : List Cond} {rm : Room} {As : List Value} {n' : Nat} {bytes : ByteArray} {maxL index n0 : Nat} {ret' : Option FieldType} {st0 : List Value} {post : Int32 → (Nat → va_E) → Prop} {C : String} {i ci : Nat} {fs : List Value} {q : vw_C} (X : sx_X G p m c cc nL s args Ts own meth ret nm) (hM : sx_I G l y ws rm (rf G i :: As) n F n' post) (hG : GoodIn Ts (wsV own index C y ws)) (hw : ws = Cond.code y bytes maxL ret' :: ws') (hd : y.cls = C ∧ y.cls ≠ "java/lang/invoke/MethodHandle" ∧ y.cls ≠ "java/lang/invoke/VarHandle" ∧ (parseMethodDescriptor y.desc).map (fun d => d.parameters.length) = some As.length) (hR : rm.frames + 1 ≤ R.frames ∧ 8 + (maxL + 11) + rm.locals ≤ R.locals) (hF : F i = ob ci fs) (hi : i < n) (hc : vwCl[ci]? = some q) (hq : q.1 = C) (hls : ls.size = nL) (hst : st0 = As.reverse ++ rf G i :: rest) (hroom : (rest.map fun v => v.category).sum ≤ 8) (hdg : decode cc pc = .ok (.invokevirtual index, 3)) (hcs : cells + rm.cells ≤ R.cells ∧ slots + rm.slots ≤ R.slots) (hs : s.heap.size = sx_b G + n0) (hn : n = n0 + cells) (hP : sx_H G n F s.heap H locs)
    (kk : ∀ (r : Int32) (F1 : Nat → va_E) (H1 : Heap) (locs1 : List Loc), post r F1 → sx_H G n' F1 s.heap H1 locs1 → W p l e R s m args below meth c H1 locs1 (cells + rm.cells) (slots + rm.slots) Q (F0 m (pc + 3) ls (.int r :: rest))) : W p l e R s m args below meth c H locs (cells) (slots) Q (F0 m (pc) ls (st0)) := by
  subst hst
  subst hq
  obtain ⟨Sf, -, -, -, hC⟩ := X
  obtain ⟨hx, hb, hml, hown, hts⟩ := id Sf
  intro T hT X0
  have hz := sx_size X0 hT hs hn hP
  refine va_calli (A0 := sx_A G) (H0 := s.heap) (va_runV (As := As) (rest := rest) Sf hM (cwV As.length hts hG hw rfl rfl hd hR) ⟨sx_blind G n F _, va_recv hC.1 hP.1 (q0 := i) hc (by rw [sx_L_get G F hi, hF]), fun U hU hW => ⟨rfl, by rw [hU]; exact hz, by rw [hU]; exact hP.1, hC.warm hW⟩⟩ rfl rfl hls rfl (lv_room hroom) hdg hcs) hP.2 (fun _ _ h => h) (fun _ h => h) (fun r F1 t H1 locs1 ht hvm hp hB hz1 hk1 hS1 => ?_) T hT X0
  exact kk r F1 H1 locs1 hp ⟨by rw [← ht]; exact hB.2.1, hS1⟩
theorem sx_cvV {y : MethodName} {ws ws' : List Cond} {rm : Room} {As : List Value} {n' : Nat} {bytes : ByteArray} {maxL index n0 : Nat} {ret' : Option FieldType} {st0 : List Value} {post : (Nat → va_E) → Prop} {C : String} {i ci : Nat} {fs : List Value} {q : vw_C} (X : sx_X G p m c cc nL s args Ts own meth ret nm) (hM : sx_V G l y ws rm (rf G i :: As) n F n' post) (hG : GoodIn Ts (wsV own index C y ws)) (hw : ws = Cond.code y bytes maxL ret' :: ws') (hd : y.cls = C ∧ y.cls ≠ "java/lang/invoke/MethodHandle" ∧ y.cls ≠ "java/lang/invoke/VarHandle" ∧ (parseMethodDescriptor y.desc).map (fun d => d.parameters.length) = some As.length) (hR : rm.frames + 1 ≤ R.frames ∧ 8 + (maxL + 11) + rm.locals ≤ R.locals) (hF : F i = ob ci fs) (hi : i < n) (hc : vwCl[ci]? = some q) (hq : q.1 = C) (hls : ls.size = nL) (hst : st0 = As.reverse ++ rf G i :: rest) (hroom : (rest.map fun v => v.category).sum ≤ 8) (hdg : decode cc pc = .ok (.invokevirtual index, 3)) (hcs : cells + rm.cells ≤ R.cells ∧ slots + rm.slots ≤ R.slots) (hs : s.heap.size = sx_b G + n0) (hn : n = n0 + cells) (hP : sx_H G n F s.heap H locs)
    (kk : ∀ (F1 : Nat → va_E) (H1 : Heap) (locs1 : List Loc), post F1 → sx_H G n' F1 s.heap H1 locs1 → W p l e R s m args below meth c H1 locs1 (cells + rm.cells) (slots + rm.slots) Q (F0 m (pc + 3) ls (rest))) : W p l e R s m args below meth c H locs (cells) (slots) Q (F0 m (pc) ls (st0)) := by
  subst hst
  subst hq
  obtain ⟨Sf, -, -, -, hC⟩ := X
  obtain ⟨hx, hb, hml, hown, hts⟩ := id Sf
  intro T hT X0
  have hz := sx_size X0 hT hs hn hP
  refine va_callv (A0 := sx_A G) (H0 := s.heap) (va_runV (As := As) (rest := rest) Sf hM (cwV As.length hts hG hw rfl rfl hd hR) ⟨sx_blind G n F _, va_recv hC.1 hP.1 (q0 := i) hc (by rw [sx_L_get G F hi, hF]), fun U hU hW => ⟨rfl, by rw [hU]; exact hz, by rw [hU]; exact hP.1, hC.warm hW⟩⟩ rfl rfl hls rfl (lv_room hroom) hdg hcs) hP.2 (fun _ _ h => h) (fun _ h => h) (fun F1 t H1 locs1 ht hvm hp hB hz1 hk1 hS1 => ?_) T hT X0
  exact kk F1 H1 locs1 hp ⟨by rw [← ht]; exact hB.2.1, hS1⟩
theorem sx_csI {y : MethodName} {ws ws' : List Cond} {rm : Room} {As : List Value} {n' : Nat} {bytes : ByteArray} {maxL index n0 : Nat} {ret' : Option FieldType} {st0 : List Value} {post : Int32 → (Nat → va_E) → Prop} (X : sx_X G p m c cc nL s args Ts own meth ret nm) (hM : sx_I G l y ws rm As n F n' post) (hG : GoodIn Ts (va_wsS own index y ws)) (hw : ws = Cond.code y bytes maxL ret' :: ws') (hd : y.cls ≠ "java/lang/invoke/MethodHandle" ∧ y.cls ≠ "java/lang/invoke/VarHandle" ∧ (parseMethodDescriptor y.desc).map (fun d => d.parameters.length) = some As.length) (hR : rm.frames + 1 ≤ R.frames ∧ 8 + (maxL + 11) + rm.locals ≤ R.locals) (hls : ls.size = nL) (hst : st0 = As.reverse ++ rest) (hroom : (rest.map fun v => v.category).sum ≤ 8) (hdg : decode cc pc = .ok (.invokestatic index, 3)) (hcs : cells + rm.cells ≤ R.cells ∧ slots + rm.slots ≤ R.slots) (hs : s.heap.size = sx_b G + n0) (hn : n = n0 + cells) (hP : sx_H G n F s.heap H locs)
    (kk : ∀ (r : Int32) (F1 : Nat → va_E) (H1 : Heap) (locs1 : List Loc), post r F1 → sx_H G n' F1 s.heap H1 locs1 → W p l e R s m args below meth c H1 locs1 (cells + rm.cells) (slots + rm.slots) Q (F0 m (pc + 3) ls (.int r :: rest))) : W p l e R s m args below meth c H locs (cells) (slots) Q (F0 m (pc) ls (st0)) := by
  subst hst
  obtain ⟨Sf, -, -, -, hC⟩ := X
  obtain ⟨hx, hb, hml, hown, hts⟩ := id Sf
  intro T hT X0
  have hz := sx_size X0 hT hs hn hP
  refine va_calli (A0 := sx_A G) (H0 := s.heap) (va_runS (As := As) (rest := rest) Sf hM (va_cwS As.length hts hG hw rfl rfl hd hR) ⟨sx_blind G n F _, fun U hU hW => ⟨rfl, by rw [hU]; exact hz, by rw [hU]; exact hP.1, hC.warm hW⟩⟩ rfl rfl hls rfl (lv_room hroom) hdg hcs) hP.2 (fun _ _ h => h) (fun _ h => h) (fun r F1 t H1 locs1 ht hvm hp hB hz1 hk1 hS1 => ?_) T hT X0
  exact kk r F1 H1 locs1 hp ⟨by rw [← ht]; exact hB.2.1, hS1⟩
theorem sx_csV {y : MethodName} {ws ws' : List Cond} {rm : Room} {As : List Value} {n' : Nat} {bytes : ByteArray} {maxL index n0 : Nat} {ret' : Option FieldType} {st0 : List Value} {post : (Nat → va_E) → Prop} (X : sx_X G p m c cc nL s args Ts own meth ret nm) (hM : sx_V G l y ws rm As n F n' post) (hG : GoodIn Ts (va_wsS own index y ws)) (hw : ws = Cond.code y bytes maxL ret' :: ws') (hd : y.cls ≠ "java/lang/invoke/MethodHandle" ∧ y.cls ≠ "java/lang/invoke/VarHandle" ∧ (parseMethodDescriptor y.desc).map (fun d => d.parameters.length) = some As.length) (hR : rm.frames + 1 ≤ R.frames ∧ 8 + (maxL + 11) + rm.locals ≤ R.locals) (hls : ls.size = nL) (hst : st0 = As.reverse ++ rest) (hroom : (rest.map fun v => v.category).sum ≤ 8) (hdg : decode cc pc = .ok (.invokestatic index, 3)) (hcs : cells + rm.cells ≤ R.cells ∧ slots + rm.slots ≤ R.slots) (hs : s.heap.size = sx_b G + n0) (hn : n = n0 + cells) (hP : sx_H G n F s.heap H locs)
    (kk : ∀ (F1 : Nat → va_E) (H1 : Heap) (locs1 : List Loc), post F1 → sx_H G n' F1 s.heap H1 locs1 → W p l e R s m args below meth c H1 locs1 (cells + rm.cells) (slots + rm.slots) Q (F0 m (pc + 3) ls (rest))) : W p l e R s m args below meth c H locs (cells) (slots) Q (F0 m (pc) ls (st0)) := by
  subst hst
  obtain ⟨Sf, -, -, -, hC⟩ := X
  obtain ⟨hx, hb, hml, hown, hts⟩ := id Sf
  intro T hT X0
  have hz := sx_size X0 hT hs hn hP
  refine va_callv (A0 := sx_A G) (H0 := s.heap) (va_runS (As := As) (rest := rest) Sf hM (va_cwS As.length hts hG hw rfl rfl hd hR) ⟨sx_blind G n F _, fun U hU hW => ⟨rfl, by rw [hU]; exact hz, by rw [hU]; exact hP.1, hC.warm hW⟩⟩ rfl rfl hls rfl (lv_room hroom) hdg hcs) hP.2 (fun _ _ h => h) (fun _ h => h) (fun F1 t H1 locs1 ht hvm hp hB hz1 hk1 hS1 => ?_) T hT X0
  exact kk F1 H1 locs1 hp ⟨by rw [← ht]; exact hB.2.1, hS1⟩
theorem sx_csJ {y : MethodName} {ws ws' : List Cond} {rm : Room} {As : List Value} {n' : Nat} {bytes : ByteArray} {maxL index n0 : Nat} {ret' : Option FieldType} {st0 : List Value} {post : Int64 → (Nat → va_E) → Prop} (X : sx_X G p m c cc nL s args Ts own meth ret nm) (hM : sx_J G l y ws rm As n F n' post) (hG : GoodIn Ts (va_wsS own index y ws)) (hw : ws = Cond.code y bytes maxL ret' :: ws') (hd : y.cls ≠ "java/lang/invoke/MethodHandle" ∧ y.cls ≠ "java/lang/invoke/VarHandle" ∧ (parseMethodDescriptor y.desc).map (fun d => d.parameters.length) = some As.length) (hR : rm.frames + 1 ≤ R.frames ∧ 8 + (maxL + 11) + rm.locals ≤ R.locals) (hls : ls.size = nL) (hst : st0 = As.reverse ++ rest) (hroom : (rest.map fun v => v.category).sum ≤ 8) (hdg : decode cc pc = .ok (.invokestatic index, 3)) (hcs : cells + rm.cells ≤ R.cells ∧ slots + rm.slots ≤ R.slots) (hs : s.heap.size = sx_b G + n0) (hn : n = n0 + cells) (hP : sx_H G n F s.heap H locs)
    (kk : ∀ (r : Int64) (F1 : Nat → va_E) (H1 : Heap) (locs1 : List Loc), post r F1 → sx_H G n' F1 s.heap H1 locs1 → W p l e R s m args below meth c H1 locs1 (cells + rm.cells) (slots + rm.slots) Q (F0 m (pc + 3) ls (.long r :: rest))) : W p l e R s m args below meth c H locs (cells) (slots) Q (F0 m (pc) ls (st0)) := by
  subst hst
  obtain ⟨Sf, -, -, -, hC⟩ := X
  obtain ⟨hx, hb, hml, hown, hts⟩ := id Sf
  intro T hT X0
  have hz := sx_size X0 hT hs hn hP
  refine va_calll (A0 := sx_A G) (H0 := s.heap) (va_runS (As := As) (rest := rest) Sf hM (va_cwS As.length hts hG hw rfl rfl hd hR) ⟨sx_blind G n F _, fun U hU hW => ⟨rfl, by rw [hU]; exact hz, by rw [hU]; exact hP.1, hC.warm hW⟩⟩ rfl rfl hls rfl (lv_room hroom) hdg hcs) hP.2 (fun _ _ h => h) (fun _ h => h) (fun r F1 t H1 locs1 ht hvm hp hB hz1 hk1 hS1 => ?_) T hT X0
  exact kk r F1 H1 locs1 hp ⟨by rw [← ht]; exact hB.2.1, hS1⟩
theorem sx_cnI {y : MethodName} {ws ws' : List Cond} {rm : Room} {As : List Value} {n' : Nat} {bytes : ByteArray} {maxL index n0 : Nat} {ret' : Option FieldType} {st0 : List Value} {post : Int32 → (Nat → va_E) → Prop} {host : String} (X : sx_X G p m c cc nL s args Ts own meth ret nm) (hM : sx_I G l y ws rm As n F n' post) (hG : GoodIn Ts ws) (hw : ws = Cond.code y bytes maxL ret' :: ws') (hnw : va_Nw (.methodLinkNest own index y host) s) (hini : Cond.initialized y.cls ∈ Ts) (hstt : Cond.static y ∈ Ts) (hd : y.cls ≠ "java/lang/invoke/MethodHandle" ∧ y.cls ≠ "java/lang/invoke/VarHandle" ∧ (parseMethodDescriptor y.desc).map (fun d => d.parameters.length) = some As.length) (hR : rm.frames + 1 ≤ R.frames ∧ 8 + (maxL + 11) + rm.locals ≤ R.locals) (hls : ls.size = nL) (hst : st0 = As.reverse ++ rest) (hroom : (rest.map fun v => v.category).sum ≤ 8) (hdg : decode cc pc = .ok (.invokestatic index, 3)) (hcs : cells + rm.cells ≤ R.cells ∧ slots + rm.slots ≤ R.slots) (hs : s.heap.size = sx_b G + n0) (hn : n = n0 + cells) (hP : sx_H G n F s.heap H locs)
    (kk : ∀ (r : Int32) (F1 : Nat → va_E) (H1 : Heap) (locs1 : List Loc), post r F1 → sx_H G n' F1 s.heap H1 locs1 → W p l e R s m args below meth c H1 locs1 (cells + rm.cells) (slots + rm.slots) Q (F0 m (pc + 3) ls (.int r :: rest))) : W p l e R s m args below meth c H locs (cells) (slots) Q (F0 m (pc) ls (st0)) := by
  subst hst
  obtain ⟨Sf, -, -, -, hC⟩ := X
  obtain ⟨hx, hb, hml, hown, hts⟩ := id Sf
  intro T hT X0
  have hz := sx_size X0 hT hs hn hP
  refine va_calli (A0 := sx_A G) (H0 := s.heap) (va_runSN (As := As) (rest := rest) Sf hM ⟨va_cnB As.length hts hG hw rfl rfl hnw (hts _ hini) hd hR, hts _ hstt, trivial⟩ ⟨sx_blind G n F _, fun U hU hW => ⟨rfl, by rw [hU]; exact hz, by rw [hU]; exact hP.1, hC.warm hW⟩⟩ rfl rfl hls rfl (lv_room hroom) hdg hcs) hP.2 (fun _ _ h => h) (fun _ h => h) (fun r F1 t H1 locs1 ht hvm hp hB hz1 hk1 hS1 => ?_) T hT X0
  exact kk r F1 H1 locs1 hp ⟨by rw [← ht]; exact hB.2.1, hS1⟩
theorem sx_ci {y : MethodName} {ws ws' : List Cond} {rm : Room} {As : List Value} {n' : Nat} {bytes : ByteArray} {maxL index n0 : Nat} {st0 : List Value} {post : (Nat → va_E) → Prop} {i : Nat} (X : sx_X G p m c cc nL s args Ts own meth ret nm) (hM : sx_V G l y ws rm (rf G i :: As) n F n' post) (hG : GoodIn Ts ws) (hw : ws = Cond.code y bytes maxL none :: ws') (hini : Cond.initialized y.cls ∈ Ts) (hlk : Cond.methodLink own index y ∈ Ts) (him : Cond.instanceMethod y ∈ Ts) (hy1 : y.name = "<init>") (hd : y.cls ≠ "java/lang/invoke/MethodHandle" ∧ y.cls ≠ "java/lang/invoke/VarHandle" ∧ (parseMethodDescriptor y.desc).map (fun d => d.parameters.length) = some As.length) (hR : rm.frames + 1 ≤ R.frames ∧ 8 + (maxL + 11) + rm.locals ≤ R.locals) (hls : ls.size = nL) (hst : st0 = As.reverse ++ rf G i :: rest) (hroom : (rest.map fun v => v.category).sum ≤ 8) (hdg : decode cc pc = .ok (.invokespecial index, 3)) (hcs : cells + rm.cells ≤ R.cells ∧ slots + rm.slots ≤ R.slots) (hs : s.heap.size = sx_b G + n0) (hn : n = n0 + cells) (hP : sx_H G n F s.heap H locs)
    (kk : ∀ (F1 : Nat → va_E) (H1 : Heap) (locs1 : List Loc), post F1 → sx_H G n' F1 s.heap H1 locs1 → W p l e R s m args below meth c H1 locs1 (cells + rm.cells) (slots + rm.slots) Q (F0 m (pc + 3) ls (rest))) : W p l e R s m args below meth c H locs (cells) (slots) Q (F0 m (pc) ls (st0)) := by
  subst hst
  obtain ⟨Sf, -, -, -, hC⟩ := X
  obtain ⟨hx, hb, hml, hown, hts⟩ := id Sf
  intro T hT X0
  have hz := sx_size X0 hT hs hn hP
  refine va_callv (A0 := sx_A G) (H0 := s.heap) (va_runI (As := As) (rest := rest) Sf hM (cwI As.length hts hG hw rfl rfl (hts _ hini) (hts _ hlk) (hts _ him) hy1 hd hR) ⟨sx_blind G n F _, fun U hU hW => ⟨rfl, by rw [hU]; exact hz, by rw [hU]; exact hP.1, hC.warm hW⟩⟩ rfl rfl hls rfl (lv_room hroom) hdg hcs) hP.2 (fun _ _ h => h) (fun _ h => h) (fun F1 t H1 locs1 ht hvm hp hB hz1 hk1 hS1 => ?_) T hT X0
  exact kk F1 H1 locs1 hp ⟨by rw [← ht]; exact hB.2.1, hS1⟩
theorem sx_cni {y : MethodName} {ws ws' : List Cond} {rm : Room} {As : List Value} {n' : Nat} {bytes : ByteArray} {maxL index n0 : Nat} {st0 : List Value} {post : (Nat → va_E) → Prop} {i : Nat} {host : String} (X : sx_X G p m c cc nL s args Ts own meth ret nm) (hM : sx_V G l y ws rm (rf G i :: As) n F n' post) (hG : GoodIn Ts ws) (hw : ws = Cond.code y bytes maxL none :: ws') (hnw : va_Nw (.methodLinkNest own index y host) s) (hini : Cond.initialized y.cls ∈ Ts) (him : Cond.instanceMethod y ∈ Ts) (hy1 : y.name = "<init>") (hd : y.cls ≠ "java/lang/invoke/MethodHandle" ∧ y.cls ≠ "java/lang/invoke/VarHandle" ∧ (parseMethodDescriptor y.desc).map (fun d => d.parameters.length) = some As.length) (hR : rm.frames + 1 ≤ R.frames ∧ 8 + (maxL + 11) + rm.locals ≤ R.locals) (hls : ls.size = nL) (hst : st0 = As.reverse ++ rf G i :: rest) (hroom : (rest.map fun v => v.category).sum ≤ 8) (hdg : decode cc pc = .ok (.invokespecial index, 3)) (hcs : cells + rm.cells ≤ R.cells ∧ slots + rm.slots ≤ R.slots) (hs : s.heap.size = sx_b G + n0) (hn : n = n0 + cells) (hP : sx_H G n F s.heap H locs)
    (kk : ∀ (F1 : Nat → va_E) (H1 : Heap) (locs1 : List Loc), post F1 → sx_H G n' F1 s.heap H1 locs1 → W p l e R s m args below meth c H1 locs1 (cells + rm.cells) (slots + rm.slots) Q (F0 m (pc + 3) ls (rest))) : W p l e R s m args below meth c H locs (cells) (slots) Q (F0 m (pc) ls (st0)) := by
  subst hst
  obtain ⟨Sf, -, -, -, hC⟩ := X
  obtain ⟨hx, hb, hml, hown, hts⟩ := id Sf
  intro T hT X0
  have hz := sx_size X0 hT hs hn hP
  refine va_callv (A0 := sx_A G) (H0 := s.heap) (va_runIN (As := As) (rest := rest) Sf hM ⟨va_cnB As.length hts hG hw rfl rfl hnw (hts _ hini) hd hR, hy1, hts _ him⟩ ⟨sx_blind G n F _, fun U hU hW => ⟨rfl, by rw [hU]; exact hz, by rw [hU]; exact hP.1, hC.warm hW⟩⟩ rfl rfl hls rfl (lv_room hroom) hdg hcs) hP.2 (fun _ _ h => h) (fun _ h => h) (fun F1 t H1 locs1 ht hvm hp hB hz1 hk1 hS1 => ?_) T hT X0
  exact kk F1 H1 locs1 hp ⟨by rw [← ht]; exact hB.2.1, hS1⟩
theorem sx_obj (X : sx_X G p m c cc nL s args Ts own meth ret nm) {index : Nat} (hlk : Cond.methodLink own index objectInit ∈ Ts) (him : Cond.instanceMethod objectInit ∈ Ts) (hcd : Cond.code objectInit ⟨#[0xb1]⟩ 1 none ∈ Ts) (hls : ls.size = nL) {a : Nat} (hd : decode cc pc = .ok (.invokespecial index, 3)) (hfr : 1 ≤ R.frames) (hlo : (rest.map fun v => v.category).sum + 12 ≤ R.locals)
    (kk : W p l e R s m args below meth c H locs (cells) (slots) Q (F0 m (pc + 3) ls (rest))) : W p l e R s m args below meth c H locs (cells) (slots) Q (F0 m (pc) ls (.ref a :: rest)) := by
  obtain ⟨⟨hx, hb, hml, hown, hts⟩, -, -, -, -⟩ := X
  exact W.objInit hx hb hown (hts _ hlk) (hts _ him) (hts _ hcd) rfl (hls.trans hml.symm) rfl hd hfr (by show 2 * 0 + _ + 12 ≤ _; omega) kk
theorem sx_fresh {A : va_E} {T1 : State} {H1 : Heap} {q n0 : Nat} (X1 : Stand p l e R s m args below meth c T1 locs (cells + 1) slots) (hT1 : T1.heap = H1) (hs : s.heap.size = sx_b G + n0) (hn : n = n0 + cells) (h1 : va_P G.1 vwCl (sx_L G n F ++ [(q, A)]) H1) (h2 : va_D (sx_A G) (sx_L G n F ++ [(q, A)])) : q = sx_b G + n := by
  have hlen : (sx_L G n F).length = n := by simp [sx_L]
  have hq : (sx_L G n F ++ [(q, A)])[n]? = some (q, A) := by rw [List.getElem?_append_right (by omega), hlen]; simp
  have a1 : q < H1.size := (h1 n _ hq).lt
  have a2 : T1.heap.size ≤ s.heap.size + (cells + 1) := X1.same.2.2.1
  rw [hT1] at a2
  have a3 : sx_b G ≤ q := h2.2 n _ hq
  by_cases hlt : q < sx_b G + n
  · have hb : (sx_L G n F ++ [(q, A)])[q - sx_b G]? = some (sx_b G + (q - sx_b G), F (q - sx_b G)) := by rw [List.getElem?_append_left (by omega), sx_L_get G F (by omega)]
    have := h2.1 n (q - sx_b G) _ _ hq hb (by show q = sx_b G + (q - sx_b G); omega)
    omega
  · omega
theorem sx_new (X : sx_X G p m c cc nL s args Ts own meth ret nm) (hP : sx_H G n F s.heap H locs) {C : String} {T : u_T} {N ci index n0 : Nat} (hin : ∀ w ∈ u_ws C T N, w ∈ Ts) (ty : Nat → FieldType) (hty : ∀ k, k < N → parseFieldDescriptor (T k).2.2.1 = some (ty k)) (hcl : Cond.classLink own index C ∈ Ts) (hinst : Cond.instantiable C N ∈ Ts) (hini : Cond.initialized C ∈ Ts) (hc : vwCl[ci]? = some (C, T, N)) {fs : List Value} (hfs : ∀ j, j < N → defaultValue (ty j) = vp_V fs j) (hcells : cells + 1 ≤ R.cells) (hslots : slots + N ≤ R.slots) (hs : s.heap.size = sx_b G + n0) (hn : n = n0 + cells) (hd : decode cc pc = .ok (.new index, 3))
    (kk : ∀ (F1 : Nat → va_E) (H1 : Heap), F1 n = ob ci fs → (∀ j, j ≠ n → F1 j = F j) → sx_H G (n + 1) F1 s.heap H1 locs → W p l e R s m args below meth c H1 locs (cells + 1) (slots + N) Q (F0 m (pc + 3) ls (rf G n :: rest))) : W p l e R s m args below meth c H locs (cells) (slots) Q (F0 m (pc) ls (rest)) := by
  obtain ⟨⟨hx, hb, -, hown, hts⟩, -, -, -, hC⟩ := X
  refine va_new (D := G.1) (c0 := c) hx hb hts hin ty hty hown (hts _ hcl) (hts _ hinst) (hts _ hini) hC.1 hP.1 (sx_LD G n F) hP.2 (fun q hq => by show sx_b G ≤ q; omega) hc hfs hcells hslots hd (fun q H1 h1 h2 h3 => ?_)
  intro T1 hT1 X1
  have hq := sx_fresh X1 hT1 hs hn h1 h2
  subst hq
  rw [sx_L_push] at h1
  exact kk _ H1 (va_up_self _ _ _) (fun j hj => va_up_ne _ _ hj) ⟨h1, h3⟩ T1 hT1 X1
theorem sx_newi (X : sx_X G p m c cc nL s args Ts own meth ret nm) (hP : sx_H G n F s.heap H locs) {n0 : Nat} (N : Nat) (harr : Cond.arrayClass .int ∈ Ts) (hN : N ≤ 100000) (hcells : cells + 1 ≤ R.cells) (hslots : slots + N ≤ R.slots) (hs : s.heap.size = sx_b G + n0) (hn : n = n0 + cells) (hd : decode cc pc = .ok (.newarray .int, 2))
    (kk : ∀ (F1 : Nat → va_E) (H1 : Heap), F1 n = rI G N (fun _ => 0) → (∀ j, j ≠ n → F1 j = F j) → sx_H G (n + 1) F1 s.heap H1 locs → W p l e R s m args below meth c H1 locs (cells + 1) (slots + N) Q (F0 m (pc + 2) ls (rf G n :: rest))) : W p l e R s m args below meth c H locs (cells) (slots) Q (F0 m (pc) ls (.int (nI N) :: rest)) := by
  obtain ⟨⟨hx, hb, -, hown, hts⟩, -, -, -, hC⟩ := X
  refine va_newa (D := G.1) (atype := .int) hx hb (hts _ harr) (ty := .int) rfl hC.1 hP.1 (sx_LD G n F) hP.2 (fun q hq => by show sx_b G ≤ q; omega) (N' := N) (a0 := (N, .inl (fun _ => 0))) (fun _ => rfl) (nI_pos (by omega)) (nI_clamp (by omega)) (by show N * _ ≤ _; simp [componentBytes]; omega) hcells hslots hd (fun q cA H1 hK2 h1 h2 h3 => ?_)
  intro T1 hT1 X1
  have hq := sx_fresh X1 hT1 hs hn h1 h2
  subst hq
  have e1 := (hC.1.2 0 _ rfl).2
  have e2 := (hK2.2 4 _ rfl).2
  have e3 : cA = G.2.1 := Option.some.inj (Eq.trans (Eq.symm e2) e1)
  rw [sx_L_push, e3] at h1
  exact kk _ H1 (va_up_self _ _ _) (fun j hj => va_up_ne _ _ hj) ⟨h1, h3⟩ T1 hT1 X1
theorem sx_newz (X : sx_X G p m c cc nL s args Ts own meth ret nm) (hP : sx_H G n F s.heap H locs) {n0 : Nat} (N : Nat) (harr : Cond.arrayClass .boolean ∈ Ts) (hN : N ≤ 100000) (hcells : cells + 1 ≤ R.cells) (hslots : slots + N ≤ R.slots) (hs : s.heap.size = sx_b G + n0) (hn : n = n0 + cells) (hd : decode cc pc = .ok (.newarray .boolean, 2))
    (kk : ∀ (F1 : Nat → va_E) (H1 : Heap), F1 n = rZ G N (fun _ => 0) → (∀ j, j ≠ n → F1 j = F j) → sx_H G (n + 1) F1 s.heap H1 locs → W p l e R s m args below meth c H1 locs (cells + 1) (slots + N) Q (F0 m (pc + 2) ls (rf G n :: rest))) : W p l e R s m args below meth c H locs (cells) (slots) Q (F0 m (pc) ls (.int (nI N) :: rest)) := by
  obtain ⟨⟨hx, hb, -, hown, hts⟩, -, -, -, hC⟩ := X
  refine va_newa (D := G.1) (atype := .boolean) hx hb (hts _ harr) (ty := .boolean) rfl hC.1 hP.1 (sx_LD G n F) hP.2 (fun q hq => by show sx_b G ≤ q; omega) (N' := N) (a0 := (N, .inl (fun _ => 0))) (fun _ => rfl) (nI_pos (by omega)) (nI_clamp (by omega)) (by show N * _ ≤ _; simp [componentBytes]; omega) hcells hslots hd (fun q cA H1 hK2 h1 h2 h3 => ?_)
  intro T1 hT1 X1
  have hq := sx_fresh X1 hT1 hs hn h1 h2
  subst hq
  have e1 := (hC.1.2 1 _ rfl).2
  have e2 := (hK2.2 4 _ rfl).2
  have e3 : cA = G.2.2.1 := Option.some.inj (Eq.trans (Eq.symm e2) e1)
  rw [sx_L_push, e3] at h1
  exact kk _ H1 (va_up_self _ _ _) (fun j hj => va_up_ne _ _ hj) ⟨h1, h3⟩ T1 hT1 X1
theorem sx_newk (X : sx_X G p m c cc nL s args Ts own meth ret nm) (hP : sx_H G n F s.heap H locs) {n0 index : Nat} (N : Nat) (hcl : Cond.classLink own index "RaceWatch$Kept" ∈ Ts) (hN : N ≤ 100000) (hcells : cells + 1 ≤ R.cells) (hslots : slots + N ≤ R.slots) (hs : s.heap.size = sx_b G + n0) (hn : n = n0 + cells) (hd : decode cc pc = .ok (.anewarray index, 3))
    (kk : ∀ (F1 : Nat → va_E) (H1 : Heap), F1 n = rK G N (fun _ => none) → (∀ j, j ≠ n → F1 j = F j) → sx_H G (n + 1) F1 s.heap H1 locs → W p l e R s m args below meth c H1 locs (cells + 1) (slots + N) Q (F0 m (pc + 3) ls (rf G n :: rest))) : W p l e R s m args below meth c H locs (cells) (slots) Q (F0 m (pc) ls (.int (nI N) :: rest)) := by
  obtain ⟨⟨hx, hb, -, hown, hts⟩, -, -, -, hC⟩ := X
  refine va_newq (D := G.1) hx hb hown (hts _ hcl) hC.2.2.2.2.2.2.1 hC.1 hP.1 (sx_LD G n F) hP.2 (fun q hq => by show sx_b G ≤ q; omega) (N' := N) (nI_pos (by omega)) (nI_clamp (by omega)) (by omega) hcells hslots hd (fun q cA H1 hK2 h1 h2 h3 => ?_)
  intro T1 hT1 X1
  have hq := sx_fresh X1 hT1 hs hn h1 h2
  subst hq
  obtain ⟨-, -, -, -, -, e1⟩ := (hC.1.2 2 _ rfl).2
  obtain ⟨-, -, -, -, -, e2⟩ := (hK2.2 4 _ rfl).2
  have e3 : cA = G.2.2.2.1 := Option.some.inj (Eq.trans (Eq.symm e2) e1)
  rw [sx_L_push, e3] at h1
  exact kk _ H1 (va_up_self _ _ _) (fun j hj => va_up_ne _ _ hj) ⟨h1, h3⟩ T1 hT1 X1
theorem sx_newo (X : sx_X G p m c cc nL s args Ts own meth ret nm) (hP : sx_H G n F s.heap H locs) {n0 index : Nat} (N : Nat) (hcl : Cond.classLink own index "RaceWatch$World" ∈ Ts) (hN : N ≤ 100000) (hcells : cells + 1 ≤ R.cells) (hslots : slots + N ≤ R.slots) (hs : s.heap.size = sx_b G + n0) (hn : n = n0 + cells) (hd : decode cc pc = .ok (.anewarray index, 3))
    (kk : ∀ (F1 : Nat → va_E) (H1 : Heap), F1 n = rO G N (fun _ => none) → (∀ j, j ≠ n → F1 j = F j) → sx_H G (n + 1) F1 s.heap H1 locs → W p l e R s m args below meth c H1 locs (cells + 1) (slots + N) Q (F0 m (pc + 3) ls (rf G n :: rest))) : W p l e R s m args below meth c H locs (cells) (slots) Q (F0 m (pc) ls (.int (nI N) :: rest)) := by
  obtain ⟨⟨hx, hb, -, hown, hts⟩, -, -, -, hC⟩ := X
  refine va_newq (D := G.1) hx hb hown (hts _ hcl) hC.2.2.2.2.2.2.2 hC.1 hP.1 (sx_LD G n F) hP.2 (fun q hq => by show sx_b G ≤ q; omega) (N' := N) (nI_pos (by omega)) (nI_clamp (by omega)) (by omega) hcells hslots hd (fun q cA H1 hK2 h1 h2 h3 => ?_)
  intro T1 hT1 X1
  have hq := sx_fresh X1 hT1 hs hn h1 h2
  subst hq
  obtain ⟨-, -, -, -, -, e1⟩ := (hC.1.2 3 _ rfl).2
  obtain ⟨-, -, -, -, -, e2⟩ := (hK2.2 4 _ rfl).2
  have e3 : cA = G.2.2.2.2.1 := Option.some.inj (Eq.trans (Eq.symm e2) e1)
  rw [sx_L_push, e3] at h1
  exact kk _ H1 (va_up_self _ _ _) (fun j hj => va_up_ne _ _ hj) ⟨h1, h3⟩ T1 hT1 X1
theorem sx_addN (X : sx_X G p m c cc nL s args Ts own meth ret nm) {a b : Nat} (z : Nat) (hz : a + b = z) (hd : decode cc pc = .ok (.iadd, 1))
    (kk : W p l e R s m args below meth c H locs (cells) (slots) Q (F0 m (pc + 1) ls (.int (nI z) :: rest))) : W p l e R s m args below meth c H locs (cells) (slots) Q (F0 m (pc) ls (.int (nI b) :: .int (nI a) :: rest)) := lv_iadd X.1.1 X.1.2.1 hd (by rw [nI_add, hz]; exact kk)
theorem sx_mulN (X : sx_X G p m c cc nL s args Ts own meth ret nm) {a b : Nat} (z : Nat) (hz : a * b = z) (hd : decode cc pc = .ok (.imul, 1))
    (kk : W p l e R s m args below meth c H locs (cells) (slots) Q (F0 m (pc + 1) ls (.int (nI z) :: rest))) : W p l e R s m args below meth c H locs (cells) (slots) Q (F0 m (pc) ls (.int (nI b) :: .int (nI a) :: rest)) := lv_imul X.1.1 X.1.2.1 hd (by rw [pk_mul, hz]; exact kk)
theorem sx_subN (X : sx_X G p m c cc nL s args Ts own meth ret nm) {a b : Nat} (z : Nat) (h : b ≤ a) (hz : a - b = z) (hd : decode cc pc = .ok (.isub, 1))
    (kk : W p l e R s m args below meth c H locs (cells) (slots) Q (F0 m (pc + 1) ls (.int (nI z) :: rest))) : W p l e R s m args below meth c H locs (cells) (slots) Q (F0 m (pc) ls (.int (nI b) :: .int (nI a) :: rest)) := lv_isub X.1.1 X.1.2.1 hd (by rw [pk_sub h, hz]; exact kk)
theorem sx_icmp_eq (X : sx_X G p m c cc nL s args Ts own meth ret nm) {a b : Nat} (ha : a < 2 ^ 31) (hb2 : b < 2 ^ 31) {off : Int} {tgt : Nat} (hd : decode cc pc = .ok (.if_icmp .eq off, 3)) (ht : (pc : Int) + off = (tgt : Int)) (kt : a = b → W p l e R s m args below meth c H locs (cells) (slots) Q (F0 m (tgt) ls (rest))) (kf : a ≠ b → W p l e R s m args below meth c H locs (cells) (slots) Q (F0 m (pc + 3) ls (rest))) : W p l e R s m args below meth c H locs (cells) (slots) Q (F0 m (pc) ls (.int (nI b) :: .int (nI a) :: rest)) := lv_icmp_eq X.1.1 X.1.2.1 hd ht (fun h => kt ((nI_eq ha hb2).mp h)) (fun h => kf (fun q => h ((nI_eq ha hb2).mpr q)))
theorem sx_icmp_ne (X : sx_X G p m c cc nL s args Ts own meth ret nm) {a b : Nat} (ha : a < 2 ^ 31) (hb2 : b < 2 ^ 31) {off : Int} {tgt : Nat} (hd : decode cc pc = .ok (.if_icmp .ne off, 3)) (ht : (pc : Int) + off = (tgt : Int)) (kt : a ≠ b → W p l e R s m args below meth c H locs (cells) (slots) Q (F0 m (tgt) ls (rest))) (kf : a = b → W p l e R s m args below meth c H locs (cells) (slots) Q (F0 m (pc + 3) ls (rest))) : W p l e R s m args below meth c H locs (cells) (slots) Q (F0 m (pc) ls (.int (nI b) :: .int (nI a) :: rest)) := lv_icmp_ne X.1.1 X.1.2.1 hd ht (fun h => kt (fun q => h ((nI_eq ha hb2).mpr q))) (fun h => kf ((nI_eq ha hb2).mp h))
theorem sx_icmp_lt (X : sx_X G p m c cc nL s args Ts own meth ret nm) {a b : Nat} (ha : a < 2 ^ 31) (hb2 : b < 2 ^ 31) {off : Int} {tgt : Nat} (hd : decode cc pc = .ok (.if_icmp .lt off, 3)) (ht : (pc : Int) + off = (tgt : Int)) (kt : a < b → W p l e R s m args below meth c H locs (cells) (slots) Q (F0 m (tgt) ls (rest))) (kf : b ≤ a → W p l e R s m args below meth c H locs (cells) (slots) Q (F0 m (pc + 3) ls (rest))) : W p l e R s m args below meth c H locs (cells) (slots) Q (F0 m (pc) ls (.int (nI b) :: .int (nI a) :: rest)) := lv_icmp_lt X.1.1 X.1.2.1 hd ht (fun h => kt ((nI_ltI ha hb2).mp h)) (fun h => kf (Nat.not_lt.mp (fun q => h ((nI_ltI ha hb2).mpr q))))
theorem sx_icmp_ge (X : sx_X G p m c cc nL s args Ts own meth ret nm) {a b : Nat} (ha : a < 2 ^ 31) (hb2 : b < 2 ^ 31) {off : Int} {tgt : Nat} (hd : decode cc pc = .ok (.if_icmp .ge off, 3)) (ht : (pc : Int) + off = (tgt : Int)) (kt : b ≤ a → W p l e R s m args below meth c H locs (cells) (slots) Q (F0 m (tgt) ls (rest))) (kf : a < b → W p l e R s m args below meth c H locs (cells) (slots) Q (F0 m (pc + 3) ls (rest))) : W p l e R s m args below meth c H locs (cells) (slots) Q (F0 m (pc) ls (.int (nI b) :: .int (nI a) :: rest)) := lv_icmp_ge X.1.1 X.1.2.1 hd ht (fun h => kt ((nI_leI hb2 ha).mp h)) (fun h => kf (Nat.not_le.mp (fun q => h ((nI_leI hb2 ha).mpr q))))
theorem sx_icmp_gt (X : sx_X G p m c cc nL s args Ts own meth ret nm) {a b : Nat} (ha : a < 2 ^ 31) (hb2 : b < 2 ^ 31) {off : Int} {tgt : Nat} (hd : decode cc pc = .ok (.if_icmp .gt off, 3)) (ht : (pc : Int) + off = (tgt : Int)) (kt : b < a → W p l e R s m args below meth c H locs (cells) (slots) Q (F0 m (tgt) ls (rest))) (kf : a ≤ b → W p l e R s m args below meth c H locs (cells) (slots) Q (F0 m (pc + 3) ls (rest))) : W p l e R s m args below meth c H locs (cells) (slots) Q (F0 m (pc) ls (.int (nI b) :: .int (nI a) :: rest)) := lv_icmp_gt X.1.1 X.1.2.1 hd ht (fun h => kt ((nI_ltI hb2 ha).mp h)) (fun h => kf (Nat.not_lt.mp (fun q => h ((nI_ltI hb2 ha).mpr q))))
theorem sx_icmp_le (X : sx_X G p m c cc nL s args Ts own meth ret nm) {a b : Nat} (ha : a < 2 ^ 31) (hb2 : b < 2 ^ 31) {off : Int} {tgt : Nat} (hd : decode cc pc = .ok (.if_icmp .le off, 3)) (ht : (pc : Int) + off = (tgt : Int)) (kt : a ≤ b → W p l e R s m args below meth c H locs (cells) (slots) Q (F0 m (tgt) ls (rest))) (kf : b < a → W p l e R s m args below meth c H locs (cells) (slots) Q (F0 m (pc + 3) ls (rest))) : W p l e R s m args below meth c H locs (cells) (slots) Q (F0 m (pc) ls (.int (nI b) :: .int (nI a) :: rest)) := lv_icmp_le X.1.1 X.1.2.1 hd ht (fun h => kt ((nI_leI ha hb2).mp h)) (fun h => kf (Nat.not_le.mp (fun q => h ((nI_leI ha hb2).mpr q))))
theorem sx_if_eq (X : sx_X G p m c cc nL s args Ts own meth ret nm) {a : Nat} (ha : a < 2 ^ 31) {off : Int} {tgt : Nat} (hd : decode cc pc = .ok (.ifCond .eq off, 3)) (ht : (pc : Int) + off = (tgt : Int)) (kt : a = 0 → W p l e R s m args below meth c H locs (cells) (slots) Q (F0 m (tgt) ls (rest))) (kf : a ≠ 0 → W p l e R s m args below meth c H locs (cells) (slots) Q (F0 m (pc + 3) ls (rest))) : W p l e R s m args below meth c H locs (cells) (slots) Q (F0 m (pc) ls (.int (nI a) :: rest)) := by
  have h0 : 0 < 2 ^ 31 := by decide
  exact lv_if_eq X.1.1 X.1.2.1 hd ht (fun h => kt ((nI_eq ha h0).mp h)) (fun h => kf (fun q => h ((nI_eq ha h0).mpr q)))
theorem sx_if_ne (X : sx_X G p m c cc nL s args Ts own meth ret nm) {a : Nat} (ha : a < 2 ^ 31) {off : Int} {tgt : Nat} (hd : decode cc pc = .ok (.ifCond .ne off, 3)) (ht : (pc : Int) + off = (tgt : Int)) (kt : a ≠ 0 → W p l e R s m args below meth c H locs (cells) (slots) Q (F0 m (tgt) ls (rest))) (kf : a = 0 → W p l e R s m args below meth c H locs (cells) (slots) Q (F0 m (pc + 3) ls (rest))) : W p l e R s m args below meth c H locs (cells) (slots) Q (F0 m (pc) ls (.int (nI a) :: rest)) := by
  have h0 : 0 < 2 ^ 31 := by decide
  exact lv_if_ne X.1.1 X.1.2.1 hd ht (fun h => kt (fun q => h ((nI_eq ha h0).mpr q))) (fun h => kf ((nI_eq ha h0).mp h))
theorem sx_if_lt (X : sx_X G p m c cc nL s args Ts own meth ret nm) {a : Nat} (ha : a < 2 ^ 31) {off : Int} {tgt : Nat} (hd : decode cc pc = .ok (.ifCond .lt off, 3)) (ht : (pc : Int) + off = (tgt : Int)) (kt : False → W p l e R s m args below meth c H locs (cells) (slots) Q (F0 m (tgt) ls (rest))) (kf : True → W p l e R s m args below meth c H locs (cells) (slots) Q (F0 m (pc + 3) ls (rest))) : W p l e R s m args below meth c H locs (cells) (slots) Q (F0 m (pc) ls (.int (nI a) :: rest)) := by
  have h0 : 0 < 2 ^ 31 := by decide
  exact lv_if_lt X.1.1 X.1.2.1 hd ht (fun h => absurd ((nI_ltI ha h0).mp h) (Nat.not_lt_zero _)) (fun h => kf trivial)
theorem sx_if_ge (X : sx_X G p m c cc nL s args Ts own meth ret nm) {a : Nat} (ha : a < 2 ^ 31) {off : Int} {tgt : Nat} (hd : decode cc pc = .ok (.ifCond .ge off, 3)) (ht : (pc : Int) + off = (tgt : Int)) (kt : True → W p l e R s m args below meth c H locs (cells) (slots) Q (F0 m (tgt) ls (rest))) (kf : False → W p l e R s m args below meth c H locs (cells) (slots) Q (F0 m (pc + 3) ls (rest))) : W p l e R s m args below meth c H locs (cells) (slots) Q (F0 m (pc) ls (.int (nI a) :: rest)) := by
  have h0 : 0 < 2 ^ 31 := by decide
  exact lv_if_ge X.1.1 X.1.2.1 hd ht (fun h => kt trivial) (fun h => absurd ((nI_leI h0 ha).mpr (Nat.zero_le _)) h)
theorem sx_if_gt (X : sx_X G p m c cc nL s args Ts own meth ret nm) {a : Nat} (ha : a < 2 ^ 31) {off : Int} {tgt : Nat} (hd : decode cc pc = .ok (.ifCond .gt off, 3)) (ht : (pc : Int) + off = (tgt : Int)) (kt : 0 < a → W p l e R s m args below meth c H locs (cells) (slots) Q (F0 m (tgt) ls (rest))) (kf : a = 0 → W p l e R s m args below meth c H locs (cells) (slots) Q (F0 m (pc + 3) ls (rest))) : W p l e R s m args below meth c H locs (cells) (slots) Q (F0 m (pc) ls (.int (nI a) :: rest)) := by
  have h0 : 0 < 2 ^ 31 := by decide
  exact lv_if_gt X.1.1 X.1.2.1 hd ht (fun h => kt ((nI_ltI h0 ha).mp h)) (fun h => kf (Nat.le_zero.mp (Nat.not_lt.mp (fun q => h ((nI_ltI h0 ha).mpr q)))))
theorem sx_if_le (X : sx_X G p m c cc nL s args Ts own meth ret nm) {a : Nat} (ha : a < 2 ^ 31) {off : Int} {tgt : Nat} (hd : decode cc pc = .ok (.ifCond .le off, 3)) (ht : (pc : Int) + off = (tgt : Int)) (kt : a = 0 → W p l e R s m args below meth c H locs (cells) (slots) Q (F0 m (tgt) ls (rest))) (kf : 0 < a → W p l e R s m args below meth c H locs (cells) (slots) Q (F0 m (pc + 3) ls (rest))) : W p l e R s m args below meth c H locs (cells) (slots) Q (F0 m (pc) ls (.int (nI a) :: rest)) := by
  have h0 : 0 < 2 ^ 31 := by decide
  exact lv_if_le X.1.1 X.1.2.1 hd ht (fun h => kt (by have := (nI_leI ha h0).mp h; omega)) (fun h => kf (Nat.not_le.mp (fun q => h ((nI_leI ha h0).mpr q))))
theorem sx_join {P : Int32 → Prop} {goal : Prop} (C : Prop) [Decidable C] {a b : Int32} (h : (C → P a) → (¬ C → P b) → goal) (k : P (if C then a else b)) : goal := h (fun hc => by rw [if_pos hc] at k; exact k) (fun hc => by rw [if_neg hc] at k; exact k)
theorem sx_inc1 {a b : Nat} (h : b = a + 1) : nI a + Int32.ofInt 1 = nI b := by rw [h]; exact nI_1 a
theorem sx_dec1 {a b : Nat} (h : a = b + 1) : nI a + Int32.ofInt (-1) = nI b := by rw [h]; exact pk_m1 b
end SX
