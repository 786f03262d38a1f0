/-! my rows: one bundle for the world, one for the code; numbers as nI of natural numbers -/
abbrev jG : Type := va_G × (ClassId × ClassId × ClassId)
abbrev jT (c : ClassId × ClassId × ClassId) : List (ClassId × FieldType) := [(c.1, .int), (c.2.1, .short), (c.2.2, .boolean)]
/-- an array's contents by natural numbers -/
def nr (g : Nat → Nat) : Nat → Int32 := fun j => nI (g j)
/-- one place of a function changed -/
def up (g : Nat → Nat) (k x : Nat) : Nat → Nat := fun j => if j = k then x else g j
theorem up_s {g : Nat → Nat} {k x : Nat} : up g k x k = x := by simp [up]
theorem up_n {g : Nat → Nat} {k x j : Nat} (h : j ≠ k) : up g k x j = g j := by simp [up, h]
theorem nr_up (g : Nat → Nat) (k x : Nat) : upd (nr g) k (nI x) = nr (up g k x) := by
  funext j
  by_cases h : j = k
  · subst h; simp [upd, nr, up]
  · simp [upd, nr, up, h]
abbrev oC (a ci : Nat) (fs : List Value) : Nat × va_E := (a, .inr (ci, fs))
abbrev aI (G : jG) (a n : Nat) (g : Nat → Nat) : Nat × va_E := (a, .inl (G.2.1, n, .inl (nr g)))
abbrev aS (G : jG) (a n : Nat) (g : Nat → Nat) : Nat × va_E := (a, .inl (G.2.2.1, n, .inl (nr g)))
abbrev aZ (G : jG) (a n : Nat) (g : Nat → Nat) : Nat × va_E := (a, .inl (G.2.2.2, n, .inl (nr g)))
/-- links to private members of nest mates: they hold at the entry -/
def jN (U : State) : Prop := ∀ w ∈ jNest, va_Nw w U
def jnest : Cond → Bool
  | .fieldLinkNest _ _ _ _ _ _ => true
  | .methodLinkNest _ _ _ _ => true
  | _ => false
theorem jNest_ok : jNest.all jnest = true := by decide +kernel
theorem jN_warm {s U : State} (hW : s.WarmedH U.vm) (h : jN s) : jN U := by
  intro w hw
  have h1 := List.all_eq_true.mp jNest_ok w hw
  have h2 := h w hw
  cases w <;> simp only [jnest] at h1 <;> first | exact va_Nw.warmF hW h2 | exact va_Nw.warmM hW h2 | cases h1
theorem jN_same {u U : State} (e : u.vm = U.vm) (h : jN u) : jN U := by
  intro w hw
  have h1 := List.all_eq_true.mp jNest_ok w hw
  have h2 := h w hw
  cases w <;> simp only [jnest] at h1 <;> first | exact va_Nw.same rfl e h2 | cases h1
/-- the world while a method runs -/
def jI (G : jG) (A : Nat → Prop) (s : State) (ws : va_W) (H : Heap) (locs : List Loc) : Prop :=
  va_K G.1 vwCl (jT G.2) s ∧ va_P G.1 vwCl ws H ∧ va_D A ws ∧ va_S A s.heap H locs ∧ (∀ q, s.heap.size ≤ q → A q) ∧ jN s
/-- the code of the method that runs -/
def jC (p : Program) (s : State) (m : MethodId) (args : Array Value) (meth : Method) (c : Code) (cc : ByteArray) (own : String) (Ts : List Cond) (nL : Nat) (ret : Option FieldType) (nm : String) : Prop :=
  p.tables.exec = Jvm.exec ∧ c.code = cc ∧ c.maxLocals = nL ∧ s.vm.findClass own = some m.cls ∧ (∀ w ∈ Ts, w.before args s = true) ∧ meth.sig.returnType = ret ∧ meth.locks = false ∧ meth.name = nm
theorem jC.fix {p : Program} {s : State} {m : MethodId} {args : Array Value} {meth : Method} {c : Code} {cc : ByteArray} {own : String} {Ts : List Cond} {nL : Nat} {ret : Option FieldType} {nm : String} (h : jC p s m args meth c cc own Ts nL ret nm) : CallFix p m c cc nL s args Ts own := ⟨h.1, h.2.1, h.2.2.1, h.2.2.2.1, h.2.2.2.2.1⟩
def jPre (G : jG) (wc : va_W) (sz : Nat) (av : List Value) : Array Value → State → Prop := va_Pc av (fun U => U.heap.size = sz ∧ va_P G.1 vwCl wc U.heap ∧ va_K G.1 vwCl (jT G.2) U ∧ va_D (fun _ => True) wc ∧ jN U)
def jAt (G : jG) (A : Nat → Prop) (w1 : va_W) (t : State) : Prop := va_P G.1 vwCl w1 t.heap ∧ va_K G.1 vwCl (jT G.2) t ∧ va_D A w1
def jQi {S : Type} (G : jG) (post : Int32 → S → Prop) (w1 : S → va_W) (A : Nat → Prop) : Array Value → State → Outcome → State → Prop := va_Qi post (fun u t => jAt G A (w1 u) t) A
def jQv {S : Type} (G : jG) (post : S → Prop) (w1 : S → va_W) (A : Nat → Prop) : Array Value → State → Outcome → State → Prop := va_Qv post (fun u t => jAt G A (w1 u) t) A
def jQr {S : Type} (G : jG) (post : S → Nat → Prop) (w1 : S → Nat → va_W) (A : Nat → Prop) : Array Value → State → Outcome → State → Prop := va_Qr (fun _ => True) (fun u a t => post u a ∧ jAt G A (w1 u a) t) A
def jQq {S : Type} (G : jG) (post : Option Nat → S → Prop) (w1 : S → va_W) (A : Nat → Prop) : Array Value → State → Outcome → State → Prop := va_Qq post (fun u t => jAt G A (w1 u) t) A
/-- a method's contract: from the cells wc to the cells w1 -/
def jMet (l : Launch) (y : MethodName) (ws : List Cond) (rm : Room) (G : jG) (wc : va_W) (av : List Value) (Qc : (Nat → Prop) → Array Value → State → Outcome → State → Prop) (mc ms : Nat) : Prop :=
  ∀ sz : Nat, Met l y ws rm (jPre G wc sz av) (Qc (va_A wc sz)) mc ms (va_A wc sz)
theorem jPre_blind {G : jG} {wc : va_W} {sz : Nat} {av : List Value} : FrameBlind (jPre G wc sz av) := fun a U g mk q => by
  obtain ⟨q0, q1, qP, qK, qD, qN⟩ := q
  exact ⟨q0, q1, qP, va_K.moved (u := U) (U := U.calling g mk a) (Vm.Alike.refl U.vm) qK, qD, jN_same (u := U) (U := U.calling g mk a) rfl qN⟩
/-- to enter a method -/
theorem j_enter {l : Launch} {y : MethodName} {ws ws' : List Cond} {rm : Room} {G : jG} {wc : va_W} {av : List Value} {lv : List (Nat × Value)} {Qc : (Nat → Prop) → Array Value → State → Outcome → State → Prop} {mc ms nL : Nat} {ret : Option FieldType} {cc : ByteArray} {nm own : String}
    (hy : plainName y.cls = true) (hw : ws = Cond.code y cc nL ret :: ws') (hnL : (lg_sl av).length ≤ nL) (hlv : lv_args 0 av = lv) (hnm : y.name = nm) (how : y.cls = own)
    (body : ∀ (A : Nat → Prop) (p : Program) (e : Env) (s : State) (m : MethodId) (below : List Frame) (meth : Method) (c : Code) (ls : Array Slot), jC p s m av.toArray meth c cc own ws nL ret nm → jI G A s wc s.heap [] → lv_has ls nL lv → W p l e rm s m av.toArray below meth c s.heap [] 0 0 (MQ below (Qc A) av.toArray s mc ms A) (F0 m 0 ls [])) :
    jMet l y ws rm G wc av Qc mc ms := by
  intro sz
  refine Met.ofW (cc := cc) (maxL := nL) (ret := ret) hy hw ?_
  intro p e s m args below meth c s₁ B hml hv
  obtain ⟨rfl, hsz, hP, hK, hD0, hN⟩ := hv
  subst hsz
  have hl := lv_entry av (n := nL) hnL
  rw [hlv] at hl
  rw [lg_entry_eq]
  subst hnm
  subst how
  exact body (va_A wc s.heap.size) p e s m below meth c _ ⟨B.exec, B.bytes, hml, findClass_of_methodNamed B.named, atoms_spec (ws := ws) B.pre, B.returns, B.notSynchronized, (name_of_methodNamed B.named B.method).1⟩ ⟨hK, hP, hD0.self, va_S.rf, fun q h => Or.inr h, hN⟩ hl

/-- what a return gives: the end of the method, as its caller wants it -/
def jRi {S : Type} (p : Program) (l : Launch) (e : Env) (R : Room) (s : State) (m : MethodId) (args : Array Value) (below : List Frame) (meth : Method) (c : Code) (Q : State → Prop) (G : jG) (A : Nat → Prop) (cc : ByteArray) (mc ms : Nat) (post : Int32 → S → Prop) (w1 : S → va_W) : Prop :=
  ∀ (H : Heap) (locs : List Loc) (pc : Nat) (ls : Array Slot) (v : Int32) (u : S), decode cc pc = .ok (.ireturn, 1) → jI G A s (w1 u) H locs → post v u → W p l e R s m args below meth c H locs mc ms Q (F0 m pc ls [.int v])
def jRz {S : Type} (p : Program) (l : Launch) (e : Env) (R : Room) (s : State) (m : MethodId) (args : Array Value) (below : List Frame) (meth : Method) (c : Code) (Q : State → Prop) (G : jG) (A : Nat → Prop) (cc : ByteArray) (mc ms : Nat) (post : Int32 → S → Prop) (w1 : S → va_W) : Prop :=
  ∀ (H : Heap) (locs : List Loc) (pc : Nat) (ls : Array Slot) (v : Int32) (u : S), decode cc pc = .ok (.ireturn, 1) → narrow .boolean (.int v) = .int v → jI G A s (w1 u) H locs → post v u → W p l e R s m args below meth c H locs mc ms Q (F0 m pc ls [.int v])
def jRv {S : Type} (p : Program) (l : Launch) (e : Env) (R : Room) (s : State) (m : MethodId) (args : Array Value) (below : List Frame) (meth : Method) (c : Code) (Q : State → Prop) (G : jG) (A : Nat → Prop) (cc : ByteArray) (mc ms : Nat) (post : S → Prop) (w1 : S → va_W) : Prop :=
  ∀ (H : Heap) (locs : List Loc) (pc : Nat) (ls : Array Slot) (u : S), decode cc pc = .ok (.return_, 1) → jI G A s (w1 u) H locs → post u → W p l e R s m args below meth c H locs mc ms Q (F0 m pc ls [])
theorem j_enter_i {S : Type} {post : Int32 → S → Prop} {w1 : S → va_W} {l : Launch} {y : MethodName} {ws ws' : List Cond} {rm : Room} {G : jG} {wc : va_W} {av : List Value} {lv : List (Nat × Value)} {mc ms nL : Nat} {cc : ByteArray} {nm own : String}
    (hy : plainName y.cls = true) (hw : ws = Cond.code y cc nL (some .int) :: ws') (hnL : (lg_sl av).length ≤ nL) (hlv : lv_args 0 av = lv) (hnm : y.name = nm) (how : y.cls = own)
    (body : ∀ (A : Nat → Prop) (p : Program) (e : Env) (s : State) (m : MethodId) (args : Array Value) (below : List Frame) (meth : Method) (c : Code) (Q : State → Prop) (ls : Array Slot), jC p s m args meth c cc own ws nL (some .int) nm → jRi p l e rm s m args below meth c Q G A cc mc ms post w1 → jI G A s wc s.heap [] → lv_has ls nL lv → W p l e rm s m args below meth c s.heap [] 0 0 Q (F0 m 0 ls [])) :
    jMet l y ws rm G wc av (jQi G post w1) mc ms :=
  j_enter hy hw hnL hlv hnm how (fun A p e s m below meth c ls hC hI hl => body A p e s m _ below meth c _ ls hC (fun H locs pc ls v u hdg hI hp => by
    obtain ⟨hK, hP, hD, hS, -, -⟩ := hI
    exact W.iret hC.1 hC.2.1 hC.2.2.2.2.2.1 (fun t ht hW => ⟨⟨v, u, rfl, hp, by rw [ht]; exact hP, va_K.moved hW.alike hK, hD⟩, hS.F ht⟩) hS.2.2 hdg hC.2.2.2.2.2.2.1) hI hl)
theorem j_enter_z {S : Type} {post : Int32 → S → Prop} {w1 : S → va_W} {l : Launch} {y : MethodName} {ws ws' : List Cond} {rm : Room} {G : jG} {wc : va_W} {av : List Value} {lv : List (Nat × Value)} {mc ms nL : Nat} {cc : ByteArray} {nm own : String}
    (hy : plainName y.cls = true) (hw : ws = Cond.code y cc nL (some .boolean) :: ws') (hnL : (lg_sl av).length ≤ nL) (hlv : lv_args 0 av = lv) (hnm : y.name = nm) (how : y.cls = own)
    (body : ∀ (A : Nat → Prop) (p : Program) (e : Env) (s : State) (m : MethodId) (args : Array Value) (below : List Frame) (meth : Method) (c : Code) (Q : State → Prop) (ls : Array Slot), jC p s m args meth c cc own ws nL (some .boolean) nm → jRz p l e rm s m args below meth c Q G A cc mc ms post w1 → jI G A s wc s.heap [] → lv_has ls nL lv → W p l e rm s m args below meth c s.heap [] 0 0 Q (F0 m 0 ls [])) :
    jMet l y ws rm G wc av (jQi G post w1) mc ms :=
  j_enter hy hw hnL hlv hnm how (fun A p e s m below meth c ls hC hI hl => body A p e s m _ below meth c _ ls hC (fun H locs pc ls v u hdg hn hI hp => by
    obtain ⟨hK, hP, hD, hS, -, -⟩ := hI
    exact W.zret hC.1 hC.2.1 hC.2.2.2.2.2.1 hn (fun t ht hW => ⟨⟨v, u, rfl, hp, by rw [ht]; exact hP, va_K.moved hW.alike hK, hD⟩, hS.F ht⟩) hS.2.2 hdg hC.2.2.2.2.2.2.1) hI hl)
theorem j_enter_v {S : Type} {post : S → Prop} {w1 : S → va_W} {l : Launch} {y : MethodName} {ws ws' : List Cond} {rm : Room} {G : jG} {wc : va_W} {av : List Value} {lv : List (Nat × Value)} {mc ms nL : Nat} {cc : ByteArray} {nm own : String}
    (hy : plainName y.cls = true) (hw : ws = Cond.code y cc nL (none) :: ws') (hnL : (lg_sl av).length ≤ nL) (hlv : lv_args 0 av = lv) (hnm : y.name = nm) (how : y.cls = own)
    (body : ∀ (A : Nat → Prop) (p : Program) (e : Env) (s : State) (m : MethodId) (args : Array Value) (below : List Frame) (meth : Method) (c : Code) (Q : State → Prop) (ls : Array Slot), jC p s m args meth c cc own ws nL (none) nm → jRv p l e rm s m args below meth c Q G A cc mc ms post w1 → jI G A s wc s.heap [] → lv_has ls nL lv → W p l e rm s m args below meth c s.heap [] 0 0 Q (F0 m 0 ls [])) :
    jMet l y ws rm G wc av (jQv G post w1) mc ms :=
  j_enter hy hw hnL hlv hnm how (fun A p e s m below meth c ls hC hI hl => body A p e s m _ below meth c _ ls hC (fun H locs pc ls u hdg hI hp => by
    obtain ⟨hK, hP, hD, hS, -, -⟩ := hI
    exact W.vret hC.1 hC.2.1 hC.2.2.2.2.2.1 (fun t ht hW => ⟨⟨u, rfl, hp, by rw [ht]; exact hP, va_K.moved hW.alike hK, hD⟩, hS.F ht⟩) hS.2.2 hdg hC.2.2.2.2.2.2.1) hI hl)
def jRq {S : Type} (p : Program) (l : Launch) (e : Env) (R : Room) (s : State) (m : MethodId) (args : Array Value) (below : List Frame) (meth : Method) (c : Code) (Q : State → Prop) (G : jG) (A : Nat → Prop) (cc : ByteArray) (mc ms : Nat) (post : Option Nat → S → Prop) (w1 : S → va_W) : Prop :=
  ∀ (H : Heap) (locs : List Loc) (pc : Nat) (ls : Array Slot) (r : Option Nat) (u : S), decode cc pc = .ok (.areturn, 1) → jI G A s (w1 u) H locs → post r u → W p l e R s m args below meth c H locs mc ms Q (F0 m pc ls [va_rf r])
theorem j_enter_q {S : Type} {post : Option Nat → S → Prop} {w1 : S → va_W} {l : Launch} {y : MethodName} {ws ws' : List Cond} {rm : Room} {G : jG} {wc : va_W} {av : List Value} {lv : List (Nat × Value)} {mc ms nL : Nat} {cc : ByteArray} {nm own : String} {ty : FieldType}
    (hy : plainName y.cls = true) (hw : ws = Cond.code y cc nL (some (.array ty)) :: ws') (hnL : (lg_sl av).length ≤ nL) (hlv : lv_args 0 av = lv) (hnm : y.name = nm) (how : y.cls = own)
    (body : ∀ (A : Nat → Prop) (p : Program) (e : Env) (s : State) (m : MethodId) (args : Array Value) (below : List Frame) (meth : Method) (c : Code) (Q : State → Prop) (ls : Array Slot), jC p s m args meth c cc own ws nL (some (.array ty)) nm → jRq p l e rm s m args below meth c Q G A cc mc ms post w1 → jI G A s wc s.heap [] → lv_has ls nL lv → W p l e rm s m args below meth c s.heap [] 0 0 Q (F0 m 0 ls [])) :
    jMet l y ws rm G wc av (jQq G post w1) mc ms :=
  j_enter hy hw hnL hlv hnm how (fun A p e s m below meth c ls hC hI hl => body A p e s m _ below meth c _ ls hC (fun H locs pc ls r u hdg hI hp => by
    obtain ⟨hK, hP, hD, hS, -, -⟩ := hI
    exact W.aret hC.1 hC.2.1 hC.2.2.2.2.2.1 (Or.inr ⟨_, rfl⟩) (va_rf_or r) (fun t ht hW => ⟨⟨r, u, rfl, hp, by rw [ht]; exact hP, va_K.moved hW.alike hK, hD⟩, hS.F ht⟩) hS.2.2 hdg hC.2.2.2.2.2.2.1) hI hl)
/-- cells picked out by their places -/
theorem j_pick {ws w : va_W} {is : List Nat} (hs : is.map (fun i => ws[i]?) = w.map some) : ∀ (k : Nat) (q : Nat × va_E), w[k]? = some q → ∃ i, is[k]? = some i ∧ ws[i]? = some q := by
  intro k q hk
  have h1 : (is.map (fun i => ws[i]?))[k]? = some (some q) := by rw [hs, List.getElem?_map, hk]; rfl
  rw [List.getElem?_map] at h1
  cases hi : is[k]? with
  | none => rw [hi] at h1; cases h1
  | some i => rw [hi] at h1; exact ⟨i, rfl, Option.some.inj h1⟩
theorem j_Psub {D : va_G} {cl : List vw_C} {ws w : va_W} {H : Heap} (h : va_P D cl ws H) {is : List Nat} (hs : is.map (fun i => ws[i]?) = w.map some) : va_P D cl w H := fun k q hk => by
  obtain ⟨i, -, hi⟩ := j_pick hs k q hk
  exact h i q hi
theorem jI.sub {G : jG} {A : Nat → Prop} {s : State} {ws w : va_W} {H : Heap} {locs : List Loc} (h : jI G A s ws H locs) (is : List Nat) (hn : va_nd is = true) (hs : is.map (fun i => ws[i]?) = w.map some) : jI G A s w H locs :=
  ⟨h.1, j_Psub h.2.1 hs, h.2.2.1.sub is hn hs, h.2.2.2.1, h.2.2.2.2.1, h.2.2.2.2.2⟩
theorem jI.eq {G : jG} {A : Nat → Prop} {s : State} {ws w : va_W} {H : Heap} {locs : List Loc} (h : jI G A s ws H locs) (e : ws = w) : jI G A s w H locs := e ▸ h
section JR
variable {p : Program} {l : Launch} {e : Env} {R : Room} {s : State} {m : MethodId} {args : Array Value} {below : List Frame} {meth : Method} {c : Code} {H : Heap} {locs : List Loc} {cells slots : Nat} {Q : State → Prop}
variable {cc : ByteArray} {own nm : String} {Ts : List Cond} {nL pc : Nat} {ret : Option FieldType} {ls : Array Slot} {rest : List Value} {G : jG} {A : Nat → Prop} {ws : va_W}
/-! fields -/
theorem j_get (hC : jC p s m args meth c cc own Ts nL ret nm) (hI : jI G A s ws H locs) {ref C : String} {T : u_T} {N ci index : Nat} (hin : ∀ w ∈ u_ws C T N, w ∈ Ts) {a : Nat} (q0 : Nat) {fs : List Value} (he : ws[q0]? = some (a, .inr (ci, fs))) (hc : vwCl[ci]? = some (C, T, N)) (k : Nat) (hk : k < N) (hlink : Cond.fieldLink own index ref (T k).2.1 (T k).2.2.1 ∈ Ts) (href : (T k).1 = ref) {v : Value} (hv : fs[k]? = some v) (hdg : decode cc pc = .ok (.getfield index, 3))
    (kk : W p l e R s m args below meth c H locs cells slots Q (F0 m (pc + 3) ls (v :: rest))) : W p l e R s m args below meth c H locs cells slots Q (F0 m pc ls (.ref a :: rest)) := by
  subst href
  exact va_get hC.1 hC.2.1 hC.2.2.2.2.1 hin hC.2.2.2.1 hI.1 hI.2.1 q0 he hc k hk (hC.2.2.2.2.1 _ hlink) (fun _ h => h) hv hdg kk
theorem j_getN (hC : jC p s m args meth c cc own Ts nL ret nm) (hI : jI G A s ws H locs) {ref C host : String} {T : u_T} {N ci index : Nat} (hin : ∀ w ∈ u_ws C T N, w ∈ Ts) {a : Nat} (q0 : Nat) {fs : List Value} (he : ws[q0]? = some (a, .inr (ci, fs))) (hc : vwCl[ci]? = some (C, T, N)) (k : Nat) (hk : k < N) (hlink : Cond.fieldLinkNest own index ref (T k).2.1 (T k).2.2.1 host ∈ jNest) (href : (T k).1 = ref) {v : Value} (hv : fs[k]? = some v) (hdg : decode cc pc = .ok (.getfield index, 3))
    (kk : W p l e R s m args below meth c H locs cells slots Q (F0 m (pc + 3) ls (v :: rest))) : W p l e R s m args below meth c H locs cells slots Q (F0 m pc ls (.ref a :: rest)) := by
  subst href
  exact va_getN hC.1 hC.2.1 hC.2.2.2.2.1 hin hC.2.2.2.1 hI.1 hI.2.1 q0 he hc k hk (va_Nw.use rfl (hI.2.2.2.2.2 _ hlink)) (fun _ h => h) hv hdg kk
theorem j_put (hC : jC p s m args meth c cc own Ts nL ret nm) (hI : jI G A s ws H locs) {ref C : String} {T : u_T} {N ci index : Nat} (hin : ∀ w ∈ u_ws C T N, w ∈ Ts) (ty0 : Nat → FieldType) (hty : ∀ k, k < N → parseFieldDescriptor (T k).2.2.1 = some (ty0 k)) (hnm : ∀ a, a < N → ∀ b, b < N → a ≠ b → (T a).2.1 ≠ (T b).2.1) {a : Nat} (q0 : Nat) {fs : List Value} (he : ws[q0]? = some (a, .inr (ci, fs))) (hc : vwCl[ci]? = some (C, T, N)) (k : Nat) (hk : k < N) (hlink : Cond.fieldLink own index ref (T k).2.1 (T k).2.2.1 ∈ Ts) (href : (T k).1 = ref) (hfin : (T k).2.2.2 = false) {v : Value} (hn : narrow (ty0 k) v = v) (hfit : fits (ty0 k) v = true) (hl : k < fs.length) (hdg : decode cc pc = .ok (.putfield index, 3)) {w1 : va_W} (hw : ws.set q0 (a, .inr (ci, fs.set k v)) = w1)
    (kk : ∀ (H1 : Heap) (locs1 : List Loc), jI G A s w1 H1 locs1 → W p l e R s m args below meth c H1 locs1 cells slots Q (F0 m (pc + 3) ls rest)) : W p l e R s m args below meth c H locs cells slots Q (F0 m pc ls (v :: .ref a :: rest)) := by
  subst href
  subst hw
  obtain ⟨hK, hP, hD, hS, hA, hN⟩ := hI
  exact va_put hC.1 hC.2.1 hC.2.2.2.2.1 hin ty0 hty hnm hC.2.2.2.1 hK hP hD hS q0 he hc k hk (hC.2.2.2.2.1 _ hlink) (fun _ h => h) hfin (hty k hk) hn hfit hl hdg (fun H1 locs1 hP hD hS => kk H1 locs1 ⟨hK, hP, hD, hS, hA, hN⟩)
theorem j_putF (hC : jC p s m args meth c cc own Ts nL ret "<init>") (hI : jI G A s ws H locs) {C : String} {T : u_T} {N ci index : Nat} (hin : ∀ w ∈ u_ws C T N, w ∈ Ts) (ty0 : Nat → FieldType) (hty : ∀ k, k < N → parseFieldDescriptor (T k).2.2.1 = some (ty0 k)) (hnm : ∀ a, a < N → ∀ b, b < N → a ≠ b → (T a).2.1 ≠ (T b).2.1) {a : Nat} (q0 : Nat) {fs : List Value} (he : ws[q0]? = some (a, .inr (ci, fs))) (hc : vwCl[ci]? = some (C, T, N)) (k : Nat) (hk : k < N) (hlink : Cond.fieldLink own index (T k).1 (T k).2.1 (T k).2.2.1 ∈ Ts) (href : (T k).1 = own) (hfin : (T k).2.2.2 = true) {v : Value} (hn : narrow (ty0 k) v = v) (hfit : fits (ty0 k) v = true) (hl : k < fs.length) (hdg : decode cc pc = .ok (.putfield index, 3)) {w1 : va_W} (hw : ws.set q0 (a, .inr (ci, fs.set k v)) = w1)
    (kk : ∀ (H1 : Heap) (locs1 : List Loc), jI G A s w1 H1 locs1 → W p l e R s m args below meth c H1 locs1 cells slots Q (F0 m (pc + 3) ls rest)) : W p l e R s m args below meth c H locs cells slots Q (F0 m pc ls (v :: .ref a :: rest)) := by
  subst hw
  obtain ⟨hK, hP, hD, hS, hA, hN⟩ := hI
  exact va_putF hC.1 hC.2.1 hC.2.2.2.2.1 hin ty0 hty hnm hC.2.2.2.1 hK hP hD hS q0 he hc k hk (hC.2.2.2.2.1 _ hlink) (fun _ h => h) hfin hC.2.2.2.2.2.2.2 href (hty k hk) hn hfit hl hdg (fun H1 locs1 hP hD hS => kk H1 locs1 ⟨hK, hP, hD, hS, hA, hN⟩)
/-! int arrays -/
theorem j_iald (hC : jC p s m args meth c cc own Ts nL ret nm) (hI : jI G A s ws H locs) (q0 : Nat) {a n i : Nat} {g : Nat → Nat} (ha : ws[q0]? = some (aI G a n g)) (hi : i < n) (hn : n < 2147483648) (hdg : decode cc pc = .ok (.iaload, 1))
    (kk : W p l e R s m args below meth c H locs cells slots Q (F0 m (pc + 1) ls (.int (nI (g i)) :: rest))) : W p l e R s m args below meth c H locs cells slots Q (F0 m pc ls (.int (nI i) :: .ref a :: rest)) := by
  refine va_iald hC.1 hC.2.1 hI.1 hI.2.1 q0 0 ha rfl (vp_in_nI hi (by omega)) hdg ?_
  rw [nI_clamp (by omega)]
  exact kk
theorem j_iast (hC : jC p s m args meth c cc own Ts nL ret nm) (hI : jI G A s ws H locs) (q0 : Nat) {a n i x : Nat} {g : Nat → Nat} (ha : ws[q0]? = some (aI G a n g)) (hi : i < n) (hn : n < 2147483648) (hdg : decode cc pc = .ok (.iastore, 1)) {w1 : va_W} (hw : ws.set q0 (aI G a n (up g i x)) = w1)
    (kk : ∀ (H1 : Heap) (locs1 : List Loc), jI G A s w1 H1 locs1 → W p l e R s m args below meth c H1 locs1 cells slots Q (F0 m (pc + 1) ls rest)) : W p l e R s m args below meth c H locs cells slots Q (F0 m pc ls (.int (nI x) :: .int (nI i) :: .ref a :: rest)) := by
  subst hw
  obtain ⟨hK, hP, hD, hS, hA, hN⟩ := hI
  refine va_iast hC.1 hC.2.1 hK hP hD hS q0 0 ha rfl (vp_in_nI hi (by omega)) hdg (fun H1 locs1 hP hD hS => ?_)
  rw [nI_clamp (by omega), nr_up] at hP hD
  exact kk H1 locs1 ⟨hK, hP, hD, hS, hA, hN⟩
theorem j_alen (hC : jC p s m args meth c cc own Ts nL ret nm) (hI : jI G A s ws H locs) (q0 : Nat) {a n : Nat} {g : Nat → Nat} (ha : ws[q0]? = some (aI G a n g)) (hdg : decode cc pc = .ok (.arraylength, 1))
    (kk : W p l e R s m args below meth c H locs cells slots Q (F0 m (pc + 1) ls (.int (nI n) :: rest))) : W p l e R s m args below meth c H locs cells slots Q (F0 m pc ls (.ref a :: rest)) :=
  va_alen hC.1 hC.2.1 hI.1 hI.2.1 q0 0 ha rfl (v := nI n) rfl hdg kk
/-! calls -/
theorem j_preV {wc : va_W} {C : String} {T : u_T} {N ci q0 b : Nat} {fs : List Value} {As : List Value} (hI : jI G A s ws H locs) (isC : List Nat) (hc : isC.map (fun i => ws[i]?) = wc.map some) (hnd : va_nd isC = true) (hcl : vwCl[ci]? = some (C, T, N)) (hq : wc[q0]? = some (b, .inr (ci, fs))) : PreV s H C b (jPre G wc H.size (.ref b :: As)) As :=
  ⟨jPre_blind, va_recv hI.1 (j_Psub hI.2.1 hc) hcl hq, fun U hU hW => ⟨rfl, by rw [hU], by rw [hU]; exact j_Psub hI.2.1 hc, va_K.moved hW.alike hI.1, (hI.2.2.1.sub isC hnd hc).weaken (fun _ _ _ _ => trivial), jN_warm hW hI.2.2.2.2.2⟩⟩
theorem j_preS {wc : va_W} {As : List Value} (hI : jI G A s ws H locs) (isC : List Nat) (hc : isC.map (fun i => ws[i]?) = wc.map some) (hnd : va_nd isC = true) : PreS s H (jPre G wc H.size As) As :=
  ⟨jPre_blind, fun U hU hW => ⟨rfl, by rw [hU], by rw [hU]; exact j_Psub hI.2.1 hc, va_K.moved hW.alike hI.1, (hI.2.2.1.sub isC hnd hc).weaken (fun _ _ _ _ => trivial), jN_warm hW hI.2.2.2.2.2⟩⟩
theorem j_back {wc wr w1 : va_W} {t : State} {H1 : Heap} {locs1 : List Loc} (hI : jI G A s ws H locs) (isC isR : List Nat) (hc : isC.map (fun i => ws[i]?) = wc.map some) (hr : isR.map (fun i => ws[i]?) = wr.map some) (hn : va_nd isR = true) (hdis : isR.all (fun i => !isC.contains i) = true) (ht : t.heap = H1) (hat : jAt G (va_A wc H.size) w1 t) (hk1 : ∀ q : Nat, q < H.size → ¬ va_A wc H.size q → H1[q]? = H[q]?) (hS : va_S A s.heap H1 locs1) : jI G A s (wr ++ w1) H1 locs1 := by
  obtain ⟨hP1, hK1, hD1⟩ := hat
  rw [ht] at hP1
  have hF := va_free (wc := wc) hI.2.2.1 hI.2.2.2.1 hI.2.2.2.2.1 isC hc
  obtain ⟨hP, hD⟩ := va_join hI.2.1 hI.2.2.1 isC isR hc hr hn (fun i hi h => by have h2 := List.all_eq_true.mp hdis i hi; simp [h] at h2) hk1 hF hP1 hD1
  exact ⟨hI.1, hP, hD, hS, hI.2.2.2.2.1, hI.2.2.2.2.2⟩
theorem j_callVi {S : Type} {post : Int32 → S → Prop} {w1 : S → va_W} {wc wr : va_W} {C : String} {T : u_T} {N ci q0 b index maxL n mc ms : Nat} {fs As st0 : List Value} {y : MethodName} {bytes : ByteArray} {rt : Option FieldType} {wsy : List Cond} {rm : Room} (hC : jC p s m args meth c cc own Ts nL ret nm) (hI : jI G A s ws H locs) (hM : jMet l y wsy rm G wc (.ref b :: As) (jQi G post w1) mc ms) (cw : CallW R s args own C index y bytes maxL rt wsy rm mc ms n)
    (isC isR : List Nat) (hc : isC.map (fun i => ws[i]?) = wc.map some) (hr : isR.map (fun i => ws[i]?) = wr.map some) (hnc : va_nd isC = true) (hnr : va_nd isR = true) (hdis : isR.all (fun i => !isC.contains i) = true) (hcl : vwCl[ci]? = some (C, T, N)) (hq : wc[q0]? = some (b, .inr (ci, fs)))
    (hst : st0 = As.reverse ++ .ref b :: rest) (hn : As.length = n) (hsize : ls.size = nL) (hW : (rest.map fun v => v.category).sum ≤ 8) (hdg : decode cc pc = .ok (.invokevirtual index, 3)) (hf : cells + mc ≤ R.cells ∧ slots + ms ≤ R.slots)
    (kk : ∀ (r : Int32) (u : S) (H1 : Heap) (locs1 : List Loc), post r u → jI G A s (wr ++ w1 u) H1 locs1 → W p l e R s m args below meth c H1 locs1 (cells + mc) (slots + ms) Q (F0 m (pc + 3) ls (.int r :: rest))) : W p l e R s m args below meth c H locs cells slots Q (F0 m pc ls st0) := by
  have hFc := va_free (wc := wc) hI.2.2.1 hI.2.2.2.1 hI.2.2.2.2.1 isC hc
  exact va_calli (va_runV (As := As) (rest := rest) hC.fix (hM H.size) cw (j_preV hI isC hc hnc hcl hq) rfl hn hsize hst (lv_room hW) hdg hf) hI.2.2.2.1 (fun q _ h => hFc q h) hFc (fun r u t H1 locs1 ht hvm hw hB hz1 hk1 hS => kk r u H1 locs1 hw (j_back hI isC isR hc hr hnr hdis ht hB hk1 hS))
theorem j_callVv {S : Type} {post : S → Prop} {w1 : S → va_W} {wc wr : va_W} {C : String} {T : u_T} {N ci q0 b index maxL n mc ms : Nat} {fs As st0 : List Value} {y : MethodName} {bytes : ByteArray} {rt : Option FieldType} {wsy : List Cond} {rm : Room} (hC : jC p s m args meth c cc own Ts nL ret nm) (hI : jI G A s ws H locs) (hM : jMet l y wsy rm G wc (.ref b :: As) (jQv G post w1) mc ms) (cw : CallW R s args own C index y bytes maxL rt wsy rm mc ms n)
    (isC isR : List Nat) (hc : isC.map (fun i => ws[i]?) = wc.map some) (hr : isR.map (fun i => ws[i]?) = wr.map some) (hnc : va_nd isC = true) (hnr : va_nd isR = true) (hdis : isR.all (fun i => !isC.contains i) = true) (hcl : vwCl[ci]? = some (C, T, N)) (hq : wc[q0]? = some (b, .inr (ci, fs)))
    (hst : st0 = As.reverse ++ .ref b :: rest) (hn : As.length = n) (hsize : ls.size = nL) (hW : (rest.map fun v => v.category).sum ≤ 8) (hdg : decode cc pc = .ok (.invokevirtual index, 3)) (hf : cells + mc ≤ R.cells ∧ slots + ms ≤ R.slots)
    (kk : ∀ (u : S) (H1 : Heap) (locs1 : List Loc), post u → jI G A s (wr ++ w1 u) H1 locs1 → W p l e R s m args below meth c H1 locs1 (cells + mc) (slots + ms) Q (F0 m (pc + 3) ls rest)) : W p l e R s m args below meth c H locs cells slots Q (F0 m pc ls st0) := by
  have hFc := va_free (wc := wc) hI.2.2.1 hI.2.2.2.1 hI.2.2.2.2.1 isC hc
  exact va_callv (va_runV (As := As) (rest := rest) hC.fix (hM H.size) cw (j_preV hI isC hc hnc hcl hq) rfl hn hsize hst (lv_room hW) hdg hf) hI.2.2.2.1 (fun q _ h => hFc q h) hFc (fun u t H1 locs1 ht hvm hw hB hz1 hk1 hS => kk u H1 locs1 hw (j_back hI isC isR hc hr hnr hdis ht hB hk1 hS))
theorem j_callSNi {S : Type} {post : Int32 → S → Prop} {w1 : S → va_W} {wc wr : va_W} {host : String} {index maxL n mc ms : Nat} {As st0 : List Value} {y : MethodName} {bytes : ByteArray} {rt : Option FieldType} {wsy : List Cond} {rm : Room} (hC : jC p s m args meth c cc own Ts nL ret nm) (hI : jI G A s ws H locs) (hM : jMet l y wsy rm G wc As (jQi G post w1) mc ms) (cw : va_CN R s args own index y host bytes maxL rt wsy rm mc ms n ∧ (Cond.static y).before args s = true ∧ True)
    (isC isR : List Nat) (hc : isC.map (fun i => ws[i]?) = wc.map some) (hr : isR.map (fun i => ws[i]?) = wr.map some) (hnc : va_nd isC = true) (hnr : va_nd isR = true) (hdis : isR.all (fun i => !isC.contains i) = true)
    (hst : st0 = As.reverse ++ rest) (hn : As.length = n) (hsize : ls.size = nL) (hW : (rest.map fun v => v.category).sum ≤ 8) (hdg : decode cc pc = .ok (.invokestatic index, 3)) (hf : cells + mc ≤ R.cells ∧ slots + ms ≤ R.slots)
    (kk : ∀ (r : Int32) (u : S) (H1 : Heap) (locs1 : List Loc), post r u → jI G A s (wr ++ w1 u) H1 locs1 → W p l e R s m args below meth c H1 locs1 (cells + mc) (slots + ms) Q (F0 m (pc + 3) ls (.int r :: rest))) : W p l e R s m args below meth c H locs cells slots Q (F0 m pc ls st0) := by
  have hFc := va_free (wc := wc) hI.2.2.1 hI.2.2.2.1 hI.2.2.2.2.1 isC hc
  exact va_calli (va_runSN (As := As) (rest := rest) hC.fix (hM H.size) cw (j_preS hI isC hc hnc) rfl hn hsize hst (lv_room hW) hdg hf) hI.2.2.2.1 (fun q _ h => hFc q h) hFc (fun r u t H1 locs1 ht hvm hw hB hz1 hk1 hS => kk r u H1 locs1 hw (j_back hI isC isR hc hr hnr hdis ht hB hk1 hS))
theorem j_callSi {S : Type} {post : Int32 → S → Prop} {w1 : S → va_W} {wc wr : va_W} {index maxL n mc ms : Nat} {As st0 : List Value} {y : MethodName} {bytes : ByteArray} {rt : Option FieldType} {wsy : List Cond} {rm : Room} (hC : jC p s m args meth c cc own Ts nL ret nm) (hI : jI G A s ws H locs) (hM : jMet l y wsy rm G wc As (jQi G post w1) mc ms) (cw : CallB R s args own index y bytes maxL rt wsy rm mc ms n ∧ (Cond.static y).before args s = true)
    (isC isR : List Nat) (hc : isC.map (fun i => ws[i]?) = wc.map some) (hr : isR.map (fun i => ws[i]?) = wr.map some) (hnc : va_nd isC = true) (hnr : va_nd isR = true) (hdis : isR.all (fun i => !isC.contains i) = true)
    (hst : st0 = As.reverse ++ rest) (hn : As.length = n) (hsize : ls.size = nL) (hW : (rest.map fun v => v.category).sum ≤ 8) (hdg : decode cc pc = .ok (.invokestatic index, 3)) (hf : cells + mc ≤ R.cells ∧ slots + ms ≤ R.slots)
    (kk : ∀ (r : Int32) (u : S) (H1 : Heap) (locs1 : List Loc), post r u → jI G A s (wr ++ w1 u) H1 locs1 → W p l e R s m args below meth c H1 locs1 (cells + mc) (slots + ms) Q (F0 m (pc + 3) ls (.int r :: rest))) : W p l e R s m args below meth c H locs cells slots Q (F0 m pc ls st0) := by
  have hFc := va_free (wc := wc) hI.2.2.1 hI.2.2.2.1 hI.2.2.2.2.1 isC hc
  exact va_calli (va_runS (As := As) (rest := rest) hC.fix (hM H.size) cw (j_preS hI isC hc hnc) rfl hn hsize hst (lv_room hW) hdg hf) hI.2.2.2.1 (fun q _ h => hFc q h) hFc (fun r u t H1 locs1 ht hvm hw hB hz1 hk1 hS => kk r u H1 locs1 hw (j_back hI isC isR hc hr hnr hdis ht hB hk1 hS))
theorem j_callSv {S : Type} {post : S → Prop} {w1 : S → va_W} {wc wr : va_W} {index maxL n mc ms : Nat} {As st0 : List Value} {y : MethodName} {bytes : ByteArray} {rt : Option FieldType} {wsy : List Cond} {rm : Room} (hC : jC p s m args meth c cc own Ts nL ret nm) (hI : jI G A s ws H locs) (hM : jMet l y wsy rm G wc As (jQv G post w1) mc ms) (cw : CallB R s args own index y bytes maxL rt wsy rm mc ms n ∧ (Cond.static y).before args s = true)
    (isC isR : List Nat) (hc : isC.map (fun i => ws[i]?) = wc.map some) (hr : isR.map (fun i => ws[i]?) = wr.map some) (hnc : va_nd isC = true) (hnr : va_nd isR = true) (hdis : isR.all (fun i => !isC.contains i) = true)
    (hst : st0 = As.reverse ++ rest) (hn : As.length = n) (hsize : ls.size = nL) (hW : (rest.map fun v => v.category).sum ≤ 8) (hdg : decode cc pc = .ok (.invokestatic index, 3)) (hf : cells + mc ≤ R.cells ∧ slots + ms ≤ R.slots)
    (kk : ∀ (u : S) (H1 : Heap) (locs1 : List Loc), post u → jI G A s (wr ++ w1 u) H1 locs1 → W p l e R s m args below meth c H1 locs1 (cells + mc) (slots + ms) Q (F0 m (pc + 3) ls rest)) : W p l e R s m args below meth c H locs cells slots Q (F0 m pc ls st0) := by
  have hFc := va_free (wc := wc) hI.2.2.1 hI.2.2.2.1 hI.2.2.2.2.1 isC hc
  exact va_callv (va_runS (As := As) (rest := rest) hC.fix (hM H.size) cw (j_preS hI isC hc hnc) rfl hn hsize hst (lv_room hW) hdg hf) hI.2.2.2.1 (fun q _ h => hFc q h) hFc (fun u t H1 locs1 ht hvm hw hB hz1 hk1 hS => kk u H1 locs1 hw (j_back hI isC isR hc hr hnr hdis ht hB hk1 hS))
theorem j_callI {S : Type} {post : S → Prop} {w1 : S → va_W} {wc wr : va_W} {b index maxL n mc ms : Nat} {As st0 : List Value} {y : MethodName} {bytes : ByteArray} {wsy : List Cond} {rm : Room} (hC : jC p s m args meth c cc own Ts nL ret nm) (hI : jI G A s ws H locs) (hM : jMet l y wsy rm G wc (.ref b :: As) (jQv G post w1) mc ms) (cw : CallB R s args own index y bytes maxL none wsy rm mc ms n ∧ y.name = "<init>" ∧ (Cond.instanceMethod y).before args s = true)
    (isC isR : List Nat) (hc : isC.map (fun i => ws[i]?) = wc.map some) (hr : isR.map (fun i => ws[i]?) = wr.map some) (hnc : va_nd isC = true) (hnr : va_nd isR = true) (hdis : isR.all (fun i => !isC.contains i) = true)
    (hst : st0 = As.reverse ++ .ref b :: rest) (hn : As.length = n) (hsize : ls.size = nL) (hW : (rest.map fun v => v.category).sum ≤ 8) (hdg : decode cc pc = .ok (.invokespecial index, 3)) (hf : cells + mc ≤ R.cells ∧ slots + ms ≤ R.slots)
    (kk : ∀ (u : S) (H1 : Heap) (locs1 : List Loc), post u → jI G A s (wr ++ w1 u) H1 locs1 → W p l e R s m args below meth c H1 locs1 (cells + mc) (slots + ms) Q (F0 m (pc + 3) ls rest)) : W p l e R s m args below meth c H locs cells slots Q (F0 m pc ls st0) := by
  have hFc := va_free (wc := wc) hI.2.2.1 hI.2.2.2.1 hI.2.2.2.2.1 isC hc
  exact va_callv (va_runI (As := As) (rest := rest) hC.fix (hM H.size) cw (j_preS hI isC hc hnc) rfl hn hsize hst (lv_room hW) hdg hf) hI.2.2.2.1 (fun q _ h => hFc q h) hFc (fun u t H1 locs1 ht hvm hw hB hz1 hk1 hS => kk u H1 locs1 hw (j_back hI isC isR hc hr hnr hdis ht hB hk1 hS))
theorem j_iadd (hC : jC p s m args meth c cc own Ts nL ret nm) {a b : Nat} (hdg : decode cc pc = .ok (.iadd, 1))
    (kk : W p l e R s m args below meth c H locs cells slots Q (F0 m (pc + 1) ls (.int (nI (a + b)) :: rest))) : W p l e R s m args below meth c H locs cells slots Q (F0 m pc ls (.int (nI b) :: .int (nI a) :: rest)) := lv_iadd hC.1 hC.2.1 hdg (by rw [nI_add]; exact kk)
theorem j_isub (hC : jC p s m args meth c cc own Ts nL ret nm) {a b : Nat} (hab : b ≤ a) (hdg : decode cc pc = .ok (.isub, 1))
    (kk : W p l e R s m args below meth c H locs cells slots Q (F0 m (pc + 1) ls (.int (nI (a - b)) :: rest))) : W p l e R s m args below meth c H locs cells slots Q (F0 m pc ls (.int (nI b) :: .int (nI a) :: rest)) := lv_isub hC.1 hC.2.1 hdg (by rw [pk_sub hab]; exact kk)
theorem j_imul (hC : jC p s m args meth c cc own Ts nL ret nm) {a b : Nat} (hdg : decode cc pc = .ok (.imul, 1))
    (kk : W p l e R s m args below meth c H locs cells slots Q (F0 m (pc + 1) ls (.int (nI (a * b)) :: rest))) : W p l e R s m args below meth c H locs cells slots Q (F0 m pc ls (.int (nI b) :: .int (nI a) :: rest)) := lv_imul hC.1 hC.2.1 hdg (by rw [pk_mul]; exact kk)
theorem j_idiv (hC : jC p s m args meth c cc own Ts nL ret nm) {a b : Nat} (ha : a < 2147483648) (h0 : 0 < b) (hb : b < 2147483648) (hdg : decode cc pc = .ok (.idiv, 1))
    (kk : W p l e R s m args below meth c H locs cells slots Q (F0 m (pc + 1) ls (.int (nI (a / b)) :: rest))) : W p l e R s m args below meth c H locs cells slots Q (F0 m pc ls (.int (nI b) :: .int (nI a) :: rest)) := lv_idiv hC.1 hC.2.1 hdg (nI_ne0 h0 (by omega)) (by rw [pk_div (by omega) h0 (by omega)]; exact kk)
theorem j_irem (hC : jC p s m args meth c cc own Ts nL ret nm) {a b : Nat} (ha : a < 2147483648) (h0 : 0 < b) (hb : b < 2147483648) (hdg : decode cc pc = .ok (.irem, 1))
    (kk : W p l e R s m args below meth c H locs cells slots Q (F0 m (pc + 1) ls (.int (nI (a % b)) :: rest))) : W p l e R s m args below meth c H locs cells slots Q (F0 m pc ls (.int (nI b) :: .int (nI a) :: rest)) := lv_irem hC.1 hC.2.1 hdg (nI_ne0 h0 (by omega)) (by rw [pk_rem (by omega) h0 (by omega)]; exact kk)
theorem nI_sh31 : ∀ b, b < 32 → ((nI b &&& 31).toBitVec.smod 32).toNat = b := by decide +kernel
theorem j_ishr (hC : jC p s m args meth c cc own Ts nL ret nm) {a b : Nat} (ha : a < 2147483648) (hb : b < 32) (hdg : decode cc pc = .ok (.ishr, 1))
    (kk : W p l e R s m args below meth c H locs cells slots Q (F0 m (pc + 1) ls (.int (nI (a / 2 ^ b)) :: rest))) : W p l e R s m args below meth c H locs cells slots Q (F0 m pc ls (.int (nI b) :: .int (nI a) :: rest)) := lv_ishr hC.1 hC.2.1 hdg (by rw [pk_shrN (by omega) _ b (nI_sh31 b hb)]; exact kk)
theorem j_ishl (hC : jC p s m args meth c cc own Ts nL ret nm) {a b : Nat} (hb : b < 32) (ha : a * 2 ^ b < 4294967296) (hdg : decode cc pc = .ok (.ishl, 1))
    (kk : W p l e R s m args below meth c H locs cells slots Q (F0 m (pc + 1) ls (.int (nI (a * 2 ^ b)) :: rest))) : W p l e R s m args below meth c H locs cells slots Q (F0 m pc ls (.int (nI b) :: .int (nI a) :: rest)) := lv_ishl hC.1 hC.2.1 hdg (by rw [pk_shlN _ b (nI_sh31 b hb) (by omega)]; exact kk)
theorem nI_land (a b : Nat) : nI a &&& nI b = nI (a &&& b) := by
  apply Int32.toBitVec_inj.mp
  show (nI a).toBitVec &&& (nI b).toBitVec = (nI (a &&& b)).toBitVec
  show BitVec.ofNat 32 a &&& BitVec.ofNat 32 b = BitVec.ofNat 32 (a &&& b)
  apply BitVec.eq_of_toNat_eq
  simp [BitVec.toNat_and, BitVec.toNat_ofNat, Nat.and_mod_two_pow]
theorem nI_lor (a b : Nat) : nI a ||| nI b = nI (a ||| b) := by
  apply Int32.toBitVec_inj.mp
  show BitVec.ofNat 32 a ||| BitVec.ofNat 32 b = BitVec.ofNat 32 (a ||| b)
  apply BitVec.eq_of_toNat_eq
  simp [BitVec.toNat_or, BitVec.toNat_ofNat, Nat.or_mod_two_pow]
theorem j_iand (hC : jC p s m args meth c cc own Ts nL ret nm) {a b : Nat} (hdg : decode cc pc = .ok (.iand, 1))
    (kk : W p l e R s m args below meth c H locs cells slots Q (F0 m (pc + 1) ls (.int (nI (a &&& b)) :: rest))) : W p l e R s m args below meth c H locs cells slots Q (F0 m pc ls (.int (nI b) :: .int (nI a) :: rest)) := lv_iand hC.1 hC.2.1 hdg (by rw [nI_land]; exact kk)
theorem j_ior (hC : jC p s m args meth c cc own Ts nL ret nm) {a b : Nat} (hdg : decode cc pc = .ok (.ior, 1))
    (kk : W p l e R s m args below meth c H locs cells slots Q (F0 m (pc + 1) ls (.int (nI (a ||| b)) :: rest))) : W p l e R s m args below meth c H locs cells slots Q (F0 m pc ls (.int (nI b) :: .int (nI a) :: rest)) := lv_ior hC.1 hC.2.1 hdg (by rw [nI_lor]; exact kk)
theorem j_icmp_eq (hC : jC p s m args meth c cc own Ts nL ret nm) {a b : Nat} {off : Int} {tgt : Nat} (hdg : decode cc pc = .ok (.if_icmp .eq off, 3)) (ht : (pc : Int) + off = (tgt : Int)) (ha : a < 2147483648) (hb : b < 2147483648)
    (kt : a = b → W p l e R s m args below meth c H locs cells slots Q (F0 m tgt ls rest)) (kf : a ≠ b → W p l e R s m args below meth c H locs cells slots Q (F0 m (pc + 3) ls rest)) : W p l e R s m args below meth c H locs cells slots Q (F0 m pc ls (.int (nI b) :: .int (nI a) :: rest)) :=
  lv_icmp_eq hC.1 hC.2.1 hdg ht (fun h => kt ((nI_eq (by omega) (by omega)).mp h)) (fun h => kf (fun q => h (by rw [q])))
theorem j_icmp_ne (hC : jC p s m args meth c cc own Ts nL ret nm) {a b : Nat} {off : Int} {tgt : Nat} (hdg : decode cc pc = .ok (.if_icmp .ne off, 3)) (ht : (pc : Int) + off = (tgt : Int)) (ha : a < 2147483648) (hb : b < 2147483648)
    (kt : a ≠ b → W p l e R s m args below meth c H locs cells slots Q (F0 m tgt ls rest)) (kf : a = b → W p l e R s m args below meth c H locs cells slots Q (F0 m (pc + 3) ls rest)) : W p l e R s m args below meth c H locs cells slots Q (F0 m pc ls (.int (nI b) :: .int (nI a) :: rest)) :=
  lv_icmp_ne hC.1 hC.2.1 hdg ht (fun h => kt (fun q => h (by rw [q]))) (fun h => kf ((nI_eq (by omega) (by omega)).mp h))
theorem j_icmp_lt (hC : jC p s m args meth c cc own Ts nL ret nm) {a b : Nat} {off : Int} {tgt : Nat} (hdg : decode cc pc = .ok (.if_icmp .lt off, 3)) (ht : (pc : Int) + off = (tgt : Int)) (ha : a < 2147483648) (hb : b < 2147483648)
    (kt : a < b → W p l e R s m args below meth c H locs cells slots Q (F0 m tgt ls rest)) (kf : b ≤ a → W p l e R s m args below meth c H locs cells slots Q (F0 m (pc + 3) ls rest)) : W p l e R s m args below meth c H locs cells slots Q (F0 m pc ls (.int (nI b) :: .int (nI a) :: rest)) :=
  lv_icmp_lt hC.1 hC.2.1 hdg ht (fun h => kt ((nI_ltI (by omega) (by omega)).mp h)) (fun h => kf (Nat.le_of_not_lt (fun q => h ((nI_ltI (by omega) (by omega)).mpr q))))
theorem j_icmp_ge (hC : jC p s m args meth c cc own Ts nL ret nm) {a b : Nat} {off : Int} {tgt : Nat} (hdg : decode cc pc = .ok (.if_icmp .ge off, 3)) (ht : (pc : Int) + off = (tgt : Int)) (ha : a < 2147483648) (hb : b < 2147483648)
    (kt : b ≤ a → W p l e R s m args below meth c H locs cells slots Q (F0 m tgt ls rest)) (kf : a < b → W p l e R s m args below meth c H locs cells slots Q (F0 m (pc + 3) ls rest)) : W p l e R s m args below meth c H locs cells slots Q (F0 m pc ls (.int (nI b) :: .int (nI a) :: rest)) :=
  lv_icmp_ge hC.1 hC.2.1 hdg ht (fun h => kt ((nI_leI (by omega) (by omega)).mp h)) (fun h => kf (Nat.lt_of_not_le (fun q => h ((nI_leI (by omega) (by omega)).mpr q))))
theorem j_icmp_gt (hC : jC p s m args meth c cc own Ts nL ret nm) {a b : Nat} {off : Int} {tgt : Nat} (hdg : decode cc pc = .ok (.if_icmp .gt off, 3)) (ht : (pc : Int) + off = (tgt : Int)) (ha : a < 2147483648) (hb : b < 2147483648)
    (kt : b < a → W p l e R s m args below meth c H locs cells slots Q (F0 m tgt ls rest)) (kf : a ≤ b → W p l e R s m args below meth c H locs cells slots Q (F0 m (pc + 3) ls rest)) : W p l e R s m args below meth c H locs cells slots Q (F0 m pc ls (.int (nI b) :: .int (nI a) :: rest)) :=
  lv_icmp_gt hC.1 hC.2.1 hdg ht (fun h => kt ((nI_ltI (by omega) (by omega)).mp h)) (fun h => kf (Nat.le_of_not_lt (fun q => h ((nI_ltI (by omega) (by omega)).mpr q))))
theorem j_icmp_le (hC : jC p s m args meth c cc own Ts nL ret nm) {a b : Nat} {off : Int} {tgt : Nat} (hdg : decode cc pc = .ok (.if_icmp .le off, 3)) (ht : (pc : Int) + off = (tgt : Int)) (ha : a < 2147483648) (hb : b < 2147483648)
    (kt : a ≤ b → W p l e R s m args below meth c H locs cells slots Q (F0 m tgt ls rest)) (kf : b < a → W p l e R s m args below meth c H locs cells slots Q (F0 m (pc + 3) ls rest)) : W p l e R s m args below meth c H locs cells slots Q (F0 m pc ls (.int (nI b) :: .int (nI a) :: rest)) :=
  lv_icmp_le hC.1 hC.2.1 hdg ht (fun h => kt ((nI_leI (by omega) (by omega)).mp h)) (fun h => kf (Nat.lt_of_not_le (fun q => h ((nI_leI (by omega) (by omega)).mpr q))))
theorem nI_lt0 {a : Nat} (h : a < 2147483648) : ¬ nI a < 0 := nI_pos (by omega)
theorem nI_eq0 {a : Nat} (h : a < 2147483648) : nI a = 0 ↔ a = 0 := ⟨fun q => by
  rcases Nat.eq_zero_or_pos a with z | z
  · exact z
  · exact absurd q (nI_ne0 z (by omega)), fun q => by rw [q]; exact nI_0⟩
theorem nI_le0 {a : Nat} (h : a < 2147483648) : nI a ≤ 0 ↔ a = 0 := ⟨fun q => by
  rcases Nat.eq_zero_or_pos a with z | z
  · exact z
  · exact absurd q (nI_nle z (by omega)), fun q => by rw [q]; decide⟩
theorem nI_gt0 {a : Nat} (h : a < 2147483648) : 0 < nI a ↔ 0 < a := ⟨fun q => by
  rcases Nat.eq_zero_or_pos a with z | z
  · rw [z] at q; exact absurd q (by decide)
  · exact z, fun q => by
  have := nI_nle q (by omega)
  exact Int32.not_le.mp this⟩
theorem nI_ge0 {a : Nat} (h : a < 2147483648) : 0 ≤ nI a := nI_pos' (by omega)
theorem j_if_eq (hC : jC p s m args meth c cc own Ts nL ret nm) {a : Nat} {off : Int} {tgt : Nat} (hdg : decode cc pc = .ok (.ifCond .eq off, 3)) (ht : (pc : Int) + off = (tgt : Int)) (ha : a < 2147483648)
    (kt : a = 0 → W p l e R s m args below meth c H locs cells slots Q (F0 m tgt ls rest)) (kf : a ≠ 0 → W p l e R s m args below meth c H locs cells slots Q (F0 m (pc + 3) ls rest)) : W p l e R s m args below meth c H locs cells slots Q (F0 m pc ls (.int (nI a) :: rest)) :=
  lv_if_eq hC.1 hC.2.1 hdg ht (fun h => kt ((nI_eq0 ha).mp h)) (fun h => kf (fun q => h ((nI_eq0 ha).mpr q)))
theorem j_if_ne (hC : jC p s m args meth c cc own Ts nL ret nm) {a : Nat} {off : Int} {tgt : Nat} (hdg : decode cc pc = .ok (.ifCond .ne off, 3)) (ht : (pc : Int) + off = (tgt : Int)) (ha : a < 2147483648)
    (kt : a ≠ 0 → W p l e R s m args below meth c H locs cells slots Q (F0 m tgt ls rest)) (kf : a = 0 → W p l e R s m args below meth c H locs cells slots Q (F0 m (pc + 3) ls rest)) : W p l e R s m args below meth c H locs cells slots Q (F0 m pc ls (.int (nI a) :: rest)) :=
  lv_if_ne hC.1 hC.2.1 hdg ht (fun h => kt (fun q => h ((nI_eq0 ha).mpr q))) (fun h => kf ((nI_eq0 ha).mp h))
theorem j_if_gt (hC : jC p s m args meth c cc own Ts nL ret nm) {a : Nat} {off : Int} {tgt : Nat} (hdg : decode cc pc = .ok (.ifCond .gt off, 3)) (ht : (pc : Int) + off = (tgt : Int)) (ha : a < 2147483648)
    (kt : 0 < a → W p l e R s m args below meth c H locs cells slots Q (F0 m tgt ls rest)) (kf : a = 0 → W p l e R s m args below meth c H locs cells slots Q (F0 m (pc + 3) ls rest)) : W p l e R s m args below meth c H locs cells slots Q (F0 m pc ls (.int (nI a) :: rest)) :=
  lv_if_gt hC.1 hC.2.1 hdg ht (fun h => kt ((nI_gt0 ha).mp h)) (fun h => kf (by rcases Nat.eq_zero_or_pos a with z | z; exact z; exact absurd ((nI_gt0 ha).mpr z) h))
theorem j_if_le (hC : jC p s m args meth c cc own Ts nL ret nm) {a : Nat} {off : Int} {tgt : Nat} (hdg : decode cc pc = .ok (.ifCond .le off, 3)) (ht : (pc : Int) + off = (tgt : Int)) (ha : a < 2147483648)
    (kt : a = 0 → W p l e R s m args below meth c H locs cells slots Q (F0 m tgt ls rest)) (kf : 0 < a → W p l e R s m args below meth c H locs cells slots Q (F0 m (pc + 3) ls rest)) : W p l e R s m args below meth c H locs cells slots Q (F0 m pc ls (.int (nI a) :: rest)) :=
  lv_if_le hC.1 hC.2.1 hdg ht (fun h => kt ((nI_le0 ha).mp h)) (fun h => kf (by rcases Nat.eq_zero_or_pos a with z | z; exact absurd ((nI_le0 ha).mpr z) h; exact z))
theorem j_if_lt (hC : jC p s m args meth c cc own Ts nL ret nm) {a : Nat} {off : Int} {tgt : Nat} (hdg : decode cc pc = .ok (.ifCond .lt off, 3)) (ht : (pc : Int) + off = (tgt : Int)) (ha : a < 2147483648)
    (kf : W p l e R s m args below meth c H locs cells slots Q (F0 m (pc + 3) ls rest)) : W p l e R s m args below meth c H locs cells slots Q (F0 m pc ls (.int (nI a) :: rest)) :=
  lv_if_lt hC.1 hC.2.1 hdg ht (fun h => absurd h (nI_lt0 ha)) (fun _ => kf)
theorem j_if_ge (hC : jC p s m args meth c cc own Ts nL ret nm) {a : Nat} {off : Int} {tgt : Nat} (hdg : decode cc pc = .ok (.ifCond .ge off, 3)) (ht : (pc : Int) + off = (tgt : Int)) (ha : a < 2147483648)
    (kt : W p l e R s m args below meth c H locs cells slots Q (F0 m tgt ls rest)) : W p l e R s m args below meth c H locs cells slots Q (F0 m pc ls (.int (nI a) :: rest)) :=
  lv_if_ge hC.1 hC.2.1 hdg ht (fun _ => kt) (fun h => absurd (nI_ge0 ha) h)
/-! a number that may be one below 0 -/
def mI (j : Nat) : Int32 := nI j - 1
theorem mI_s (j : Nat) : mI (j + 1) = nI j := nI_pred j
theorem mI_lt {j : Nat} (h : j ≤ 2147483648) : mI j < 0 ↔ j = 0 := by
  cases j with
  | zero => exact ⟨fun _ => rfl, fun _ => by decide⟩
  | succ j => rw [mI_s]; exact ⟨fun q => absurd q (nI_lt0 (by omega)), fun q => by omega⟩
theorem j_inc (e : Nat) (c : Int) (k : Nat) (h : Int32.ofInt c = nI k) : nI e + Int32.ofInt c = nI (e + k) := by rw [h, nI_add]
theorem j_dec (e : Nat) : nI e + Int32.ofInt (-1) = mI e := by
  show nI e + Int32.ofInt (-1) = nI e - 1
  rw [Int32.sub_eq_add_neg]; rfl
theorem j_decN {e : Nat} (h : 1 ≤ e) : nI e + Int32.ofInt (-1) = nI (e - 1) := by
  rw [j_dec]; obtain ⟨k, rfl⟩ : ∃ k, e = k + 1 := ⟨e - 1, by omega⟩
  rw [mI_s, Nat.add_sub_cancel]
theorem j_isub1 (hC : jC p s m args meth c cc own Ts nL ret nm) {a : Nat} (hdg : decode cc pc = .ok (.isub, 1))
    (kk : W p l e R s m args below meth c H locs cells slots Q (F0 m (pc + 1) ls (.int (mI a) :: rest))) : W p l e R s m args below meth c H locs cells slots Q (F0 m pc ls (.int (nI 1) :: .int (nI a) :: rest)) := lv_isub hC.1 hC.2.1 hdg kk
theorem j_ifM_lt (hC : jC p s m args meth c cc own Ts nL ret nm) {a : Nat} {off : Int} {tgt : Nat} (hdg : decode cc pc = .ok (.ifCond .lt off, 3)) (ht : (pc : Int) + off = (tgt : Int)) (ha : a ≤ 2147483648)
    (kt : a = 0 → W p l e R s m args below meth c H locs cells slots Q (F0 m tgt ls rest)) (kf : 0 < a → W p l e R s m args below meth c H locs cells slots Q (F0 m (pc + 3) ls rest)) : W p l e R s m args below meth c H locs cells slots Q (F0 m pc ls (.int (mI a) :: rest)) :=
  lv_if_lt hC.1 hC.2.1 hdg ht (fun h => kt ((mI_lt ha).mp h)) (fun h => kf (Nat.pos_of_ne_zero (fun q => h ((mI_lt ha).mpr q))))
theorem j_ifM_ge (hC : jC p s m args meth c cc own Ts nL ret nm) {a : Nat} {off : Int} {tgt : Nat} (hdg : decode cc pc = .ok (.ifCond .ge off, 3)) (ht : (pc : Int) + off = (tgt : Int)) (ha : a ≤ 2147483648)
    (kt : 0 < a → W p l e R s m args below meth c H locs cells slots Q (F0 m tgt ls rest)) (kf : a = 0 → W p l e R s m args below meth c H locs cells slots Q (F0 m (pc + 3) ls rest)) : W p l e R s m args below meth c H locs cells slots Q (F0 m pc ls (.int (mI a) :: rest)) :=
  lv_if_ge hC.1 hC.2.1 hdg ht (fun h => kt (Nat.pos_of_ne_zero (fun q => absurd ((mI_lt ha).mpr q) (Int32.not_lt.mpr h)))) (fun h => kf ((mI_lt ha).mp (Int32.not_le.mp h)))
/-! the lowest byte of any number -/
def by8 (x : Int32) : Nat := x.toBitVec.toNat % 256
theorem by8_lt (x : Int32) : by8 x < 256 := Nat.mod_lt _ (by decide)
theorem by8_nI {a : Nat} (h : a < 4294967296) : by8 (nI a) = a % 256 := by rw [by8, pk_tn (by omega)]
theorem j_and255 (hC : jC p s m args meth c cc own Ts nL ret nm) {x : Int32} (hdg : decode cc pc = .ok (.iand, 1))
    (kk : W p l e R s m args below meth c H locs cells slots Q (F0 m (pc + 1) ls (.int (nI (by8 x)) :: rest))) : W p l e R s m args below meth c H locs cells slots Q (F0 m pc ls (.int (nI 255) :: .int x :: rest)) :=
  lv_iand hC.1 hC.2.1 hdg (by rw [pk_and x 8 (by decide)]; exact kk)
theorem j_and1 (hC : jC p s m args meth c cc own Ts nL ret nm) {a : Nat} (hdg : decode cc pc = .ok (.iand, 1))
    (kk : W p l e R s m args below meth c H locs cells slots Q (F0 m (pc + 1) ls (.int (nI (a % 2)) :: rest))) : W p l e R s m args below meth c H locs cells slots Q (F0 m pc ls (.int (nI 1) :: .int (nI a) :: rest)) :=
  lv_iand hC.1 hC.2.1 hdg (by rw [nI_land, show a &&& 1 = a % 2 from Nat.and_one_is_mod a]; exact kk)
/-! any number against a natural one -/
theorem jz_of {x : Int32} {b : Nat} (hb : b < 2147483648) (h : nI b ≤ x) : ∃ j, b ≤ j ∧ j < 2147483648 ∧ x = nI j := by
  have h1 : (b : Int) ≤ x.toInt := by have := Int32.le_iff_toInt_le.mp h; rwa [nI_toInt (by omega)] at this
  obtain ⟨j, h2, rfl⟩ := nI_of (x := x) (Int32.not_lt.mpr (by rw [Int32.le_iff_toInt_le]; show (0 : Int) ≤ _; omega))
  rw [nI_toInt (by omega)] at h1
  exact ⟨j, by omega, by omega, rfl⟩
theorem jz_icmp_lt (hC : jC p s m args meth c cc own Ts nL ret nm) {x : Int32} {b : Nat} {off : Int} {tgt : Nat} (hdg : decode cc pc = .ok (.if_icmp .lt off, 3)) (ht : (pc : Int) + off = (tgt : Int)) (hb : b < 2147483648)
    (kt : x < nI b → W p l e R s m args below meth c H locs cells slots Q (F0 m tgt ls rest)) (kf : ∀ j, b ≤ j → j < 2147483648 → x = nI j → W p l e R s m args below meth c H locs cells slots Q (F0 m (pc + 3) ls rest)) : W p l e R s m args below meth c H locs cells slots Q (F0 m pc ls (.int (nI b) :: .int x :: rest)) :=
  lv_icmp_lt hC.1 hC.2.1 hdg ht kt (fun h => by obtain ⟨j, h1, h2, h3⟩ := jz_of hb (Int32.not_lt.mp h); exact kf j h1 h2 h3)
theorem jz_icmp_ge (hC : jC p s m args meth c cc own Ts nL ret nm) {x : Int32} {b : Nat} {off : Int} {tgt : Nat} (hdg : decode cc pc = .ok (.if_icmp .ge off, 3)) (ht : (pc : Int) + off = (tgt : Int)) (hb : b < 2147483648)
    (kt : ∀ j, b ≤ j → j < 2147483648 → x = nI j → W p l e R s m args below meth c H locs cells slots Q (F0 m tgt ls rest)) (kf : x < nI b → W p l e R s m args below meth c H locs cells slots Q (F0 m (pc + 3) ls rest)) : W p l e R s m args below meth c H locs cells slots Q (F0 m pc ls (.int (nI b) :: .int x :: rest)) :=
  lv_icmp_ge hC.1 hC.2.1 hdg ht (fun h => by obtain ⟨j, h1, h2, h3⟩ := jz_of hb h; exact kt j h1 h2 h3) (fun h => kf (Int32.not_le.mp h))
theorem jz_icmp_gt (hC : jC p s m args meth c cc own Ts nL ret nm) {x : Int32} {b : Nat} {off : Int} {tgt : Nat} (hdg : decode cc pc = .ok (.if_icmp .gt off, 3)) (ht : (pc : Int) + off = (tgt : Int)) (hb : b < 2147483648)
    (kt : ∀ j, b ≤ j → j < 2147483648 → x = nI j → W p l e R s m args below meth c H locs cells slots Q (F0 m tgt ls rest)) (kf : x ≤ nI b → W p l e R s m args below meth c H locs cells slots Q (F0 m (pc + 3) ls rest)) : W p l e R s m args below meth c H locs cells slots Q (F0 m pc ls (.int (nI b) :: .int x :: rest)) :=
  lv_icmp_gt hC.1 hC.2.1 hdg ht (fun h => by obtain ⟨j, h1, h2, h3⟩ := jz_of hb (Int32.le_of_lt h); exact kt j h1 h2 h3) (fun h => kf (Int32.not_lt.mp h))
theorem jz_if_lt (hC : jC p s m args meth c cc own Ts nL ret nm) {x : Int32} {off : Int} {tgt : Nat} (hdg : decode cc pc = .ok (.ifCond .lt off, 3)) (ht : (pc : Int) + off = (tgt : Int))
    (kt : x < 0 → W p l e R s m args below meth c H locs cells slots Q (F0 m tgt ls rest)) (kf : ∀ j, j < 2147483648 → x = nI j → W p l e R s m args below meth c H locs cells slots Q (F0 m (pc + 3) ls rest)) : W p l e R s m args below meth c H locs cells slots Q (F0 m pc ls (.int x :: rest)) :=
  lv_if_lt hC.1 hC.2.1 hdg ht kt (fun h => by obtain ⟨j, h1, h2⟩ := nI_of h; exact kf j (by omega) h2)
theorem jz_if_ge (hC : jC p s m args meth c cc own Ts nL ret nm) {x : Int32} {off : Int} {tgt : Nat} (hdg : decode cc pc = .ok (.ifCond .ge off, 3)) (ht : (pc : Int) + off = (tgt : Int))
    (kt : ∀ j, j < 2147483648 → x = nI j → W p l e R s m args below meth c H locs cells slots Q (F0 m tgt ls rest)) (kf : x < 0 → W p l e R s m args below meth c H locs cells slots Q (F0 m (pc + 3) ls rest)) : W p l e R s m args below meth c H locs cells slots Q (F0 m pc ls (.int x :: rest)) :=
  lv_if_ge hC.1 hC.2.1 hdg ht (fun h => by obtain ⟨j, h1, h2⟩ := nI_of (Int32.not_lt.mpr h); exact kt j (by omega) h2) (fun h => kf (Int32.not_le.mp h))
/-! constants, Math, copies, new cells -/
theorem j_ldc (hC : jC p s m args meth c cc own Ts nL ret nm) {index k : Nat} {v : Int32} (hdg : decode cc pc = .ok (.ldc index, 2)) (hw : Cond.constant own index v ∈ Ts) (hv : v = nI k)
    (kk : W p l e R s m args below meth c H locs cells slots Q (F0 m (pc + 2) ls (.int (nI k) :: rest))) : W p l e R s m args below meth c H locs cells slots Q (F0 m pc ls rest) :=
  lv_ldc hC.1 hC.2.1 hC.2.2.2.1 (hC.2.2.2.2.1 _ hw) hdg (by rw [hv]; exact kk)
theorem nI_if_min {a b : Nat} (ha : a < 2147483648) (hb : b < 2147483648) : (if nI b < nI a then nI b else nI a) = nI (min a b) := by
  by_cases h : b < a
  · rw [if_pos ((nI_ltI (by omega) (by omega)).mpr h), Nat.min_eq_right (by omega)]
  · rw [if_neg (fun q => h ((nI_ltI (by omega) (by omega)).mp q)), Nat.min_eq_left (by omega)]
theorem nI_if_max {a b : Nat} (ha : a < 2147483648) (hb : b < 2147483648) : (if nI a < nI b then nI b else nI a) = nI (max a b) := by
  by_cases h : a < b
  · rw [if_pos ((nI_ltI (by omega) (by omega)).mpr h), Nat.max_eq_right (by omega)]
  · rw [if_neg (fun q => h ((nI_ltI (by omega) (by omega)).mp q)), Nat.max_eq_left (by omega)]
theorem j_min (hC : jC p s m args meth c cc own Ts nL ret nm) (hsz : ls.size = nL) {index a b : Nat} (hlink : Cond.methodLink own index Lib.Math.min.name ∈ Ts) (hstat : Cond.static Lib.Math.min.name ∈ Ts) (hini : Cond.initialized "java/lang/Math" ∈ Ts) (hcode : Cond.code Lib.Math.min.name Lib.Math.min.code 2 (some .int) ∈ Ts)
    (hframes : 1 ≤ R.frames) (hlocals : (rest.map fun v => v.category).sum + 13 ≤ R.locals) (hc : cells ≤ R.cells) (hs : slots ≤ R.slots) (ha : a < 2147483648) (hb : b < 2147483648) (hdg : decode cc pc = .ok (.invokestatic index, 3))
    (kk : W p l e R s m args below meth c H locs cells slots Q (F0 m (pc + 3) ls (.int (nI (min a b)) :: rest))) : W p l e R s m args below meth c H locs cells slots Q (F0 m pc ls (.int (nI b) :: .int (nI a) :: rest)) :=
  va_mmin hC.1 hC.2.1 (by rw [hC.2.2.1, hsz]) hC.2.2.2.1 (hC.2.2.2.2.1 _ hlink) (hC.2.2.2.2.1 _ hstat) (hC.2.2.2.2.1 _ hini) (hC.2.2.2.2.1 _ hcode) hframes hlocals hc hs hdg (by rw [nI_if_min ha hb]; exact kk)
theorem j_max (hC : jC p s m args meth c cc own Ts nL ret nm) (hsz : ls.size = nL) {index a b : Nat} (hlink : Cond.methodLink own index Lib.Math.max.name ∈ Ts) (hstat : Cond.static Lib.Math.max.name ∈ Ts) (hini : Cond.initialized "java/lang/Math" ∈ Ts) (hcode : Cond.code Lib.Math.max.name Lib.Math.max.code 2 (some .int) ∈ Ts)
    (hframes : 1 ≤ R.frames) (hlocals : (rest.map fun v => v.category).sum + 13 ≤ R.locals) (hc : cells ≤ R.cells) (hs : slots ≤ R.slots) (ha : a < 2147483648) (hb : b < 2147483648) (hdg : decode cc pc = .ok (.invokestatic index, 3))
    (kk : W p l e R s m args below meth c H locs cells slots Q (F0 m (pc + 3) ls (.int (nI (max a b)) :: rest))) : W p l e R s m args below meth c H locs cells slots Q (F0 m pc ls (.int (nI b) :: .int (nI a) :: rest)) :=
  va_mmax hC.1 hC.2.1 (by rw [hC.2.2.1, hsz]) hC.2.2.2.1 (hC.2.2.2.2.1 _ hlink) (hC.2.2.2.2.1 _ hstat) (hC.2.2.2.2.1 _ hini) (hC.2.2.2.2.1 _ hcode) hframes hlocals hc hs hdg (by rw [nI_if_max ha hb]; exact kk)
/-- the first n places from another row -/
def cpy (f g : Nat → Nat) (n : Nat) : Nat → Nat := fun j => if j < n then f j else g j
theorem nr_cpy (f g : Nat → Nat) (n : Nat) : va_cpy (nr f) (nr g) 0 0 n = nr (cpy f g n) := by
  funext j
  by_cases h : j < n
  · rw [pk_cpy_in (Nat.zero_le _) (by omega)]; simp [nr, cpy, h]
  · rw [pk_cpy_out (Or.inr (by omega))]; simp [nr, cpy, h]
theorem j_copy0 (hC : jC p s m args meth c cc own Ts nL ret nm) (hsz : ls.size = nL) {index : Nat} (hlink : Cond.methodLink own index arraycopyName ∈ Ts) (hnat : Cond.native arraycopyName ∈ Ts) (hstat : Cond.static arraycopyName ∈ Ts) (hini : Cond.initialized "java/lang/System" ∈ Ts) (hI : jI G A s ws H locs) (q0 q1 : Nat) {a0 a1 n0 n1 n : Nat} {f g : Nat → Nat} (h0 : ws[q0]? = some (aI G a0 n0 f)) (h1 : ws[q1]? = some (aI G a1 n1 g)) (hn0 : n ≤ n0) (hn1 : n ≤ n1) (hn : n < 2147483648)
    (hframes : 1 ≤ R.frames) (hlocals : (rest.map fun v => v.category).sum + (nativeFrameWords "java/lang/System" "arraycopy" 5 + 11) ≤ R.locals) (hdg : decode cc pc = .ok (.invokestatic index, 3)) {w1 : va_W} (hw : ws.set q1 (aI G a1 n1 (cpy f g n)) = w1)
    (kk : ∀ (H1 : Heap) (locs1 : List Loc), jI G A s w1 H1 locs1 → W p l e R s m args below meth c H1 locs1 cells slots Q (F0 m (pc + 3) ls rest)) : W p l e R s m args below meth c H locs cells slots Q (F0 m pc ls (.int (nI n) :: .int (nI 0) :: .ref a1 :: .int (nI 0) :: .ref a0 :: rest)) := by
  subst hw
  obtain ⟨hK, hP, hD, hS, hA, hN⟩ := hI
  refine va_copyi hC.1 hC.2.1 (by rw [hC.2.2.1, hsz]) hC.2.2.2.1 (hC.2.2.2.2.1 _ hlink) (hC.2.2.2.2.1 _ hnat) (hC.2.2.2.2.1 _ hstat) (hC.2.2.2.2.1 _ hini) hK hP hD hS q0 q1 0 0 h0 h1 rfl rfl rfl (by decide) (by decide) (nI_lt0 hn) (by rw [nI_clamp (n := n) (by omega)]; show 0 + n ≤ n0; omega) (by rw [nI_clamp (n := n) (by omega)]; show 0 + n ≤ n1; omega) (fun _ _ => rfl) hframes hlocals hdg (fun H1 locs1 hP hD hS => ?_)
  rw [show (nI 0).toNatClampNeg = 0 from rfl, nI_clamp (n := n) (by omega), nr_cpy] at hP hD
  exact kk H1 locs1 ⟨hK, hP, hD, hS, hA, hN⟩
theorem j_newaI (hC : jC p s m args meth c cc own Ts nL ret nm) (hI : jI G A s ws H locs) (harr : Cond.arrayClass .int ∈ Ts) {n : Nat} (hn : n ≤ 1000000) (hcells : cells + 1 ≤ R.cells) (hslots : slots + n ≤ R.slots) (hdg : decode cc pc = .ok (.newarray .int, 2)) {w1 : Nat → va_W} (hw : ∀ q, ws ++ [aI G q n (fun _ => 0)] = w1 q)
    (kk : ∀ (q : Nat) (H1 : Heap), jI G A s (w1 q) H1 locs → W p l e R s m args below meth c H1 locs (cells + 1) (slots + n) Q (F0 m (pc + 2) ls (.ref q :: rest))) : W p l e R s m args below meth c H locs cells slots Q (F0 m pc ls (.int (nI n) :: rest)) := by
  obtain ⟨hK, hP, hD, hS, hA, hN⟩ := hI
  refine va_newa (atype := .int) (ty := .int) (a0 := (n, .inl (nr fun _ => 0))) (N' := n) hC.1 hC.2.1 (hC.2.2.2.2.1 _ harr) rfl hK hP hD hS hA (fun cA => rfl) (nI_lt0 (by omega)) (nI_clamp (by omega)) (by show n * _ ≤ _; simp [componentBytes]; omega) hcells hslots hdg (fun q cA H1 hK1 hP1 hD1 hS1 => ?_)
  have e1 : s.vm.findClass ("[" ++ FieldType.toString .int) = some cA := (hK1.2 3 _ rfl).2
  have e2 : s.vm.findClass ("[" ++ FieldType.toString .int) = some G.2.1 := (hK.2 0 _ rfl).2
  have e3 : cA = G.2.1 := Option.some.inj (e1.symm.trans e2)
  subst e3
  exact kk q H1 (hw q ▸ ⟨hK, hP1, hD1, hS1, hA, hN⟩)
theorem j_newaS (hC : jC p s m args meth c cc own Ts nL ret nm) (hI : jI G A s ws H locs) (harr : Cond.arrayClass .short ∈ Ts) {n : Nat} (hn : n ≤ 1000000) (hcells : cells + 1 ≤ R.cells) (hslots : slots + n ≤ R.slots) (hdg : decode cc pc = .ok (.newarray .short, 2)) {w1 : Nat → va_W} (hw : ∀ q, ws ++ [aS G q n (fun _ => 0)] = w1 q)
    (kk : ∀ (q : Nat) (H1 : Heap), jI G A s (w1 q) H1 locs → W p l e R s m args below meth c H1 locs (cells + 1) (slots + n) Q (F0 m (pc + 2) ls (.ref q :: rest))) : W p l e R s m args below meth c H locs cells slots Q (F0 m pc ls (.int (nI n) :: rest)) := by
  obtain ⟨hK, hP, hD, hS, hA, hN⟩ := hI
  refine va_newa (atype := .short) (ty := .short) (a0 := (n, .inl (nr fun _ => 0))) (N' := n) hC.1 hC.2.1 (hC.2.2.2.2.1 _ harr) rfl hK hP hD hS hA (fun cA => rfl) (nI_lt0 (by omega)) (nI_clamp (by omega)) (by show n * _ ≤ _; simp [componentBytes]; omega) hcells hslots hdg (fun q cA H1 hK1 hP1 hD1 hS1 => ?_)
  have e1 : s.vm.findClass ("[" ++ FieldType.toString .short) = some cA := (hK1.2 3 _ rfl).2
  have e2 : s.vm.findClass ("[" ++ FieldType.toString .short) = some G.2.2.1 := (hK.2 1 _ rfl).2
  have e3 : cA = G.2.2.1 := Option.some.inj (e1.symm.trans e2)
  subst e3
  exact kk q H1 (hw q ▸ ⟨hK, hP1, hD1, hS1, hA, hN⟩)
theorem j_newaZ (hC : jC p s m args meth c cc own Ts nL ret nm) (hI : jI G A s ws H locs) (harr : Cond.arrayClass .boolean ∈ Ts) {n : Nat} (hn : n ≤ 1000000) (hcells : cells + 1 ≤ R.cells) (hslots : slots + n ≤ R.slots) (hdg : decode cc pc = .ok (.newarray .boolean, 2)) {w1 : Nat → va_W} (hw : ∀ q, ws ++ [aZ G q n (fun _ => 0)] = w1 q)
    (kk : ∀ (q : Nat) (H1 : Heap), jI G A s (w1 q) H1 locs → W p l e R s m args below meth c H1 locs (cells + 1) (slots + n) Q (F0 m (pc + 2) ls (.ref q :: rest))) : W p l e R s m args below meth c H locs cells slots Q (F0 m pc ls (.int (nI n) :: rest)) := by
  obtain ⟨hK, hP, hD, hS, hA, hN⟩ := hI
  refine va_newa (atype := .boolean) (ty := .boolean) (a0 := (n, .inl (nr fun _ => 0))) (N' := n) hC.1 hC.2.1 (hC.2.2.2.2.1 _ harr) rfl hK hP hD hS hA (fun cA => rfl) (nI_lt0 (by omega)) (nI_clamp (by omega)) (by show n * _ ≤ _; simp [componentBytes]; omega) hcells hslots hdg (fun q cA H1 hK1 hP1 hD1 hS1 => ?_)
  have e1 : s.vm.findClass ("[" ++ FieldType.toString .boolean) = some cA := (hK1.2 3 _ rfl).2
  have e2 : s.vm.findClass ("[" ++ FieldType.toString .boolean) = some G.2.2.2 := (hK.2 2 _ rfl).2
  have e3 : cA = G.2.2.2 := Option.some.inj (e1.symm.trans e2)
  subst e3
  exact kk q H1 (hw q ▸ ⟨hK, hP1, hD1, hS1, hA, hN⟩)
theorem j_new (hC : jC p s m args meth c cc own Ts nL ret nm) (hI : jI G A s ws H locs) {C : String} {T : u_T} {N ci index : Nat} (hin : ∀ w ∈ u_ws C T N, w ∈ Ts) (ty : Nat → FieldType) (hty : ∀ k, k < N → parseFieldDescriptor (T k).2.2.1 = some (ty k)) (hcl : Cond.classLink own index C ∈ Ts) (hinst : Cond.instantiable C N ∈ Ts) (hini : Cond.initialized C ∈ Ts) (hc : vwCl[ci]? = some (C, T, N)) {fs : List Value} (hfs : ∀ j, j < N → defaultValue (ty j) = vp_V fs j) (hcells : cells + 1 ≤ R.cells) (hslots : slots + N ≤ R.slots) (hdg : decode cc pc = .ok (.new index, 3)) {w1 : Nat → va_W} (hw : ∀ q, ws ++ [oC q ci fs] = w1 q)
    (kk : ∀ (q : Nat) (H1 : Heap), jI G A s (w1 q) H1 locs → W p l e R s m args below meth c H1 locs (cells + 1) (slots + N) Q (F0 m (pc + 3) ls (.ref q :: rest))) : W p l e R s m args below meth c H locs cells slots Q (F0 m pc ls rest) := by
  obtain ⟨hK, hP, hD, hS, hA, hN⟩ := hI
  exact va_new hC.1 hC.2.1 hC.2.2.2.2.1 hin ty hty hC.2.2.2.1 (hC.2.2.2.2.1 _ hcl) (hC.2.2.2.2.1 _ hinst) (hC.2.2.2.2.1 _ hini) hK hP hD hS hA hc hfs hcells hslots hdg (fun q H1 hP1 hD1 hS1 => kk q H1 (hw q ▸ ⟨hK, hP1, hD1, hS1, hA, hN⟩))
/-! arrays of short and boolean -/
theorem j_sald (hC : jC p s m args meth c cc own Ts nL ret nm) (hI : jI G A s ws H locs) (q0 : Nat) {a n i : Nat} {g : Nat → Nat} (ha : ws[q0]? = some (aS G a n g)) (hi : i < n) (hn : n < 2147483648) (hdg : decode cc pc = .ok (.saload, 1))
    (kk : W p l e R s m args below meth c H locs cells slots Q (F0 m (pc + 1) ls (.int (nI (g i)) :: rest))) : W p l e R s m args below meth c H locs cells slots Q (F0 m pc ls (.int (nI i) :: .ref a :: rest)) := by
  refine va_sald hC.1 hC.2.1 hI.1 hI.2.1 q0 1 ha rfl (vp_in_nI hi (by omega)) hdg ?_
  rw [nI_clamp (by omega)]
  exact kk
theorem j_zald (hC : jC p s m args meth c cc own Ts nL ret nm) (hI : jI G A s ws H locs) (q0 : Nat) {a n i : Nat} {g : Nat → Nat} (ha : ws[q0]? = some (aZ G a n g)) (hi : i < n) (hn : n < 2147483648) (hdg : decode cc pc = .ok (.baload, 1))
    (kk : W p l e R s m args below meth c H locs cells slots Q (F0 m (pc + 1) ls (.int (nI (g i)) :: rest))) : W p l e R s m args below meth c H locs cells slots Q (F0 m pc ls (.int (nI i) :: .ref a :: rest)) := by
  refine va_zald hC.1 hC.2.1 hI.1 hI.2.1 q0 2 ha rfl (vp_in_nI hi (by omega)) hdg ?_
  rw [nI_clamp (by omega)]
  exact kk
/-! switches over any number -/
theorem j_sw (n : Nat) (hn : n < 2147483648) (x : Int32) : (∃ k, k < n ∧ x = nI k) ∨ (x.toInt < 0 ∨ (n : Int) - 1 < x.toInt) := by
  rcases pk_ix x (n := n) (by omega) with h | h | ⟨j, h1, h2⟩
  · exact Or.inr (Or.inl (by have := Int32.lt_iff_toInt_lt.mp h; simpa using this))
  · refine Or.inr (Or.inr ?_)
    have := Int32.le_iff_toInt_le.mp h
    rw [nI_toInt (by omega)] at this
    omega
  · exact Or.inl ⟨j, h1, h2⟩
theorem j_tabOut (hC : jC p s m args meth c cc own Ts nL ret nm) {dflt hi : Int} {offs : Array Int} {len n : Nat} {x : Int32} {tgt : Nat} (hdg : decode cc pc = .ok (.tableswitch dflt 0 hi offs, len)) (hh : (n : Int) - 1 = hi) (h : x.toInt < 0 ∨ (n : Int) - 1 < x.toInt) (ht : (pc : Int) + dflt = (tgt : Int))
    (kk : W p l e R s m args below meth c H locs cells slots Q (F0 m tgt ls rest)) : W p l e R s m args below meth c H locs cells slots Q (F0 m pc ls (.int x :: rest)) := lv_tableOut hC.1 hC.2.1 hdg (by rw [← hh]; exact h) ht kk
theorem j_tabIn (hC : jC p s m args meth c cc own Ts nL ret nm) {dflt hi : Int} {offs : Array Int} {len : Nat} {off : Int} {tgt : Nat} (hdg : decode cc pc = .ok (.tableswitch dflt 0 hi offs, len)) (k : Nat) (hk : k < 2147483648) (hh : (k : Int) ≤ hi) (ho : offs[k]? = some off) (ht : (pc : Int) + off = (tgt : Int))
    (kk : W p l e R s m args below meth c H locs cells slots Q (F0 m tgt ls rest)) : W p l e R s m args below meth c H locs cells slots Q (F0 m pc ls (.int (nI k) :: rest)) := by
  have e : (nI k).toInt = (k : Int) := nI_toInt (by omega)
  exact lv_tableIn hC.1 hC.2.1 hdg (by rw [e]; omega) (by rw [e]; omega) (by rw [e, Int.sub_zero, Int.toNat_natCast]; exact ho) ht kk
theorem j_callVq {S : Type} {post : Option Nat → S → Prop} {ra : S → Nat}  {w1 : S → va_W} {wc wr : va_W} {C : String} {T : u_T} {N ci q0 b index maxL n mc ms : Nat} {fs As st0 : List Value} {y : MethodName} {bytes : ByteArray} {rt : Option FieldType} {wsy : List Cond} {rm : Room} (hC : jC p s m args meth c cc own Ts nL ret nm) (hI : jI G A s ws H locs) (hM : jMet l y wsy rm G wc (.ref b :: As) (jQq G post w1) mc ms) (cw : CallW R s args own C index y bytes maxL rt wsy rm mc ms n)
    (hret : ∀ r u, post r u → r = some (ra u)) (isC isR : List Nat) (hc : isC.map (fun i => ws[i]?) = wc.map some) (hr : isR.map (fun i => ws[i]?) = wr.map some) (hnc : va_nd isC = true) (hnr : va_nd isR = true) (hdis : isR.all (fun i => !isC.contains i) = true) (hcl : vwCl[ci]? = some (C, T, N)) (hq : wc[q0]? = some (b, .inr (ci, fs)))
    (hst : st0 = As.reverse ++ .ref b :: rest) (hn : As.length = n) (hsize : ls.size = nL) (hW : (rest.map fun v => v.category).sum ≤ 8) (hdg : decode cc pc = .ok (.invokevirtual index, 3)) (hf : cells + mc ≤ R.cells ∧ slots + ms ≤ R.slots)
    (kk : ∀ (u : S) (H1 : Heap) (locs1 : List Loc), post (some (ra u)) u → jI G A s (wr ++ w1 u) H1 locs1 → W p l e R s m args below meth c H1 locs1 (cells + mc) (slots + ms) Q (F0 m (pc + 3) ls (.ref (ra u) :: rest))) : W p l e R s m args below meth c H locs cells slots Q (F0 m pc ls st0) := by
  have hFc := va_free (wc := wc) hI.2.2.1 hI.2.2.2.1 hI.2.2.2.2.1 isC hc
  exact va_callq (va_runV (As := As) (rest := rest) hC.fix (hM H.size) cw (j_preV hI isC hc hnc hcl hq) rfl hn hsize hst (lv_room hW) hdg hf) hI.2.2.2.1 (fun q _ h => hFc q h) hFc (fun r u t H1 locs1 ht hvm hw hB hz1 hk1 hS => by
    have er := hret r u hw
    subst er
    exact kk u H1 locs1 hw (j_back hI isC isR hc hr hnr hdis ht hB hk1 hS))
theorem j_callVqN {S : Type} {post : Option Nat → S → Prop}  {w1 : S → va_W} {wc wr : va_W} {C : String} {T : u_T} {N ci q0 b index maxL n mc ms : Nat} {fs As st0 : List Value} {y : MethodName} {bytes : ByteArray} {rt : Option FieldType} {wsy : List Cond} {rm : Room} (hC : jC p s m args meth c cc own Ts nL ret nm) (hI : jI G A s ws H locs) (hM : jMet l y wsy rm G wc (.ref b :: As) (jQq G post w1) mc ms) (cw : CallW R s args own C index y bytes maxL rt wsy rm mc ms n)
    (hret : ∀ r u, post r u → r = none) (isC isR : List Nat) (hc : isC.map (fun i => ws[i]?) = wc.map some) (hr : isR.map (fun i => ws[i]?) = wr.map some) (hnc : va_nd isC = true) (hnr : va_nd isR = true) (hdis : isR.all (fun i => !isC.contains i) = true) (hcl : vwCl[ci]? = some (C, T, N)) (hq : wc[q0]? = some (b, .inr (ci, fs)))
    (hst : st0 = As.reverse ++ .ref b :: rest) (hn : As.length = n) (hsize : ls.size = nL) (hW : (rest.map fun v => v.category).sum ≤ 8) (hdg : decode cc pc = .ok (.invokevirtual index, 3)) (hf : cells + mc ≤ R.cells ∧ slots + ms ≤ R.slots)
    (kk : ∀ (u : S) (H1 : Heap) (locs1 : List Loc), post none u → jI G A s (wr ++ w1 u) H1 locs1 → W p l e R s m args below meth c H1 locs1 (cells + mc) (slots + ms) Q (F0 m (pc + 3) ls (.null :: rest))) : W p l e R s m args below meth c H locs cells slots Q (F0 m pc ls st0) := by
  have hFc := va_free (wc := wc) hI.2.2.1 hI.2.2.2.1 hI.2.2.2.2.1 isC hc
  exact va_callq (va_runV (As := As) (rest := rest) hC.fix (hM H.size) cw (j_preV hI isC hc hnc hcl hq) rfl hn hsize hst (lv_room hW) hdg hf) hI.2.2.2.1 (fun q _ h => hFc q h) hFc (fun r u t H1 locs1 ht hvm hw hB hz1 hk1 hS => by
    have er := hret r u hw
    subst er
    exact kk u H1 locs1 hw (j_back hI isC isR hc hr hnr hdis ht hB hk1 hS))
theorem j_callSq {S : Type} {post : Option Nat → S → Prop} {ra : S → Nat}  {w1 : S → va_W} {wc wr : va_W} {index maxL n mc ms : Nat} {As st0 : List Value} {y : MethodName} {bytes : ByteArray} {rt : Option FieldType} {wsy : List Cond} {rm : Room} (hC : jC p s m args meth c cc own Ts nL ret nm) (hI : jI G A s ws H locs) (hM : jMet l y wsy rm G wc As (jQq G post w1) mc ms) (cw : CallB R s args own index y bytes maxL rt wsy rm mc ms n ∧ (Cond.static y).before args s = true)
    (hret : ∀ r u, post r u → r = some (ra u)) (isC isR : List Nat) (hc : isC.map (fun i => ws[i]?) = wc.map some) (hr : isR.map (fun i => ws[i]?) = wr.map some) (hnc : va_nd isC = true) (hnr : va_nd isR = true) (hdis : isR.all (fun i => !isC.contains i) = true)
    (hst : st0 = As.reverse ++ rest) (hn : As.length = n) (hsize : ls.size = nL) (hW : (rest.map fun v => v.category).sum ≤ 8) (hdg : decode cc pc = .ok (.invokestatic index, 3)) (hf : cells + mc ≤ R.cells ∧ slots + ms ≤ R.slots)
    (kk : ∀ (u : S) (H1 : Heap) (locs1 : List Loc), post (some (ra u)) u → jI G A s (wr ++ w1 u) H1 locs1 → W p l e R s m args below meth c H1 locs1 (cells + mc) (slots + ms) Q (F0 m (pc + 3) ls (.ref (ra u) :: rest))) : W p l e R s m args below meth c H locs cells slots Q (F0 m pc ls st0) := by
  have hFc := va_free (wc := wc) hI.2.2.1 hI.2.2.2.1 hI.2.2.2.2.1 isC hc
  exact va_callq (va_runS (As := As) (rest := rest) hC.fix (hM H.size) cw (j_preS hI isC hc hnc) rfl hn hsize hst (lv_room hW) hdg hf) hI.2.2.2.1 (fun q _ h => hFc q h) hFc (fun r u t H1 locs1 ht hvm hw hB hz1 hk1 hS => by
    have er := hret r u hw
    subst er
    exact kk u H1 locs1 hw (j_back hI isC isR hc hr hnr hdis ht hB hk1 hS))
theorem j_and255N (hC : jC p s m args meth c cc own Ts nL ret nm) {a : Nat} (ha : a < 256) (hdg : decode cc pc = .ok (.iand, 1))
    (kk : W p l e R s m args below meth c H locs cells slots Q (F0 m (pc + 1) ls (.int (nI a) :: rest))) : W p l e R s m args below meth c H locs cells slots Q (F0 m pc ls (.int (nI 255) :: .int (nI a) :: rest)) :=
  j_and255 hC hdg (by rw [by8_nI (by omega), Nat.mod_eq_of_lt ha]; exact kk)
theorem j_ishl1 (hC : jC p s m args meth c cc own Ts nL ret nm) {b : Nat} (hb : b < 31) (hdg : decode cc pc = .ok (.ishl, 1))
    (kk : W p l e R s m args below meth c H locs cells slots Q (F0 m (pc + 1) ls (.int (nI (2 ^ b)) :: rest))) : W p l e R s m args below meth c H locs cells slots Q (F0 m pc ls (.int (nI b) :: .int (nI 1) :: rest)) :=
  j_ishl hC (by omega) (by have := Nat.pow_lt_pow_right (a := 2) (by decide) hb; omega) hdg (by rw [Nat.one_mul]; exact kk)
end JR
