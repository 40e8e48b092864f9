/-! MINI-KIT: a judgement V over an abstract heap (a function from addresses to cells): one row an instruction, no world to cut. -/
abbrev AH : Type := Nat → Option va_E
abbrev Om : Type := va_G × (Nat → ClassId) × Nat
def xk_tys (o : Om) : List (ClassId × FieldType) := [(o.2.1 0, .int), (o.2.1 1, .long), (o.2.1 2, .object "DeltaViews$Rows"), (o.2.1 3, .object "DeltaViews$Rule")]
def Hp (o : Om) (h : AH) (H : Heap) : Prop := ∃ ws : va_W, va_P o.1 vwCl ws H ∧ va_D (fun q : Nat => o.2.2 ≤ q) ws ∧ ∀ (a : Nat) (x : va_E), h a = some x → ∃ k : Nat, ws[k]? = some (a, x)
def hu (h : AH) (a : Nat) (x : va_E) : AH := fun q => if q = a then some x else h q
theorem hu_eq (h : AH) (a : Nat) (x : va_E) : hu h a x a = some x := by simp [hu]
theorem hu_ne (h : AH) {a q : Nat} (x : va_E) (hq : q ≠ a) : hu h a x q = h q := by simp [hu, hq]
theorem hu_hu (h : AH) (a : Nat) (x y : va_E) : hu (hu h a x) a y = hu h a y := by
  funext q; simp only [hu]; split <;> rfl
theorem hu_comm (h : AH) {a b : Nat} (x y : va_E) (hq : a ≠ b) : hu (hu h a x) b y = hu (hu h b y) a x := by
  funext q; simp only [hu]
  by_cases h1 : q = a
  · subst h1; simp [hq]
  · by_cases h2 : q = b
    · subst h2; simp [Ne.symm hq]
    · simp [h1, h2]
theorem hu_self {h : AH} {a : Nat} {x : va_E} (e : h a = some x) : hu h a x = h := by
  funext q; simp only [hu]; split
  · next hq => rw [hq, e]
  · rfl
theorem Hp.lt {o : Om} {h : AH} {H : Heap} (hp : Hp o h H) {a : Nat} {x : va_E} (e : h a = some x) : a < H.size := by
  obtain ⟨ws, hP, -, hh⟩ := hp
  obtain ⟨k, hk⟩ := hh a x e
  exact (hP k _ hk).lt
theorem Hp.set {o : Om} {h : AH} {ws : va_W} {k a : Nat} {x0 x : va_E} (hD : va_D (fun q : Nat => o.2.2 ≤ q) ws) (hk : ws[k]? = some (a, x0)) (hh : ∀ (b : Nat) (y : va_E), h b = some y → ∃ k : Nat, ws[k]? = some (b, y)) : ∀ (b : Nat) (y : va_E), hu h a x b = some y → ∃ j : Nat, (ws.set k (a, x))[j]? = some (b, y) := by
  intro b y hb
  have hl := (List.getElem?_eq_some_iff.mp hk).1
  by_cases hq : b = a
  · subst hq
    rw [hu_eq] at hb
    cases hb
    exact ⟨k, List.getElem?_set_self hl⟩
  · rw [hu_ne h x hq] at hb
    obtain ⟨j, hj⟩ := hh b y hb
    refine ⟨j, ?_⟩
    rw [List.getElem?_set_ne (fun z => hq ?_)]
    · exact hj
    · subst z
      rw [hk] at hj
      exact (congrArg Prod.fst (Option.some.inj hj)).symm
theorem Hp.push {h : AH} {ws : va_W} {a : Nat} {x : va_E} (hh : ∀ (b : Nat) (y : va_E), h b = some y → ∃ k : Nat, ws[k]? = some (b, y)) : ∀ (b : Nat) (y : va_E), hu h a x b = some y → ∃ j : Nat, (ws ++ [(a, x)])[j]? = some (b, y) := by
  intro b y hb
  by_cases hq : b = a
  · subst hq
    rw [hu_eq] at hb
    cases hb
    exact ⟨ws.length, by simp⟩
  · rw [hu_ne h x hq] at hb
    obtain ⟨j, hj⟩ := hh b y hb
    exact ⟨j, by rw [List.getElem?_append_left (List.getElem?_eq_some_iff.mp hj).1]; exact hj⟩
theorem Hp.fresh {o : Om} {h : AH} {ws : va_W} {a : Nat} {x : va_E} (hD : va_D (fun q : Nat => o.2.2 ≤ q) (ws ++ [(a, x)])) (hh : ∀ (b : Nat) (y : va_E), h b = some y → ∃ k : Nat, ws[k]? = some (b, y)) : h a = none := by
  cases hc : h a with
  | none => rfl
  | some y =>
    exfalso
    obtain ⟨k, hk⟩ := hh a y hc
    have hl := (List.getElem?_eq_some_iff.mp hk).1
    have h1 : (ws ++ [(a, x)])[k]? = some (a, y) := by rw [List.getElem?_append_left hl]; exact hk
    have h2 : (ws ++ [(a, x)])[ws.length]? = some (a, x) := by simp
    have := hD.1 k ws.length _ _ h1 h2 rfl
    omega
/-- words that don't keep as they stand: arrays of references, private constructors of nest mates, the interface's calls -/
def XN (U : State) : Prop := va_AO "DeltaViews$Rows" U ∧ va_AO "DeltaViews$Rule" U ∧ (∀ q ∈ nestL, va_Nw (.methodLinkNest "DeltaViews" q.1 q.2 "DeltaViews") U) ∧ (∀ q ∈ faceL, va_Fw q.1 yRU_fill q.2 U)
theorem XN.moved {s U : State} (hW : s.WarmedH U.vm) (h : XN s) : XN U := ⟨va_AO.moved hW.alike h.1, va_AO.moved hW.alike h.2.1, fun q hq => va_Nw.warmM hW (h.2.2.1 q hq), fun q hq => va_Fw.moved (by decide +kernel) hW.alike (h.2.2.2 q hq)⟩
abbrev Kx := Program × Launch × Env × Room × State × MethodId × Array Value × List Frame × Method × Code × Nat × Om
abbrev Kp (K : Kx) : Program := K.1
abbrev Kl (K : Kx) : Launch := K.2.1
abbrev Ke (K : Kx) : Env := K.2.2.1
abbrev KR (K : Kx) : Room := K.2.2.2.1
abbrev Ks (K : Kx) : State := K.2.2.2.2.1
abbrev Km (K : Kx) : MethodId := K.2.2.2.2.2.1
abbrev Ka (K : Kx) : Array Value := K.2.2.2.2.2.2.1
abbrev Kb (K : Kx) : List Frame := K.2.2.2.2.2.2.2.1
abbrev Kme (K : Kx) : Method := K.2.2.2.2.2.2.2.2.1
abbrev Kc (K : Kx) : Code := K.2.2.2.2.2.2.2.2.2.1
abbrev Kn (K : Kx) : Nat := K.2.2.2.2.2.2.2.2.2.2.1
abbrev Ko (K : Kx) : Om := K.2.2.2.2.2.2.2.2.2.2.2
abbrev fr (o : Om) : Nat → Prop := fun q => o.2.2 ≤ q
def V (K : Kx) (h : AH) (cells slots : Nat) (Q : State → Prop) (pc : Nat) (ls : List (Nat × Value)) (st : List Value) : Prop :=
  ∀ (H : Heap) (locs : List Loc) (la : Array Slot), Hp (Ko K) h H → va_S (fr (Ko K)) (Ks K).heap H locs → lv_has la (Kn K) ls →
    W (Kp K) (Kl K) (Ke K) (KR K) (Ks K) (Km K) (Ka K) (Kb K) (Kme K) (Kc K) H locs cells slots Q (F0 (Km K) pc la st)
def Cx (K : Kx) (cc : ByteArray) (nL : Nat) (own : String) (rm : Room) (ret : Option FieldType) (nm : String) : Prop :=
  CallFix (Kp K) (Km K) (Kc K) cc (Kn K) (Ks K) (Ka K) tblG own ∧ va_K (Ko K).1 vwCl (xk_tys (Ko K)) (Ks K) ∧ (Ko K).2.2 ≤ (Ks K).heap.size ∧ KR K = rm ∧ (Kme K).sig.returnType = ret ∧ (Kme K).locks = false ∧ (Kme K).name = nm ∧ Kn K = nL ∧ XN (Ks K)
/-- a local by its number -/
def lk : List (Nat × Value) → Nat → Option Value
  | [], _ => none
  | q :: r, i => match Nat.beq q.1 i with
    | true => some q.2
    | false => lk r i
theorem lk_mem : ∀ {ls : List (Nat × Value)} {i : Nat} {v : Value}, lk ls i = some v → (i, v) ∈ ls
  | [], i, v, h => by simp [lk] at h
  | q :: r, i, v, h => by
    unfold lk at h
    cases hq : Nat.beq q.1 i with
    | true =>
      rw [hq] at h
      have e : q.1 = i := Nat.eq_of_beq_eq_true hq
      have e2 : q.2 = v := Option.some.inj h
      rw [← e, ← e2]
      exact List.mem_cons_self
    | false =>
      rw [hq] at h
      exact List.mem_cons_of_mem _ (lk_mem h)
abbrev s1 (i : Nat) (v : Value) (ls : List (Nat × Value)) : List (Nat × Value) := (i, v) :: ls.filter (fun q => !(q.1 == i) && !(q.1 + 1 == i && q.2.category == 2))
abbrev s2 (i : Nat) (v : Value) (ls : List (Nat × Value)) : List (Nat × Value) := (i, v) :: ls.filter (fun q => !(q.1 == i) && (!(q.1 == i + 1) && !(q.1 + 1 == i && q.2.category == 2)))
def PB (o : Om) (h : AH) (U : State) : Prop := Hp o h U.heap ∧ va_K o.1 vwCl (xk_tys o) U ∧ o.2.2 ≤ U.heap.size ∧ XN U
def HB (o : Om) (h : AH) (t : State) : Prop := Hp o h t.heap
def HBr (o : Om) (u : AH × Nat) (a : Nat) (t : State) : Prop := u.2 = a ∧ Hp o u.1 t.heap
abbrev EndQ (K : Kx) (Qc : Array Value → State → Outcome → State → Prop) (mc ms : Nat) : State → Prop := MQ (Kb K) Qc (Ka K) (Ks K) mc ms (fr (Ko K))
abbrev QI (o : Om) (post : Int32 → AH → Prop) : Array Value → State → Outcome → State → Prop := va_Qi post (HB o) (fr o)
abbrev QL (o : Om) (post : Int64 → AH → Prop) : Array Value → State → Outcome → State → Prop := va_Ql post (HB o) (fr o)
abbrev QD (o : Om) (post : UInt64 → AH → Prop) : Array Value → State → Outcome → State → Prop := va_Qd post (HB o) (fr o)
abbrev QV (o : Om) (post : AH → Prop) : Array Value → State → Outcome → State → Prop := va_Qv post (HB o) (fr o)
abbrev QR (o : Om) (post : AH × Nat → Prop) : Array Value → State → Outcome → State → Prop := va_Qr post (HBr o) (fr o)
/-- a method's contract: from args avs and abstract heap h -/
abbrev Mt (l : Launch) (o : Om) (y : MethodName) (cc : ByteArray) (nL : Nat) (ret : Option FieldType) (rm : Room) (avs : List Value) (h : AH) (Qc : Array Value → State → Outcome → State → Prop) (mc ms : Nat) : Prop := Met l y (Cond.code y cc nL ret :: tblG) rm (va_Pc avs (PB o h)) Qc mc ms (fr o)
theorem Met.ofV {l : Launch} {o : Om} {y : MethodName} {rm : Room} {avs : List Value} {h : AH} {Qc : Array Value → State → Outcome → State → Prop} {mc ms : Nat} {cc : ByteArray} {nL : Nat} {ret : Option FieldType} (hy : plainName y.cls = true) (hsl : (lg_sl avs).length ≤ nL)
    (body : ∀ K : Kx, Kl K = l → Ko K = o → Cx K cc nL y.cls rm ret y.name → V K h 0 0 (EndQ K Qc mc ms) 0 (lv_args 0 avs) []) : Mt l o y cc nL ret rm avs h Qc mc ms := by
  refine Met.ofW (cc := cc) (maxL := nL) (ret := ret) hy rfl ?_
  intro p e s m args below meth c s₁ B hml hv
  obtain ⟨rfl, hp, hK, hb0, hxn⟩ := hv
  have hts := atoms_spec (ws := Cond.code y cc nL ret :: tblG) B.pre
  have hown : s.vm.findClass y.cls = some m.cls := findClass_of_methodNamed B.named
  have hin : meth.name = y.name := (name_of_methodNamed B.named B.method).1
  have hl := lv_entry avs (n := nL) hsl
  rw [lg_entry_eq]
  exact body (p, l, e, rm, s, m, avs.toArray, below, meth, c, nL, o) rfl rfl ⟨⟨B.exec, B.bytes, hml, hown, fun w hw => hts w (List.mem_cons_of_mem _ hw)⟩, hK, hb0, rfl, B.returns, B.notSynchronized, hin, rfl, hxn⟩ s.heap [] _ hp va_S.rf hl
theorem good_code {w0 : Cond} (h : w0 ∈ tblG) : ∀ w ∈ w0 :: tblG, w ∈ tblG := List.forall_mem_cons.mpr ⟨h, fun _ h => h⟩
theorem good_of {a : List Cond} (ha : ∀ w ∈ a, w ∈ tblG) : GoodIn tblG a := fun w h => ⟨ha w h, tgood w (ha w h)⟩
theorem mem4 {P : Cond → Prop} {a b c d : Cond} {l : List Cond} (ha : P a) (hb : P b) (hc : P c) (hd : P d) (hl : ∀ w ∈ l, P w) : ∀ w ∈ [a, b, c, d] ++ l, P w := List.forall_mem_cons.mpr ⟨ha, List.forall_mem_cons.mpr ⟨hb, List.forall_mem_cons.mpr ⟨hc, List.forall_mem_cons.mpr ⟨hd, hl⟩⟩⟩⟩
theorem mem3 {P : Cond → Prop} {a b c : Cond} {l : List Cond} (ha : P a) (hb : P b) (hc : P c) (hl : ∀ w ∈ l, P w) : ∀ w ∈ [a, b, c] ++ l, P w := List.forall_mem_cons.mpr ⟨ha, List.forall_mem_cons.mpr ⟨hb, List.forall_mem_cons.mpr ⟨hc, hl⟩⟩⟩
section XK
variable {K : Kx} {h : AH} {cells slots : Nat} {Q : State → Prop} {pc n : Nat} {ls : List (Nat × Value)} {st : List Value} {cc : ByteArray} {nL : Nat} {own nm : String} {rm : Room} {ret : Option FieldType}
theorem V.less {ls' : List (Nat × Value)} (hs : ∀ q ∈ ls', q ∈ ls) (k : V K h cells slots Q pc ls' st) : V K h cells slots Q pc ls st := fun H locs la hp hS hl => k H locs la hp hS ⟨hl.1, hl.2.1, fun q hq => hl.2.2 q (hs q hq)⟩
/-- fewer locals, by their numbers -/
theorem V.byk {ls' : List (Nat × Value)} (hs : ls'.map (fun q => lk ls q.1) = ls'.map (fun q => some q.2)) (k : V K h cells slots Q pc ls' st) : V K h cells slots Q pc ls st := by
  refine V.less (fun q hq => ?_) k
  have : lk ls q.1 = some q.2 := by
    have h2 := List.map_inj_left.mp hs q hq
    exact h2
  exact lk_mem this
theorem V.widen {k n : Nat} (h1 : cells ≤ k) (h2 : slots ≤ n) (kk : V K h k n Q pc ls st) : V K h cells slots Q pc ls st := fun H locs la hp hS hl => W.widen h1 h2 (kk H locs la hp hS hl)
theorem V.nami {x : Int32} (k : ∀ y : Int32, y = x → V K h cells slots Q pc ls (.int y :: st)) : V K h cells slots Q pc ls (.int x :: st) := k x rfl
theorem V.naml {x : Int64} (k : ∀ y : Int64, y = x → V K h cells slots Q pc ls (.long y :: st)) : V K h cells slots Q pc ls (.long x :: st) := k x rfl
theorem V.eqi {x y : Int32} (e : x = y) (k : V K h cells slots Q pc ls (.int y :: st)) : V K h cells slots Q pc ls (.int x :: st) := e ▸ k
theorem V.eql {x y : Int64} (e : x = y) (k : V K h cells slots Q pc ls (.long y :: st)) : V K h cells slots Q pc ls (.long x :: st) := e ▸ k
theorem V.eqh {h' : AH} (e : h = h') (k : V K h' cells slots Q pc ls st) : V K h cells slots Q pc ls st := e ▸ k
theorem V.pos {P : Prop} (hP : ∀ H : Heap, Hp (Ko K) h H → P) (k : P → V K h cells slots Q pc ls st) : V K h cells slots Q pc ls st := fun H locs la hp hS hl => k (hP H hp) H locs la hp hS hl
theorem r_iconst {i : Int} {v : Int32} (C : Cx K cc nL own rm ret nm) (d : decode cc pc = .ok (.iconst i, 1)) (hn : pc + 1 = n) (hv : Int32.ofInt i = v) (k : V K h cells slots Q n ls (.int v :: st)) : V K h cells slots Q pc ls (st) := by
  subst hn; exact fun H locs la hp hS hl => lv_iconst C.1.1 C.1.2.1 d hv (k H locs la hp hS hl)
theorem r_bipush {i : Int} {v : Int32} (C : Cx K cc nL own rm ret nm) (d : decode cc pc = .ok (.bipush i, 2)) (hn : pc + 2 = n) (hv : (Int8.ofInt i).toInt32 = v) (k : V K h cells slots Q n ls (.int v :: st)) : V K h cells slots Q pc ls (st) := by
  subst hn; exact fun H locs la hp hS hl => lv_bipush C.1.1 C.1.2.1 d hv (k H locs la hp hS hl)
theorem r_sipush {i : Int} {v : Int32} (C : Cx K cc nL own rm ret nm) (d : decode cc pc = .ok (.sipush i, 3)) (hn : pc + 3 = n) (hv : (Int16.ofInt i).toInt32 = v) (k : V K h cells slots Q n ls (.int v :: st)) : V K h cells slots Q pc ls (st) := by
  subst hn; exact fun H locs la hp hS hl => lv_sipush C.1.1 C.1.2.1 d hv (k H locs la hp hS hl)
theorem r_lconst {i : Fin 2} {v : Int64} (C : Cx K cc nL own rm ret nm) (d : decode cc pc = .ok (.lconst i, 1)) (hn : pc + 1 = n) (hv : Int64.ofNat (i : Nat) = v) (k : V K h cells slots Q n ls (.long v :: st)) : V K h cells slots Q pc ls (st) := by
  subst hn; exact fun H locs la hp hS hl => lv_lconst C.1.1 C.1.2.1 d hv (k H locs la hp hS hl)
theorem r_dconst0  (C : Cx K cc nL own rm ret nm) (d : decode cc pc = .ok (.dconst 0, 1)) (hn : pc + 1 = n)  (k : V K h cells slots Q n ls (.double FP.dconst0 :: st)) : V K h cells slots Q pc ls (st) := by
  subst hn; exact fun H locs la hp hS hl => lv_dconst0 C.1.1 C.1.2.1 d  (k H locs la hp hS hl)
theorem r_iload_n {k : Fin 4} {x : Int32} (C : Cx K cc nL own rm ret nm) (d : decode cc pc = .ok (.iload_n k, 1)) (hn : pc + 1 = n) (hi : lk ls k.val = some (.int x)) (kk : V K h cells slots Q n ls (.int x :: st)) : V K h cells slots Q pc ls st := by
  subst hn; exact fun H locs la hp hS hl => lv_iload_n C.1.1 C.1.2.1 d rfl (hl.2.2 _ (lk_mem hi)) (kk H locs la hp hS hl)
theorem r_iload {i : Nat} {x : Int32} (C : Cx K cc nL own rm ret nm) (d : decode cc pc = .ok (.iload i, 2)) (hn : pc + 2 = n) (hi : lk ls i = some (.int x)) (kk : V K h cells slots Q n ls (.int x :: st)) : V K h cells slots Q pc ls st := by
  subst hn; exact fun H locs la hp hS hl => lv_iload C.1.1 C.1.2.1 d (hl.2.2 _ (lk_mem hi)) (kk H locs la hp hS hl)
theorem r_istore_n {k : Fin 4} {x : Int32} (C : Cx K cc nL own rm ret nm) (d : decode cc pc = .ok (.istore_n k, 1)) (hn : pc + 1 = n) (hi : k.val < nL) (kk : V K h cells slots Q n (s1 k.val (.int x) ls) st) : V K h cells slots Q pc ls (.int x :: st) := by
  subst hn; exact fun H locs la hp hS hl => lv_istore_n C.1.1 C.1.2.1 d rfl hl (by rw [C.2.2.2.2.2.2.2.1]; exact hi) rfl (fun la' hl' => kk H locs la' hp hS hl')
theorem r_istore {i : Nat} {x : Int32} (C : Cx K cc nL own rm ret nm) (d : decode cc pc = .ok (.istore i, 2)) (hn : pc + 2 = n) (hi : i < nL) (kk : V K h cells slots Q n (s1 i (.int x) ls) st) : V K h cells slots Q pc ls (.int x :: st) := by
  subst hn; exact fun H locs la hp hS hl => lv_istore C.1.1 C.1.2.1 d hl (by rw [C.2.2.2.2.2.2.2.1]; exact hi) rfl (fun la' hl' => kk H locs la' hp hS hl')
theorem r_lload_n {k : Fin 4} {x : Int64} (C : Cx K cc nL own rm ret nm) (d : decode cc pc = .ok (.lload_n k, 1)) (hn : pc + 1 = n) (hi : lk ls k.val = some (.long x)) (kk : V K h cells slots Q n ls (.long x :: st)) : V K h cells slots Q pc ls st := by
  subst hn; exact fun H locs la hp hS hl => lv_lload_n C.1.1 C.1.2.1 d rfl (hl.2.2 _ (lk_mem hi)) (kk H locs la hp hS hl)
theorem r_lload {i : Nat} {x : Int64} (C : Cx K cc nL own rm ret nm) (d : decode cc pc = .ok (.lload i, 2)) (hn : pc + 2 = n) (hi : lk ls i = some (.long x)) (kk : V K h cells slots Q n ls (.long x :: st)) : V K h cells slots Q pc ls st := by
  subst hn; exact fun H locs la hp hS hl => lv_lload C.1.1 C.1.2.1 d (hl.2.2 _ (lk_mem hi)) (kk H locs la hp hS hl)
theorem r_lstore_n {k : Fin 4} {x : Int64} (C : Cx K cc nL own rm ret nm) (d : decode cc pc = .ok (.lstore_n k, 1)) (hn : pc + 1 = n) (hi : k.val + 1 < nL) (kk : V K h cells slots Q n (s2 k.val (.long x) ls) st) : V K h cells slots Q pc ls (.long x :: st) := by
  subst hn; exact fun H locs la hp hS hl => lv_lstore_n C.1.1 C.1.2.1 d rfl hl (by rw [C.2.2.2.2.2.2.2.1]; exact hi) rfl (fun la' hl' => kk H locs la' hp hS hl')
theorem r_lstore {i : Nat} {x : Int64} (C : Cx K cc nL own rm ret nm) (d : decode cc pc = .ok (.lstore i, 2)) (hn : pc + 2 = n) (hi : i + 1 < nL) (kk : V K h cells slots Q n (s2 i (.long x) ls) st) : V K h cells slots Q pc ls (.long x :: st) := by
  subst hn; exact fun H locs la hp hS hl => lv_lstore C.1.1 C.1.2.1 d hl (by rw [C.2.2.2.2.2.2.2.1]; exact hi) rfl (fun la' hl' => kk H locs la' hp hS hl')
theorem r_aload_n {k : Fin 4} {x : Nat} (C : Cx K cc nL own rm ret nm) (d : decode cc pc = .ok (.aload_n k, 1)) (hn : pc + 1 = n) (hi : lk ls k.val = some (.ref x)) (kk : V K h cells slots Q n ls (.ref x :: st)) : V K h cells slots Q pc ls st := by
  subst hn; exact fun H locs la hp hS hl => lv_aload_n C.1.1 C.1.2.1 d rfl (hl.2.2 _ (lk_mem hi)) (kk H locs la hp hS hl)
theorem r_aload {i : Nat} {x : Nat} (C : Cx K cc nL own rm ret nm) (d : decode cc pc = .ok (.aload i, 2)) (hn : pc + 2 = n) (hi : lk ls i = some (.ref x)) (kk : V K h cells slots Q n ls (.ref x :: st)) : V K h cells slots Q pc ls st := by
  subst hn; exact fun H locs la hp hS hl => lv_aload C.1.1 C.1.2.1 d (hl.2.2 _ (lk_mem hi)) (kk H locs la hp hS hl)
theorem r_astore_n {k : Fin 4} {x : Nat} (C : Cx K cc nL own rm ret nm) (d : decode cc pc = .ok (.astore_n k, 1)) (hn : pc + 1 = n) (hi : k.val < nL) (kk : V K h cells slots Q n (s1 k.val (.ref x) ls) st) : V K h cells slots Q pc ls (.ref x :: st) := by
  subst hn; exact fun H locs la hp hS hl => lv_astore_n C.1.1 C.1.2.1 d rfl hl (by rw [C.2.2.2.2.2.2.2.1]; exact hi) rfl (fun la' hl' => kk H locs la' hp hS hl')
theorem r_astore {i : Nat} {x : Nat} (C : Cx K cc nL own rm ret nm) (d : decode cc pc = .ok (.astore i, 2)) (hn : pc + 2 = n) (hi : i < nL) (kk : V K h cells slots Q n (s1 i (.ref x) ls) st) : V K h cells slots Q pc ls (.ref x :: st) := by
  subst hn; exact fun H locs la hp hS hl => lv_astore C.1.1 C.1.2.1 d hl (by rw [C.2.2.2.2.2.2.2.1]; exact hi) rfl (fun la' hl' => kk H locs la' hp hS hl')
theorem r_dload_n {k : Fin 4} {x : UInt64} (C : Cx K cc nL own rm ret nm) (d : decode cc pc = .ok (.dload_n k, 1)) (hn : pc + 1 = n) (hi : lk ls k.val = some (.double x)) (kk : V K h cells slots Q n ls (.double x :: st)) : V K h cells slots Q pc ls st := by
  subst hn; exact fun H locs la hp hS hl => lv_dload_n C.1.1 C.1.2.1 d rfl (hl.2.2 _ (lk_mem hi)) (kk H locs la hp hS hl)
theorem r_dload {i : Nat} {x : UInt64} (C : Cx K cc nL own rm ret nm) (d : decode cc pc = .ok (.dload i, 2)) (hn : pc + 2 = n) (hi : lk ls i = some (.double x)) (kk : V K h cells slots Q n ls (.double x :: st)) : V K h cells slots Q pc ls st := by
  subst hn; exact fun H locs la hp hS hl => lv_dload C.1.1 C.1.2.1 d (hl.2.2 _ (lk_mem hi)) (kk H locs la hp hS hl)
theorem r_dstore_n {k : Fin 4} {x : UInt64} (C : Cx K cc nL own rm ret nm) (d : decode cc pc = .ok (.dstore_n k, 1)) (hn : pc + 1 = n) (hi : k.val + 1 < nL) (kk : V K h cells slots Q n (s2 k.val (.double x) ls) st) : V K h cells slots Q pc ls (.double x :: st) := by
  subst hn; exact fun H locs la hp hS hl => lv_dstore_n C.1.1 C.1.2.1 d rfl hl (by rw [C.2.2.2.2.2.2.2.1]; exact hi) rfl (fun la' hl' => kk H locs la' hp hS hl')
theorem r_dstore {i : Nat} {x : UInt64} (C : Cx K cc nL own rm ret nm) (d : decode cc pc = .ok (.dstore i, 2)) (hn : pc + 2 = n) (hi : i + 1 < nL) (kk : V K h cells slots Q n (s2 i (.double x) ls) st) : V K h cells slots Q pc ls (.double x :: st) := by
  subst hn; exact fun H locs la hp hS hl => lv_dstore C.1.1 C.1.2.1 d hl (by rw [C.2.2.2.2.2.2.2.1]; exact hi) rfl (fun la' hl' => kk H locs la' hp hS hl')
theorem r_iinc {i : Nat} {z : Int} {x v : Int32} (C : Cx K cc nL own rm ret nm) (d : decode cc pc = .ok (.iinc i z, 3)) (hn : pc + 3 = n) (hi : lk ls i = some (.int x)) (hv : x + Int32.ofInt z = v) (hl : i < nL) (kk : V K h cells slots Q n (s1 i (.int v) ls) st) : V K h cells slots Q pc ls st := by
  subst hn
  obtain ⟨j, hj⟩ := List.getElem?_of_mem (lk_mem hi)
  exact fun H locs la hp hS hl0 => lv_iinc C.1.1 C.1.2.1 d hl0 hj hv (by rw [C.2.2.2.2.2.2.2.1]; exact hl) rfl (fun la' hl' => kk H locs la' hp hS hl')
theorem r_iadd {x y : Int32} (C : Cx K cc nL own rm ret nm) (d : decode cc pc = .ok (.iadd, 1)) (hn : pc + 1 = n)  (k : V K h cells slots Q n ls (.int (x + y) :: st)) : V K h cells slots Q pc ls (.int y :: .int x :: st) := by
  subst hn; exact fun H locs la hp hS hl => lv_iadd C.1.1 C.1.2.1 d  (k H locs la hp hS hl)
theorem r_isub {x y : Int32} (C : Cx K cc nL own rm ret nm) (d : decode cc pc = .ok (.isub, 1)) (hn : pc + 1 = n)  (k : V K h cells slots Q n ls (.int (x - y) :: st)) : V K h cells slots Q pc ls (.int y :: .int x :: st) := by
  subst hn; exact fun H locs la hp hS hl => lv_isub C.1.1 C.1.2.1 d  (k H locs la hp hS hl)
theorem r_imul {x y : Int32} (C : Cx K cc nL own rm ret nm) (d : decode cc pc = .ok (.imul, 1)) (hn : pc + 1 = n)  (k : V K h cells slots Q n ls (.int (x * y) :: st)) : V K h cells slots Q pc ls (.int y :: .int x :: st) := by
  subst hn; exact fun H locs la hp hS hl => lv_imul C.1.1 C.1.2.1 d  (k H locs la hp hS hl)
theorem r_iand {x y : Int32} (C : Cx K cc nL own rm ret nm) (d : decode cc pc = .ok (.iand, 1)) (hn : pc + 1 = n)  (k : V K h cells slots Q n ls (.int (x &&& y) :: st)) : V K h cells slots Q pc ls (.int y :: .int x :: st) := by
  subst hn; exact fun H locs la hp hS hl => lv_iand C.1.1 C.1.2.1 d  (k H locs la hp hS hl)
theorem r_ladd {x y : Int64} (C : Cx K cc nL own rm ret nm) (d : decode cc pc = .ok (.ladd, 1)) (hn : pc + 1 = n)  (k : V K h cells slots Q n ls (.long (x + y) :: st)) : V K h cells slots Q pc ls (.long y :: .long x :: st) := by
  subst hn; exact fun H locs la hp hS hl => lv_ladd C.1.1 C.1.2.1 d  (k H locs la hp hS hl)
theorem r_lsub {x y : Int64} (C : Cx K cc nL own rm ret nm) (d : decode cc pc = .ok (.lsub, 1)) (hn : pc + 1 = n)  (k : V K h cells slots Q n ls (.long (x - y) :: st)) : V K h cells slots Q pc ls (.long y :: .long x :: st) := by
  subst hn; exact fun H locs la hp hS hl => lv_lsub C.1.1 C.1.2.1 d  (k H locs la hp hS hl)
theorem r_lmul {x y : Int64} (C : Cx K cc nL own rm ret nm) (d : decode cc pc = .ok (.lmul, 1)) (hn : pc + 1 = n)  (k : V K h cells slots Q n ls (.long (x * y) :: st)) : V K h cells slots Q pc ls (.long y :: .long x :: st) := by
  subst hn; exact fun H locs la hp hS hl => lv_lmul C.1.1 C.1.2.1 d  (k H locs la hp hS hl)
theorem r_idiv {x y : Int32} (C : Cx K cc nL own rm ret nm) (d : decode cc pc = .ok (.idiv, 1)) (hn : pc + 1 = n) (hne : ¬ y = 0) (k : V K h cells slots Q n ls (.int (x / y) :: st)) : V K h cells slots Q pc ls (.int y :: .int x :: st) := by
  subst hn; exact fun H locs la hp hS hl => lv_idiv C.1.1 C.1.2.1 d hne (k H locs la hp hS hl)
theorem r_irem {x y : Int32} (C : Cx K cc nL own rm ret nm) (d : decode cc pc = .ok (.irem, 1)) (hn : pc + 1 = n) (hne : ¬ y = 0) (k : V K h cells slots Q n ls (.int (x - x / y * y) :: st)) : V K h cells slots Q pc ls (.int y :: .int x :: st) := by
  subst hn; exact fun H locs la hp hS hl => lv_irem C.1.1 C.1.2.1 d hne (k H locs la hp hS hl)
theorem r_ineg {x : Int32} (C : Cx K cc nL own rm ret nm) (d : decode cc pc = .ok (.ineg, 1)) (hn : pc + 1 = n)  (k : V K h cells slots Q n ls (.int (-x) :: st)) : V K h cells slots Q pc ls (.int x :: st) := by
  subst hn; exact fun H locs la hp hS hl => lv_ineg C.1.1 C.1.2.1 d  (k H locs la hp hS hl)
theorem r_lneg {x : Int64} (C : Cx K cc nL own rm ret nm) (d : decode cc pc = .ok (.lneg, 1)) (hn : pc + 1 = n)  (k : V K h cells slots Q n ls (.long (-x) :: st)) : V K h cells slots Q pc ls (.long x :: st) := by
  subst hn; exact fun H locs la hp hS hl => lv_lneg C.1.1 C.1.2.1 d  (k H locs la hp hS hl)
theorem r_i2l {x : Int32} (C : Cx K cc nL own rm ret nm) (d : decode cc pc = .ok (.i2l, 1)) (hn : pc + 1 = n)  (k : V K h cells slots Q n ls (.long x.toInt64 :: st)) : V K h cells slots Q pc ls (.int x :: st) := by
  subst hn; exact fun H locs la hp hS hl => lv_i2l C.1.1 C.1.2.1 d rfl (k H locs la hp hS hl)
theorem r_l2i {x : Int64} (C : Cx K cc nL own rm ret nm) (d : decode cc pc = .ok (.l2i, 1)) (hn : pc + 1 = n)  (k : V K h cells slots Q n ls (.int x.toInt32 :: st)) : V K h cells slots Q pc ls (.long x :: st) := by
  subst hn; exact fun H locs la hp hS hl => lv_l2i C.1.1 C.1.2.1 d rfl (k H locs la hp hS hl)
theorem r_l2d {x : Int64} (C : Cx K cc nL own rm ret nm) (d : decode cc pc = .ok (.l2d, 1)) (hn : pc + 1 = n)  (k : V K h cells slots Q n ls (.double (FP.l2d x) :: st)) : V K h cells slots Q pc ls (.long x :: st) := by
  subst hn; exact fun H locs la hp hS hl => lv_l2d C.1.1 C.1.2.1 d  (k H locs la hp hS hl)
theorem r_ddiv {x y : UInt64} (C : Cx K cc nL own rm ret nm) (d : decode cc pc = .ok (.ddiv, 1)) (hn : pc + 1 = n) (hne : vf_n64 (FP.ddiv x y)) (k : V K h cells slots Q n ls (.double (FP.ddiv x y) :: st)) : V K h cells slots Q pc ls (.double y :: .double x :: st) := by
  subst hn; exact fun H locs la hp hS hl => lv_ddiv C.1.1 C.1.2.1 d hne (k H locs la hp hS hl)
theorem r_dcmp {x y : UInt64} {op : CmpOp} (C : Cx K cc nL own rm ret nm) (d : decode cc pc = .ok (.dcmp op, 1)) (hn : pc + 1 = n)  (k : V K h cells slots Q n ls (.int (Op.cmpValue (FP.dcmp x y) op) :: st)) : V K h cells slots Q pc ls (.double y :: .double x :: st) := by
  subst hn; exact fun H locs la hp hS hl => lv_dcmp C.1.1 C.1.2.1 d  (k H locs la hp hS hl)
theorem r_lcmp {x y : Int64} (C : Cx K cc nL own rm ret nm) (d : decode cc pc = .ok (.lcmp, 1)) (hn : pc + 1 = n)  (k : V K h cells slots Q n ls (.int (lg_cmp x y) :: st)) : V K h cells slots Q pc ls (.long y :: .long x :: st) := by
  subst hn; exact fun H locs la hp hS hl => W.lcmp C.1.1 C.1.2.1 d  (k H locs la hp hS hl)
theorem r_dup {va : Value} (C : Cx K cc nL own rm ret nm) (d : decode cc pc = .ok (.dup, 1)) (hn : pc + 1 = n) (hva : va.category = 1) (k : V K h cells slots Q n ls (va :: va :: st)) : V K h cells slots Q pc ls (va :: st) := by
  subst hn; exact fun H locs la hp hS hl => lv_dup C.1.1 C.1.2.1 d hva (k H locs la hp hS hl)
theorem r_pop {va : Value} (C : Cx K cc nL own rm ret nm) (d : decode cc pc = .ok (.pop, 1)) (hn : pc + 1 = n) (hva : va.category = 1) (k : V K h cells slots Q n ls (st)) : V K h cells slots Q pc ls (va :: st) := by
  subst hn; exact fun H locs la hp hS hl => lv_pop C.1.1 C.1.2.1 d hva (k H locs la hp hS hl)
theorem r_pop2 {va : Value} (C : Cx K cc nL own rm ret nm) (d : decode cc pc = .ok (.pop2, 1)) (hn : pc + 1 = n) (hva : va.category = 2) (k : V K h cells slots Q n ls (st)) : V K h cells slots Q pc ls (va :: st) := by
  subst hn; exact fun H locs la hp hS hl => lv_pop2_2 C.1.1 C.1.2.1 d hva (k H locs la hp hS hl)
theorem r_dup_x1 {va vb : Value} (C : Cx K cc nL own rm ret nm) (d : decode cc pc = .ok (.dup_x1, 1)) (hn : pc + 1 = n) (hva : va.category = 1) (hvb : vb.category = 1) (k : V K h cells slots Q n ls (va :: vb :: va :: st)) : V K h cells slots Q pc ls (va :: vb :: st) := by
  subst hn; exact fun H locs la hp hS hl => lv_dup_x1 C.1.1 C.1.2.1 d hva hvb (k H locs la hp hS hl)
theorem r_dup2 {va vb : Value} (C : Cx K cc nL own rm ret nm) (d : decode cc pc = .ok (.dup2, 1)) (hn : pc + 1 = n) (hva : va.category = 1) (hvb : vb.category = 1) (k : V K h cells slots Q n ls (va :: vb :: va :: vb :: st)) : V K h cells slots Q pc ls (va :: vb :: st) := by
  subst hn; exact fun H locs la hp hS hl => lv_dup2_11 C.1.1 C.1.2.1 d hva hvb (k H locs la hp hS hl)
theorem r_if_eq {x : Int32} {off : Int} {tgt : Nat} (C : Cx K cc nL own rm ret nm) (d : decode cc pc = .ok (.ifCond .eq off, 3)) (ht : (pc : Int) + off = (tgt : Int)) (hn : pc + 3 = n) (kt : x = 0 → V K h cells slots Q tgt ls st) (kf : ¬ x = 0 → V K h cells slots Q n ls st) : V K h cells slots Q pc ls (.int x :: st) := by
  subst hn; exact fun H locs la hp hS hl => lv_if_eq C.1.1 C.1.2.1 d ht (fun c0 => kt c0 H locs la hp hS hl) (fun c0 => kf c0 H locs la hp hS hl)
theorem r_icmp_eq {x y : Int32} {off : Int} {tgt : Nat} (C : Cx K cc nL own rm ret nm) (d : decode cc pc = .ok (.if_icmp .eq off, 3)) (ht : (pc : Int) + off = (tgt : Int)) (hn : pc + 3 = n) (kt : x = y → V K h cells slots Q tgt ls st) (kf : ¬ x = y → V K h cells slots Q n ls st) : V K h cells slots Q pc ls (.int y :: .int x :: st) := by
  subst hn; exact fun H locs la hp hS hl => lv_icmp_eq C.1.1 C.1.2.1 d ht (fun c0 => kt c0 H locs la hp hS hl) (fun c0 => kf c0 H locs la hp hS hl)
theorem r_if_ne {x : Int32} {off : Int} {tgt : Nat} (C : Cx K cc nL own rm ret nm) (d : decode cc pc = .ok (.ifCond .ne off, 3)) (ht : (pc : Int) + off = (tgt : Int)) (hn : pc + 3 = n) (kt : ¬ x = 0 → V K h cells slots Q tgt ls st) (kf : x = 0 → V K h cells slots Q n ls st) : V K h cells slots Q pc ls (.int x :: st) := by
  subst hn; exact fun H locs la hp hS hl => lv_if_ne C.1.1 C.1.2.1 d ht (fun c0 => kt c0 H locs la hp hS hl) (fun c0 => kf c0 H locs la hp hS hl)
theorem r_icmp_ne {x y : Int32} {off : Int} {tgt : Nat} (C : Cx K cc nL own rm ret nm) (d : decode cc pc = .ok (.if_icmp .ne off, 3)) (ht : (pc : Int) + off = (tgt : Int)) (hn : pc + 3 = n) (kt : ¬ x = y → V K h cells slots Q tgt ls st) (kf : x = y → V K h cells slots Q n ls st) : V K h cells slots Q pc ls (.int y :: .int x :: st) := by
  subst hn; exact fun H locs la hp hS hl => lv_icmp_ne C.1.1 C.1.2.1 d ht (fun c0 => kt c0 H locs la hp hS hl) (fun c0 => kf c0 H locs la hp hS hl)
theorem r_if_lt {x : Int32} {off : Int} {tgt : Nat} (C : Cx K cc nL own rm ret nm) (d : decode cc pc = .ok (.ifCond .lt off, 3)) (ht : (pc : Int) + off = (tgt : Int)) (hn : pc + 3 = n) (kt : x < 0 → V K h cells slots Q tgt ls st) (kf : ¬ x < 0 → V K h cells slots Q n ls st) : V K h cells slots Q pc ls (.int x :: st) := by
  subst hn; exact fun H locs la hp hS hl => lv_if_lt C.1.1 C.1.2.1 d ht (fun c0 => kt c0 H locs la hp hS hl) (fun c0 => kf c0 H locs la hp hS hl)
theorem r_icmp_lt {x y : Int32} {off : Int} {tgt : Nat} (C : Cx K cc nL own rm ret nm) (d : decode cc pc = .ok (.if_icmp .lt off, 3)) (ht : (pc : Int) + off = (tgt : Int)) (hn : pc + 3 = n) (kt : x < y → V K h cells slots Q tgt ls st) (kf : ¬ x < y → V K h cells slots Q n ls st) : V K h cells slots Q pc ls (.int y :: .int x :: st) := by
  subst hn; exact fun H locs la hp hS hl => lv_icmp_lt C.1.1 C.1.2.1 d ht (fun c0 => kt c0 H locs la hp hS hl) (fun c0 => kf c0 H locs la hp hS hl)
theorem r_if_ge {x : Int32} {off : Int} {tgt : Nat} (C : Cx K cc nL own rm ret nm) (d : decode cc pc = .ok (.ifCond .ge off, 3)) (ht : (pc : Int) + off = (tgt : Int)) (hn : pc + 3 = n) (kt : 0 ≤ x → V K h cells slots Q tgt ls st) (kf : ¬ 0 ≤ x → V K h cells slots Q n ls st) : V K h cells slots Q pc ls (.int x :: st) := by
  subst hn; exact fun H locs la hp hS hl => lv_if_ge C.1.1 C.1.2.1 d ht (fun c0 => kt c0 H locs la hp hS hl) (fun c0 => kf c0 H locs la hp hS hl)
theorem r_icmp_ge {x y : Int32} {off : Int} {tgt : Nat} (C : Cx K cc nL own rm ret nm) (d : decode cc pc = .ok (.if_icmp .ge off, 3)) (ht : (pc : Int) + off = (tgt : Int)) (hn : pc + 3 = n) (kt : y ≤ x → V K h cells slots Q tgt ls st) (kf : ¬ y ≤ x → V K h cells slots Q n ls st) : V K h cells slots Q pc ls (.int y :: .int x :: st) := by
  subst hn; exact fun H locs la hp hS hl => lv_icmp_ge C.1.1 C.1.2.1 d ht (fun c0 => kt c0 H locs la hp hS hl) (fun c0 => kf c0 H locs la hp hS hl)
theorem r_if_gt {x : Int32} {off : Int} {tgt : Nat} (C : Cx K cc nL own rm ret nm) (d : decode cc pc = .ok (.ifCond .gt off, 3)) (ht : (pc : Int) + off = (tgt : Int)) (hn : pc + 3 = n) (kt : 0 < x → V K h cells slots Q tgt ls st) (kf : ¬ 0 < x → V K h cells slots Q n ls st) : V K h cells slots Q pc ls (.int x :: st) := by
  subst hn; exact fun H locs la hp hS hl => lv_if_gt C.1.1 C.1.2.1 d ht (fun c0 => kt c0 H locs la hp hS hl) (fun c0 => kf c0 H locs la hp hS hl)
theorem r_icmp_gt {x y : Int32} {off : Int} {tgt : Nat} (C : Cx K cc nL own rm ret nm) (d : decode cc pc = .ok (.if_icmp .gt off, 3)) (ht : (pc : Int) + off = (tgt : Int)) (hn : pc + 3 = n) (kt : y < x → V K h cells slots Q tgt ls st) (kf : ¬ y < x → V K h cells slots Q n ls st) : V K h cells slots Q pc ls (.int y :: .int x :: st) := by
  subst hn; exact fun H locs la hp hS hl => lv_icmp_gt C.1.1 C.1.2.1 d ht (fun c0 => kt c0 H locs la hp hS hl) (fun c0 => kf c0 H locs la hp hS hl)
theorem r_if_le {x : Int32} {off : Int} {tgt : Nat} (C : Cx K cc nL own rm ret nm) (d : decode cc pc = .ok (.ifCond .le off, 3)) (ht : (pc : Int) + off = (tgt : Int)) (hn : pc + 3 = n) (kt : x ≤ 0 → V K h cells slots Q tgt ls st) (kf : ¬ x ≤ 0 → V K h cells slots Q n ls st) : V K h cells slots Q pc ls (.int x :: st) := by
  subst hn; exact fun H locs la hp hS hl => lv_if_le C.1.1 C.1.2.1 d ht (fun c0 => kt c0 H locs la hp hS hl) (fun c0 => kf c0 H locs la hp hS hl)
theorem r_icmp_le {x y : Int32} {off : Int} {tgt : Nat} (C : Cx K cc nL own rm ret nm) (d : decode cc pc = .ok (.if_icmp .le off, 3)) (ht : (pc : Int) + off = (tgt : Int)) (hn : pc + 3 = n) (kt : x ≤ y → V K h cells slots Q tgt ls st) (kf : ¬ x ≤ y → V K h cells slots Q n ls st) : V K h cells slots Q pc ls (.int y :: .int x :: st) := by
  subst hn; exact fun H locs la hp hS hl => lv_icmp_le C.1.1 C.1.2.1 d ht (fun c0 => kt c0 H locs la hp hS hl) (fun c0 => kf c0 H locs la hp hS hl)
theorem r_goto {off : Int} {tgt : Nat} (C : Cx K cc nL own rm ret nm) (d : decode cc pc = .ok (.goto off, 3)) (ht : (pc : Int) + off = (tgt : Int)) (k : V K h cells slots Q tgt ls st) : V K h cells slots Q pc ls st := fun H locs la hp hS hl => lv_goto C.1.1 C.1.2.1 d ht (k H locs la hp hS hl)
theorem r_tableOut {dflt lo hi : Int} {offs : Array Int} {len : Nat} {x : Int32} {tgt : Nat} (C : Cx K cc nL own rm ret nm) (d : decode cc pc = .ok (.tableswitch dflt lo hi offs, len)) (hx : x.toInt < lo ∨ hi < x.toInt) (ht : (pc : Int) + dflt = (tgt : Int)) (k : V K h cells slots Q tgt ls st) : V K h cells slots Q pc ls (.int x :: st) := fun H locs la hp hS hl => lv_tableOut C.1.1 C.1.2.1 d hx ht (k H locs la hp hS hl)
theorem r_tableIn {dflt lo hi : Int} {offs : Array Int} {len : Nat} {x : Int32} {off : Int} {tgt : Nat} (C : Cx K cc nL own rm ret nm) (d : decode cc pc = .ok (.tableswitch dflt lo hi offs, len)) (h1 : ¬ x.toInt < lo) (h2 : ¬ hi < x.toInt) (ho : offs[(x.toInt - lo).toNat]? = some off) (ht : (pc : Int) + off = (tgt : Int)) (k : V K h cells slots Q tgt ls st) : V K h cells slots Q pc ls (.int x :: st) := fun H locs la hp hS hl => lv_tableIn C.1.1 C.1.2.1 d h1 h2 ho ht (k H locs la hp hS hl)
theorem r_lookup {dflt : Int} {ps : Array (Int × Int)} {len : Nat} {x : Int32} {off : Int} {tgt : Nat} (C : Cx K cc nL own rm ret nm) (d : decode cc pc = .ok (.lookupswitch dflt ps, len)) (hq : (ps.toList.zip (ps.toList.drop 1)).all (fun (a, next) => a.1 < next.1) = true) (ho : Op.lookupswitch.offset ps.toList dflt x.toInt = off) (ht : (pc : Int) + off = (tgt : Int)) (k : V K h cells slots Q tgt ls st) : V K h cells slots Q pc ls (.int x :: st) := fun H locs la hp hS hl => lv_lookup C.1.1 C.1.2.1 d hq ho ht (k H locs la hp hS hl)
theorem r_ldc {index : Nat} {v : Int32} (C : Cx K cc nL own rm ret nm) (hw : Jvm.Cond.constant own index v ∈ tblG) (d : decode cc pc = .ok (.ldc index, 2)) (hn : pc + 2 = n) (k : V K h cells slots Q n ls (.int v :: st)) : V K h cells slots Q pc ls st := by
  subst hn; exact fun H locs la hp hS hl => lv_ldc C.1.1 C.1.2.1 C.1.2.2.2.1 (C.1.2.2.2.2 _ hw) d (k H locs la hp hS hl)
theorem r_ldc2 {index : Nat} {v : Int64} (C : Cx K cc nL own rm ret nm) (hw : Jvm.Cond.constantLong own index v ∈ tblG) (d : decode cc pc = .ok (.ldc2_w index, 3)) (hn : pc + 3 = n) (k : V K h cells slots Q n ls (.long v :: st)) : V K h cells slots Q pc ls st := by
  subst hn; exact fun H locs la hp hS hl => lv_ldc2 C.1.1 C.1.2.1 C.1.2.2.2.1 (C.1.2.2.2.2 _ hw) d (k H locs la hp hS hl)
theorem r_get {ref Cn : String} {T : u_T} {N ci index a : Nat} {fs : List Value} {v : Value} (C : Cx K cc nL own rm ret nm) (hin : ∀ w ∈ u_ws Cn T N, w ∈ tblG) (hc : vwCl[ci]? = some (Cn, T, N)) (j : Nat) (hj : j < N) (hl0 : Cond.fieldLink own index ref (T j).2.1 (T j).2.2.1 ∈ tblG) (hr : (T j).1 = ref) (d : decode cc pc = .ok (.getfield index, 3)) (hn : pc + 3 = n) (ha : h a = some (.inr (ci, fs))) (hv : fs[j]? = some v) (k : V K h cells slots Q n ls (v :: st)) : V K h cells slots Q pc ls (.ref a :: st) := by
  subst hn; subst hr
  intro H locs la hp hS hl
  obtain ⟨ws, hP, -, hh⟩ := id hp
  obtain ⟨q0, hq⟩ := hh a _ ha
  exact va_get C.1.1 C.1.2.1 C.1.2.2.2.2 hin C.1.2.2.2.1 C.2.1 hP q0 hq hc j hj (C.1.2.2.2.2 _ hl0) (fun _ h9 => h9) hv d (k H locs la hp hS hl)
theorem r_getN {ref Cn host : String} {T : u_T} {N ci index a : Nat} {fs : List Value} {v : Value} (C : Cx K cc nL own rm ret nm) (hin : ∀ w ∈ u_ws Cn T N, w ∈ tblG) (hc : vwCl[ci]? = some (Cn, T, N)) (j : Nat) (hj : j < N) (hl0 : Cond.fieldLinkNest own index ref (T j).2.1 (T j).2.2.1 host ∈ tblG) (hr : (T j).1 = ref) (d : decode cc pc = .ok (.getfield index, 3)) (hn : pc + 3 = n) (ha : h a = some (.inr (ci, fs))) (hv : fs[j]? = some v) (k : V K h cells slots Q n ls (v :: st)) : V K h cells slots Q pc ls (.ref a :: st) := by
  subst hn; subst hr
  intro H locs la hp hS hl
  obtain ⟨ws, hP, -, hh⟩ := id hp
  obtain ⟨q0, hq⟩ := hh a _ ha
  exact va_getN C.1.1 C.1.2.1 C.1.2.2.2.2 hin C.1.2.2.2.1 C.2.1 hP q0 hq hc j hj (C.1.2.2.2.2 _ hl0) (fun _ h9 => h9) hv d (k H locs la hp hS hl)
theorem r_put {ref Cn : String} {T : u_T} {N ci index a : Nat} {fs : List Value} {v : Value} {ty : FieldType} (C : Cx K cc nL own rm ret nm) (hin : ∀ w ∈ u_ws Cn T N, w ∈ tblG) (ty0 : Nat → FieldType) (hty : ∀ k, k < N → parseFieldDescriptor (T k).2.2.1 = some (ty0 k)) (hnm : ∀ a, a < N → ∀ b, b < N → a ≠ b → (T a).2.1 ≠ (T b).2.1) (hc : vwCl[ci]? = some (Cn, T, N)) (j : Nat) (hj : j < N) (hl0 : Cond.fieldLink own index ref (T j).2.1 (T j).2.2.1 ∈ tblG) (hr : (T j).1 = ref) (hfin : (T j).2.2.2 = false) (hd : parseFieldDescriptor (T j).2.2.1 = some ty) (hna : narrow ty v = v) (hfit : fits ty v = true) (d : decode cc pc = .ok (.putfield index, 3)) (hn : pc + 3 = n) (ha : h a = some (.inr (ci, fs))) (hlen : j < fs.length) (k : V K (hu h a (.inr (ci, fs.set j v))) cells slots Q n ls st) : V K h cells slots Q pc ls (v :: .ref a :: st) := by
  subst hn; subst hr
  intro H locs la hp hS hl
  obtain ⟨ws, hP, hD, hh⟩ := id hp
  obtain ⟨q0, hq⟩ := hh a _ ha
  exact va_put C.1.1 C.1.2.1 C.1.2.2.2.2 hin ty0 hty hnm C.1.2.2.2.1 C.2.1 hP hD hS q0 hq hc j hj (C.1.2.2.2.2 _ hl0) (fun _ h9 => h9) hfin hd hna hfit hlen d (fun H1 locs1 hP1 hD1 hS1 => k H1 locs1 la ⟨_, hP1, hD1, Hp.set hD hq hh⟩ hS1 hl)
theorem r_putF {ref Cn : String} {T : u_T} {N ci index a : Nat} {fs : List Value} {v : Value} {ty : FieldType} (C : Cx K cc nL own rm ret nm) (hin : ∀ w ∈ u_ws Cn T N, w ∈ tblG) (ty0 : Nat → FieldType) (hty : ∀ k, k < N → parseFieldDescriptor (T k).2.2.1 = some (ty0 k)) (hnm : ∀ a, a < N → ∀ b, b < N → a ≠ b → (T a).2.1 ≠ (T b).2.1) (hc : vwCl[ci]? = some (Cn, T, N)) (j : Nat) (hj : j < N) (hl0 : Cond.fieldLink own index ref (T j).2.1 (T j).2.2.1 ∈ tblG) (hr : (T j).1 = ref) (hfin : (T j).2.2.2 = true) (hin2 : nm = "<init>") (hown : (T j).1 = own) (hd : parseFieldDescriptor (T j).2.2.1 = some ty) (hna : narrow ty v = v) (hfit : fits ty v = true) (d : decode cc pc = .ok (.putfield index, 3)) (hn : pc + 3 = n) (ha : h a = some (.inr (ci, fs))) (hlen : j < fs.length) (k : V K (hu h a (.inr (ci, fs.set j v))) cells slots Q n ls st) : V K h cells slots Q pc ls (v :: .ref a :: st) := by
  subst hn; subst hr
  intro H locs la hp hS hl
  obtain ⟨ws, hP, hD, hh⟩ := id hp
  obtain ⟨q0, hq⟩ := hh a _ ha
  exact va_putF C.1.1 C.1.2.1 C.1.2.2.2.2 hin ty0 hty hnm C.1.2.2.2.1 C.2.1 hP hD hS q0 hq hc j hj (C.1.2.2.2.2 _ hl0) (fun _ h9 => h9) hfin (C.2.2.2.2.2.2.1.trans hin2) hown hd hna hfit hlen d (fun H1 locs1 hP1 hD1 hS1 => k H1 locs1 la ⟨_, hP1, hD1, Hp.set hD hq hh⟩ hS1 hl)
theorem r_putN {ref Cn host : String} {T : u_T} {N ci index a : Nat} {fs : List Value} {v : Value} {ty : FieldType} (C : Cx K cc nL own rm ret nm) (hin : ∀ w ∈ u_ws Cn T N, w ∈ tblG) (ty0 : Nat → FieldType) (hty : ∀ k, k < N → parseFieldDescriptor (T k).2.2.1 = some (ty0 k)) (hnm : ∀ a, a < N → ∀ b, b < N → a ≠ b → (T a).2.1 ≠ (T b).2.1) (hc : vwCl[ci]? = some (Cn, T, N)) (j : Nat) (hj : j < N) (hl0 : Cond.fieldLinkNest own index ref (T j).2.1 (T j).2.2.1 host ∈ tblG) (hr : (T j).1 = ref) (hfin : (T j).2.2.2 = false) (hd : parseFieldDescriptor (T j).2.2.1 = some ty) (hna : narrow ty v = v) (hfit : fits ty v = true) (d : decode cc pc = .ok (.putfield index, 3)) (hn : pc + 3 = n) (ha : h a = some (.inr (ci, fs))) (hlen : j < fs.length) (k : V K (hu h a (.inr (ci, fs.set j v))) cells slots Q n ls st) : V K h cells slots Q pc ls (v :: .ref a :: st) := by
  subst hn; subst hr
  intro H locs la hp hS hl
  obtain ⟨ws, hP, hD, hh⟩ := id hp
  obtain ⟨q0, hq⟩ := hh a _ ha
  exact va_putN C.1.1 C.1.2.1 C.1.2.2.2.2 hin ty0 hty hnm C.1.2.2.2.1 C.2.1 hP hD hS q0 hq hc j hj (C.1.2.2.2.2 _ hl0) (fun _ h9 => h9) hfin hd hna hfit hlen d (fun H1 locs1 hP1 hD1 hS1 => k H1 locs1 la ⟨_, hP1, hD1, Hp.set hD hq hh⟩ hS1 hl)
theorem xk_in {i : Int32} {j N : Nat} (hi : i = nI j) (hj : j < N) (hN : N < 2147483648) : vp_in i N := by rw [hi]; exact vp_in_nI hj hN
theorem xk_cl {i : Int32} {j N : Nat} (hi : i = nI j) (hj : j < N) (hN : N < 2147483648) : i.toNatClampNeg = j := by rw [hi]; exact nI_clamp (by omega)
theorem r_iald {i : Int32} {a N : Nat} {f : Nat → Int32} (C : Cx K cc nL own rm ret nm) (d : decode cc pc = .ok (.iaload, 1)) (hn : pc + 1 = n) (ha : h a = some (.inl ((Ko K).2.1 0, N, .inl f))) (j : Nat) (hi : i = nI j) (hj : j < N) (hN : N < 2147483648) (k : V K h cells slots Q n ls (.int (f j) :: st)) : V K h cells slots Q pc ls (.int i :: .ref a :: st) := by
  subst hn
  intro H locs la hp hS hl
  obtain ⟨ws, hP, -, hh⟩ := id hp
  obtain ⟨q0, hq⟩ := hh a _ ha
  refine va_iald C.1.1 C.1.2.1 C.2.1 hP q0 0 hq rfl (xk_in hi hj hN) d ?_
  rw [xk_cl hi hj hN]
  exact k H locs la hp hS hl
theorem r_lald {i : Int32} {a N : Nat} {f : Nat → Int64} (C : Cx K cc nL own rm ret nm) (d : decode cc pc = .ok (.laload, 1)) (hn : pc + 1 = n) (ha : h a = some (.inl ((Ko K).2.1 1, N, .inr (.inl f)))) (j : Nat) (hi : i = nI j) (hj : j < N) (hN : N < 2147483648) (k : V K h cells slots Q n ls (.long (f j) :: st)) : V K h cells slots Q pc ls (.int i :: .ref a :: st) := by
  subst hn
  intro H locs la hp hS hl
  obtain ⟨ws, hP, -, hh⟩ := id hp
  obtain ⟨q0, hq⟩ := hh a _ ha
  refine va_lald C.1.1 C.1.2.1 C.2.1 hP q0 1 hq rfl (xk_in hi hj hN) d ?_
  rw [xk_cl hi hj hN]
  exact k H locs la hp hS hl
theorem r_iast {i : Int32} {x : Int32} {a N : Nat} {f : Nat → Int32} (C : Cx K cc nL own rm ret nm) (d : decode cc pc = .ok (.iastore, 1)) (hn : pc + 1 = n) (ha : h a = some (.inl ((Ko K).2.1 0, N, .inl f))) (j : Nat) (hi : i = nI j) (hj : j < N) (hN : N < 2147483648) (k : V K (hu h a (.inl ((Ko K).2.1 0, N, .inl (upd f j x)))) cells slots Q n ls st) : V K h cells slots Q pc ls (.int x :: .int i :: .ref a :: st) := by
  subst hn
  intro H locs la hp hS hl
  obtain ⟨ws, hP, hD, hh⟩ := id hp
  obtain ⟨q0, hq⟩ := hh a _ ha
  refine va_iast C.1.1 C.1.2.1 C.2.1 hP hD hS q0 0 hq rfl (xk_in hi hj hN) d (fun H1 locs1 hP1 hD1 hS1 => ?_)
  rw [xk_cl hi hj hN] at hP1 hD1
  exact k H1 locs1 la ⟨_, hP1, hD1, Hp.set hD hq hh⟩ hS1 hl
theorem r_last {i : Int32} {x : Int64} {a N : Nat} {f : Nat → Int64} (C : Cx K cc nL own rm ret nm) (d : decode cc pc = .ok (.lastore, 1)) (hn : pc + 1 = n) (ha : h a = some (.inl ((Ko K).2.1 1, N, .inr (.inl f)))) (j : Nat) (hi : i = nI j) (hj : j < N) (hN : N < 2147483648) (k : V K (hu h a (.inl ((Ko K).2.1 1, N, .inr (.inl (vp_updL f j x))))) cells slots Q n ls st) : V K h cells slots Q pc ls (.long x :: .int i :: .ref a :: st) := by
  subst hn
  intro H locs la hp hS hl
  obtain ⟨ws, hP, hD, hh⟩ := id hp
  obtain ⟨q0, hq⟩ := hh a _ ha
  refine va_last C.1.1 C.1.2.1 C.2.1 hP hD hS q0 1 hq rfl (xk_in hi hj hN) d (fun H1 locs1 hP1 hD1 hS1 => ?_)
  rw [xk_cl hi hj hN] at hP1 hD1
  exact k H1 locs1 la ⟨_, hP1, hD1, Hp.set hD hq hh⟩ hS1 hl
theorem r_ialen {a N : Nat} {f : Nat → Int32} (C : Cx K cc nL own rm ret nm) (d : decode cc pc = .ok (.arraylength, 1)) (hn : pc + 1 = n) (ha : h a = some (.inl ((Ko K).2.1 0, N, .inl f))) (k : V K h cells slots Q n ls (.int (nI N) :: st)) : V K h cells slots Q pc ls (.ref a :: st) := by
  subst hn
  intro H locs la hp hS hl
  obtain ⟨ws, hP, -, hh⟩ := id hp
  obtain ⟨q0, hq⟩ := hh a _ ha
  exact va_alen C.1.1 C.1.2.1 C.2.1 hP q0 0 hq rfl rfl d (k H locs la hp hS hl)
theorem r_lalen {a N : Nat} {f : Nat → Int64} (C : Cx K cc nL own rm ret nm) (d : decode cc pc = .ok (.arraylength, 1)) (hn : pc + 1 = n) (ha : h a = some (.inl ((Ko K).2.1 1, N, .inr (.inl f)))) (k : V K h cells slots Q n ls (.int (nI N) :: st)) : V K h cells slots Q pc ls (.ref a :: st) := by
  subst hn
  intro H locs la hp hS hl
  obtain ⟨ws, hP, -, hh⟩ := id hp
  obtain ⟨q0, hq⟩ := hh a _ ha
  exact va_alen C.1.1 C.1.2.1 C.2.1 hP q0 1 hq rfl rfl d (k H locs la hp hS hl)
theorem r_qalen {a N t0 : Nat} {cA : ClassId} {E : String} {f : Nat → Option Nat} (C : Cx K cc nL own rm ret nm) (d : decode cc pc = .ok (.arraylength, 1)) (hn : pc + 1 = n) (ha : h a = some (.inl (cA, N, .inr (.inr (.inr (.inr f)))))) (ht : (xk_tys (Ko K))[t0]? = some (cA, .object E)) (k : V K h cells slots Q n ls (.int (nI N) :: st)) : V K h cells slots Q pc ls (.ref a :: st) := by
  subst hn
  intro H locs la hp hS hl
  obtain ⟨ws, hP, -, hh⟩ := id hp
  obtain ⟨q0, hq⟩ := hh a _ ha
  exact va_alen C.1.1 C.1.2.1 C.2.1 hP q0 t0 hq ht rfl d (k H locs la hp hS hl)
theorem r_aald {i : Int32} {a N t0 v : Nat} {cA : ClassId} {E : String} {f : Nat → Option Nat} (C : Cx K cc nL own rm ret nm) (d : decode cc pc = .ok (.aaload, 1)) (hn : pc + 1 = n) (ha : h a = some (.inl (cA, N, .inr (.inr (.inr (.inr f)))))) (ht : (xk_tys (Ko K))[t0]? = some (cA, .object E)) (j : Nat) (hi : i = nI j) (hj : j < N) (hN : N < 2147483648) (hv : f j = some v) (k : V K h cells slots Q n ls (.ref v :: st)) : V K h cells slots Q pc ls (.int i :: .ref a :: st) := by
  subst hn
  intro H locs la hp hS hl
  obtain ⟨ws, hP, -, hh⟩ := id hp
  obtain ⟨q0, hq⟩ := hh a _ ha
  refine va_aldq C.1.1 C.1.2.1 C.2.1 hP q0 t0 hq ht (xk_in hi hj hN) d ?_
  rw [xk_cl hi hj hN, hv]
  exact k H locs la hp hS hl
theorem r_aast {i : Int32} {a N t0 ci v : Nat} {cA : ClassId} {r : vw_C} {vs : List Value} {f : Nat → Option Nat} (C : Cx K cc nL own rm ret nm) (d : decode cc pc = .ok (.aastore, 1)) (hn : pc + 1 = n) (ha : h a = some (.inl (cA, N, .inr (.inr (.inr (.inr f)))))) (hv : h v = some (.inr (ci, vs))) (hc : vwCl[ci]? = some r) (ht : (xk_tys (Ko K))[t0]? = some (cA, .object r.1)) (j : Nat) (hi : i = nI j) (hj : j < N) (hN : N < 2147483648) (k : V K (hu h a (.inl (cA, N, .inr (.inr (.inr (.inr (va_up f j (some v)))))))) cells slots Q n ls st) : V K h cells slots Q pc ls (.ref v :: .int i :: .ref a :: st) := by
  subst hn
  intro H locs la hp hS hl
  obtain ⟨ws, hP, hD, hh⟩ := id hp
  obtain ⟨q0, hq⟩ := hh a _ ha
  obtain ⟨q1, hq1⟩ := hh v _ hv
  refine va_astq C.1.1 C.1.2.1 C.2.1 hP hD hS q0 t0 q1 ci hq ht hq1 hc (xk_in hi hj hN) d (fun H1 locs1 hP1 hD1 hS1 => ?_)
  rw [xk_cl hi hj hN] at hP1 hD1
  exact k H1 locs1 la ⟨_, hP1, hD1, Hp.set hD hq hh⟩ hS1 hl
theorem r_newi {z : Int32} {N : Nat} (C : Cx K cc nL own rm ret nm) (hw : Cond.arrayClass (newarray.typeOf .int) ∈ tblG) (d : decode cc pc = .ok (.newarray .int, 2)) (hn : pc + 2 = n) (hz : z = nI N) (hN : N * componentBytes .int ≤ 536870912) (hN2 : N < 2147483648) (hcell : cells + 1 ≤ rm.cells) (hslot : slots + N ≤ rm.slots) (k : ∀ q : Nat, h q = none → V K (hu h q (.inl ((Ko K).2.1 0, N, .inl (fun _ => 0)))) (cells + 1) (slots + N) Q n ls (.ref q :: st)) : V K h cells slots Q pc ls (.int z :: st) := by
  subst hn
  intro H locs la hp hS hl
  obtain ⟨ws, hP, hD, hh⟩ := id hp
  have hR : KR K = rm := C.2.2.2.1
  refine va_newa (ty := .int) (a0 := (N, .inl (fun _ => 0))) C.1.1 C.1.2.1 (C.1.2.2.2.2 _ hw) rfl C.2.1 hP hD hS (fun q hq => Nat.le_trans C.2.2.1 hq) (fun cA => rfl) (by rw [hz]; exact nI_pos hN2) (by rw [hz]; exact nI_clamp hN2) hN (by rw [hR]; exact hcell) (by rw [hR]; exact hslot) d (fun q cA H1 hK1 hP1 hD1 hS1 => ?_)
  have e : cA = (Ko K).2.1 0 := by
    have h1 := (C.2.1.2 0 _ (show (xk_tys (Ko K))[0]? = some ((Ko K).2.1 0, .int) from rfl)).2
    have h2 := (hK1.2 (xk_tys (Ko K)).length (cA, .int) (by simp)).2
    exact Option.some.inj (h2.symm.trans h1)
  subst e
  exact k q (Hp.fresh hD1 hh) H1 locs la ⟨_, hP1, hD1, Hp.push hh⟩ hS1 hl
theorem r_newl {z : Int32} {N : Nat} (C : Cx K cc nL own rm ret nm) (hw : Cond.arrayClass (newarray.typeOf .long) ∈ tblG) (d : decode cc pc = .ok (.newarray .long, 2)) (hn : pc + 2 = n) (hz : z = nI N) (hN : N * componentBytes .long ≤ 536870912) (hN2 : N < 2147483648) (hcell : cells + 1 ≤ rm.cells) (hslot : slots + N ≤ rm.slots) (k : ∀ q : Nat, h q = none → V K (hu h q (.inl ((Ko K).2.1 1, N, .inr (.inl (fun _ => 0))))) (cells + 1) (slots + N) Q n ls (.ref q :: st)) : V K h cells slots Q pc ls (.int z :: st) := by
  subst hn
  intro H locs la hp hS hl
  obtain ⟨ws, hP, hD, hh⟩ := id hp
  have hR : KR K = rm := C.2.2.2.1
  refine va_newa (ty := .long) (a0 := (N, .inr (.inl (fun _ => 0)))) C.1.1 C.1.2.1 (C.1.2.2.2.2 _ hw) rfl C.2.1 hP hD hS (fun q hq => Nat.le_trans C.2.2.1 hq) (fun cA => rfl) (by rw [hz]; exact nI_pos hN2) (by rw [hz]; exact nI_clamp hN2) hN (by rw [hR]; exact hcell) (by rw [hR]; exact hslot) d (fun q cA H1 hK1 hP1 hD1 hS1 => ?_)
  have e : cA = (Ko K).2.1 1 := by
    have h1 := (C.2.1.2 1 _ (show (xk_tys (Ko K))[1]? = some ((Ko K).2.1 1, .long) from rfl)).2
    have h2 := (hK1.2 (xk_tys (Ko K)).length (cA, .long) (by simp)).2
    exact Option.some.inj (h2.symm.trans h1)
  subst e
  exact k q (Hp.fresh hD1 hh) H1 locs la ⟨_, hP1, hD1, Hp.push hh⟩ hS1 hl
theorem r_newq {z : Int32} {N t0 index : Nat} {E : String} {cA0 : ClassId} (C : Cx K cc nL own rm ret nm) (hcl : Cond.classLink own index E ∈ tblG) (hao : va_AO E (Ks K)) (ht : (xk_tys (Ko K))[t0]? = some (cA0, .object E)) (d : decode cc pc = .ok (.anewarray index, 3)) (hn : pc + 3 = n) (hz : z = nI N) (hN : N * 4 ≤ 536870912) (hcell : cells + 1 ≤ rm.cells) (hslot : slots + N ≤ rm.slots) (k : ∀ q : Nat, h q = none → V K (hu h q (.inl (cA0, N, .inr (.inr (.inr (.inr (fun _ => none))))))) (cells + 1) (slots + N) Q n ls (.ref q :: st)) : V K h cells slots Q pc ls (.int z :: st) := by
  subst hn
  intro H locs la hp hS hl
  obtain ⟨ws, hP, hD, hh⟩ := id hp
  have hR : KR K = rm := C.2.2.2.1
  have hN2 : N < 2147483648 := by omega
  refine va_newq C.1.1 C.1.2.1 C.1.2.2.2.1 (C.1.2.2.2.2 _ hcl) hao C.2.1 hP hD hS (fun q hq => Nat.le_trans C.2.2.1 hq) (by rw [hz]; exact nI_pos hN2) (by rw [hz]; exact nI_clamp hN2) hN (by rw [hR]; exact hcell) (by rw [hR]; exact hslot) d (fun q cA H1 hK1 hP1 hD1 hS1 => ?_)
  have e : cA = cA0 := by
    obtain ⟨_, _, _, _, _, h1⟩ := (C.2.1.2 t0 _ ht).2
    obtain ⟨_, _, _, _, _, h2⟩ := (hK1.2 (xk_tys (Ko K)).length (cA, .object E) (by simp)).2
    exact Option.some.inj (h2.symm.trans h1)
  subst e
  exact k q (Hp.fresh hD1 hh) H1 locs la ⟨_, hP1, hD1, Hp.push hh⟩ hS1 hl
theorem r_new {Cn : String} {T : u_T} {N ci index : Nat} {fs : List Value} (C : Cx K cc nL own rm ret nm) (hin : ∀ w ∈ u_ws Cn T N, w ∈ tblG) (ty : Nat → FieldType) (hty : ∀ k, k < N → parseFieldDescriptor (T k).2.2.1 = some (ty k)) (hcl : Cond.classLink own index Cn ∈ tblG) (hinst : Cond.instantiable Cn N ∈ tblG) (hini : Cond.initialized Cn ∈ tblG) (hc : vwCl[ci]? = some (Cn, T, N)) (hfs : ∀ j, j < N → defaultValue (ty j) = vp_V fs j) (d : decode cc pc = .ok (.new index, 3)) (hn : pc + 3 = n) (hcell : cells + 1 ≤ rm.cells) (hslot : slots + N ≤ rm.slots) (k : ∀ q : Nat, h q = none → V K (hu h q (.inr (ci, fs))) (cells + 1) (slots + N) Q n ls (.ref q :: st)) : V K h cells slots Q pc ls st := by
  subst hn
  intro H locs la hp hS hl
  obtain ⟨ws, hP, hD, hh⟩ := id hp
  have hR : KR K = rm := C.2.2.2.1
  have hts := C.1.2.2.2.2
  refine va_new C.1.1 C.1.2.1 hts hin ty hty C.1.2.2.2.1 (hts _ hcl) (hts _ hinst) (hts _ hini) C.2.1 hP hD hS (fun q hq => Nat.le_trans C.2.2.1 hq) hc hfs (by rw [hR]; exact hcell) (by rw [hR]; exact hslot) d (fun q H1 hP1 hD1 hS1 => ?_)
  exact k q (Hp.fresh hD1 hh) H1 locs la ⟨_, hP1, hD1, Hp.push hh⟩ hS1 hl
theorem r_objInit {idx a : Nat} (C : Cx K cc nL own rm ret nm) (hlk : Cond.methodLink own idx objectInit ∈ tblG) (hin : Cond.instanceMethod objectInit ∈ tblG) (hco : Cond.code objectInit ⟨#[0xb1]⟩ 1 none ∈ tblG) (d : decode cc pc = .ok (.invokespecial idx, 3)) (hn : pc + 3 = n) (hf : 1 ≤ rm.frames) (hl0 : (st.map fun v => v.category).sum + 12 ≤ rm.locals) (k : V K h cells slots Q n ls st) : V K h cells slots Q pc ls (.ref a :: st) := by
  subst hn
  intro H locs la hp hS hl
  have hR : KR K = rm := C.2.2.2.1
  have hts := C.1.2.2.2.2
  refine W.objInit C.1.1 C.1.2.1 C.1.2.2.2.1 (hts _ hlk) (hts _ hin) (hts _ hco) rfl (by rw [C.1.2.2.1]; exact hl.1) rfl d (by rw [hR]; exact hf) (by rw [hR]; simpa [JFrame.monitorRoom] using hl0) ?_
  exact k H locs la hp hS hl
theorem r_copyi {index a0 a n0 n1 : Nat} {f g : Nat → Int32} {sp dp z : Int32} (C : Cx K cc nL own rm ret nm) (hlk : Cond.methodLink own index arraycopyName ∈ tblG) (hnat : Cond.native arraycopyName ∈ tblG) (hstat : Cond.static arraycopyName ∈ tblG) (hini : Cond.initialized "java/lang/System" ∈ tblG) (d : decode cc pc = .ok (.invokestatic index, 3)) (hn : pc + 3 = n) (ha0 : h a0 = some (.inl ((Ko K).2.1 0, n0, .inl f))) (ha1 : h a = some (.inl ((Ko K).2.1 0, n1, .inl g))) (sp0 dp0 z0 : Nat) (h1 : sp = nI sp0) (h2 : dp = nI dp0) (h3 : z = nI z0) (h4 : sp0 + z0 ≤ n0) (h5 : dp0 + z0 ≤ n1) (hb0 : n0 < 2147483648) (hb1 : n1 < 2147483648) (hf : 1 ≤ rm.frames) (hlo : (st.map fun v => v.category).sum + (nativeFrameWords "java/lang/System" "arraycopy" 5 + 11) ≤ rm.locals) (k : V K (hu h a (.inl ((Ko K).2.1 0, n1, .inl (va_cpy f g sp0 dp0 z0)))) cells slots Q n ls st) : V K h cells slots Q pc ls (.int z :: .int dp :: .ref a :: .int sp :: .ref a0 :: st) := by
  subst hn; subst h1; subst h2; subst h3
  intro H locs la hp hS hl
  obtain ⟨ws, hP, hD, hh⟩ := id hp
  obtain ⟨q0, hq0⟩ := hh a0 _ ha0
  obtain ⟨q1, hq1⟩ := hh a _ ha1
  have hR : KR K = rm := C.2.2.2.1
  have hts := C.1.2.2.2.2
  have e1 : (nI sp0).toNatClampNeg = sp0 := nI_clamp (by omega)
  have e2 : (nI dp0).toNatClampNeg = dp0 := nI_clamp (by omega)
  have e3 : (nI z0).toNatClampNeg = z0 := nI_clamp (by omega)
  refine va_copyi C.1.1 C.1.2.1 (C.1.2.2.1.trans hl.1.symm) C.1.2.2.2.1 (hts _ hlk) (hts _ hnat) (hts _ hstat) (hts _ hini) C.2.1 hP hD hS q0 q1 0 0 hq0 hq1 rfl rfl rfl (nI_pos (by omega)) (nI_pos (by omega)) (nI_pos (by omega)) (by rw [e1, e3]; exact h4) (by rw [e2, e3]; exact h5) (fun i _ => rfl) (by rw [hR]; exact hf) (by rw [hR]; exact hlo) d (fun H1 locs1 hP1 hD1 hS1 => ?_)
  rw [e1, e2, e3] at hP1 hD1
  exact k H1 locs1 la ⟨_, hP1, hD1, Hp.set hD hq1 hh⟩ hS1 hl
theorem r_copyl {index a0 a n0 n1 : Nat} {f g : Nat → Int64} {sp dp z : Int32} (C : Cx K cc nL own rm ret nm) (hlk : Cond.methodLink own index arraycopyName ∈ tblG) (hnat : Cond.native arraycopyName ∈ tblG) (hstat : Cond.static arraycopyName ∈ tblG) (hini : Cond.initialized "java/lang/System" ∈ tblG) (d : decode cc pc = .ok (.invokestatic index, 3)) (hn : pc + 3 = n) (ha0 : h a0 = some (.inl ((Ko K).2.1 1, n0, .inr (.inl f)))) (ha1 : h a = some (.inl ((Ko K).2.1 1, n1, .inr (.inl g)))) (sp0 dp0 z0 : Nat) (h1 : sp = nI sp0) (h2 : dp = nI dp0) (h3 : z = nI z0) (h4 : sp0 + z0 ≤ n0) (h5 : dp0 + z0 ≤ n1) (hb0 : n0 < 2147483648) (hb1 : n1 < 2147483648) (hf : 1 ≤ rm.frames) (hlo : (st.map fun v => v.category).sum + (nativeFrameWords "java/lang/System" "arraycopy" 5 + 11) ≤ rm.locals) (k : V K (hu h a (.inl ((Ko K).2.1 1, n1, .inr (.inl (va_cpy f g sp0 dp0 z0))))) cells slots Q n ls st) : V K h cells slots Q pc ls (.int z :: .int dp :: .ref a :: .int sp :: .ref a0 :: st) := by
  subst hn; subst h1; subst h2; subst h3
  intro H locs la hp hS hl
  obtain ⟨ws, hP, hD, hh⟩ := id hp
  obtain ⟨q0, hq0⟩ := hh a0 _ ha0
  obtain ⟨q1, hq1⟩ := hh a _ ha1
  have hR : KR K = rm := C.2.2.2.1
  have hts := C.1.2.2.2.2
  have e1 : (nI sp0).toNatClampNeg = sp0 := nI_clamp (by omega)
  have e2 : (nI dp0).toNatClampNeg = dp0 := nI_clamp (by omega)
  have e3 : (nI z0).toNatClampNeg = z0 := nI_clamp (by omega)
  refine va_copyl C.1.1 C.1.2.1 (C.1.2.2.1.trans hl.1.symm) C.1.2.2.2.1 (hts _ hlk) (hts _ hnat) (hts _ hstat) (hts _ hini) C.2.1 hP hD hS q0 q1 1 1 hq0 hq1 rfl rfl rfl (nI_pos (by omega)) (nI_pos (by omega)) (nI_pos (by omega)) (by rw [e1, e3]; exact h4) (by rw [e2, e3]; exact h5) (fun i _ => rfl) (by rw [hR]; exact hf) (by rw [hR]; exact hlo) d (fun H1 locs1 hP1 hD1 hS1 => ?_)
  rw [e1, e2, e3] at hP1 hD1
  exact k H1 locs1 la ⟨_, hP1, hD1, Hp.set hD hq1 hh⟩ hS1 hl
theorem r_mmax {index : Nat} {x y : Int32} (C : Cx K cc nL own rm ret nm) (hlk : Cond.methodLink own index Lib.Math.max.name ∈ tblG) (hstat : Cond.static Lib.Math.max.name ∈ tblG) (hini : Cond.initialized "java/lang/Math" ∈ tblG) (hco : Cond.code Lib.Math.max.name Lib.Math.max.code 2 (some .int) ∈ tblG) (hf : 1 ≤ rm.frames) (hlo : (st.map fun v => v.category).sum + 13 ≤ rm.locals) (hc : cells ≤ rm.cells) (hs : slots ≤ rm.slots) (d : decode cc pc = .ok (.invokestatic index, 3)) (hn : pc + 3 = n) (k : V K h cells slots Q n ls (.int (if x < y then y else x) :: st)) : V K h cells slots Q pc ls (.int y :: .int x :: st) := by
  subst hn
  intro H locs la hp hS hl
  have hR : KR K = rm := C.2.2.2.1
  have hts := C.1.2.2.2.2
  exact va_mmax C.1.1 C.1.2.1 (C.1.2.2.1.trans hl.1.symm) C.1.2.2.2.1 (hts _ hlk) (hts _ hstat) (hts _ hini) (hts _ hco) (by rw [hR]; exact hf) (by rw [hR]; exact hlo) (by rw [hR]; exact hc) (by rw [hR]; exact hs) d (k H locs la hp hS hl)
theorem r_mmin {index : Nat} {x y : Int32} (C : Cx K cc nL own rm ret nm) (hlk : Cond.methodLink own index Lib.Math.min.name ∈ tblG) (hstat : Cond.static Lib.Math.min.name ∈ tblG) (hini : Cond.initialized "java/lang/Math" ∈ tblG) (hco : Cond.code Lib.Math.min.name Lib.Math.min.code 2 (some .int) ∈ tblG) (hf : 1 ≤ rm.frames) (hlo : (st.map fun v => v.category).sum + 13 ≤ rm.locals) (hc : cells ≤ rm.cells) (hs : slots ≤ rm.slots) (d : decode cc pc = .ok (.invokestatic index, 3)) (hn : pc + 3 = n) (k : V K h cells slots Q n ls (.int (if y < x then y else x) :: st)) : V K h cells slots Q pc ls (.int y :: .int x :: st) := by
  subst hn
  intro H locs la hp hS hl
  have hR : KR K = rm := C.2.2.2.1
  have hts := C.1.2.2.2.2
  exact va_mmin C.1.1 C.1.2.1 (C.1.2.2.1.trans hl.1.symm) C.1.2.2.2.1 (hts _ hlk) (hts _ hstat) (hts _ hini) (hts _ hco) (by rw [hR]; exact hf) (by rw [hR]; exact hlo) (by rw [hR]; exact hc) (by rw [hR]; exact hs) d (k H locs la hp hS hl)
theorem r_iret {v : Int32} {post : Int32 → AH → Prop} {mc ms : Nat} (C : Cx K cc nL own rm (some .int) nm) (d : decode cc pc = .ok (.ireturn, 1)) (hc : cells ≤ mc) (hs : slots ≤ ms) (hq : post v h) : V K h cells slots (EndQ K (QI (Ko K) post) mc ms) pc ls [.int v] := fun H locs la hp hS hl =>
  W.widen hc hs (W.iret C.1.1 C.1.2.1 C.2.2.2.2.1 (fun t ht _ => ⟨⟨v, h, rfl, hq, by show Hp _ _ t.heap; rw [ht]; exact hp⟩, hS.F ht⟩) hS.2.2 d C.2.2.2.2.2.1)
theorem r_lret {v : Int64} {post : Int64 → AH → Prop} {mc ms : Nat} (C : Cx K cc nL own rm (some .long) nm) (d : decode cc pc = .ok (.lreturn, 1)) (hc : cells ≤ mc) (hs : slots ≤ ms) (hq : post v h) : V K h cells slots (EndQ K (QL (Ko K) post) mc ms) pc ls [.long v] := fun H locs la hp hS hl =>
  W.widen hc hs (W.lret C.1.1 C.1.2.1 C.2.2.2.2.1 (fun t ht _ => ⟨⟨v, h, rfl, hq, by show Hp _ _ t.heap; rw [ht]; exact hp⟩, hS.F ht⟩) hS.2.2 d C.2.2.2.2.2.1)
theorem r_dret {v : UInt64} {post : UInt64 → AH → Prop} {mc ms : Nat} (C : Cx K cc nL own rm (some .double) nm) (d : decode cc pc = .ok (.dreturn, 1)) (hc : cells ≤ mc) (hs : slots ≤ ms) (hq : post v h) : V K h cells slots (EndQ K (QD (Ko K) post) mc ms) pc ls [.double v] := fun H locs la hp hS hl =>
  W.widen hc hs (W.dret C.1.1 C.1.2.1 C.2.2.2.2.1 (fun t ht _ => ⟨⟨v, h, rfl, hq, by show Hp _ _ t.heap; rw [ht]; exact hp⟩, hS.F ht⟩) hS.2.2 d C.2.2.2.2.2.1)
theorem r_zret {v : Int32} {post : Int32 → AH → Prop} {mc ms : Nat} (C : Cx K cc nL own rm (some .boolean) nm) (d : decode cc pc = .ok (.ireturn, 1)) (hv : narrow .boolean (.int v) = .int v) (hc : cells ≤ mc) (hs : slots ≤ ms) (hq : post v h) : V K h cells slots (EndQ K (QI (Ko K) post) mc ms) pc ls [.int v] := fun H locs la hp hS hl =>
  W.widen hc hs (W.zret C.1.1 C.1.2.1 C.2.2.2.2.1 hv (fun t ht _ => ⟨⟨v, h, rfl, hq, by show Hp _ _ t.heap; rw [ht]; exact hp⟩, hS.F ht⟩) hS.2.2 d C.2.2.2.2.2.1)
theorem r_vret {post : AH → Prop} {mc ms : Nat} (C : Cx K cc nL own rm none nm) (d : decode cc pc = .ok (.return_, 1)) (hc : cells ≤ mc) (hs : slots ≤ ms) (hq : post h) : V K h cells slots (EndQ K (QV (Ko K) post) mc ms) pc ls [] := fun H locs la hp hS hl =>
  W.widen hc hs (W.vret C.1.1 C.1.2.1 C.2.2.2.2.1 (fun t ht _ => ⟨⟨h, rfl, hq, by show Hp _ _ t.heap; rw [ht]; exact hp⟩, hS.F ht⟩) hS.2.2 d C.2.2.2.2.2.1)
theorem r_aret {v : Nat} {rt : FieldType} {post : AH × Nat → Prop} {mc ms : Nat} (C : Cx K cc nL own rm (some rt) nm) (hrt : (∃ n, rt = .object n) ∨ ∃ t, rt = .array t) (d : decode cc pc = .ok (.areturn, 1)) (hc : cells ≤ mc) (hs : slots ≤ ms) (hq : post (h, v)) : V K h cells slots (EndQ K (QR (Ko K) post) mc ms) pc ls [.ref v] := fun H locs la hp hS hl =>
  W.widen hc hs (W.aret C.1.1 C.1.2.1 C.2.2.2.2.1 hrt (Or.inr ⟨v, rfl⟩) (fun t ht _ => ⟨⟨(h, v), v, rfl, hq, rfl, by show Hp _ _ t.heap; rw [ht]; exact hp⟩, hS.F ht⟩) hS.2.2 d C.2.2.2.2.2.1)
def Rn (K : Kx) (h : AH) (cells slots mc ms pc : Nat) (ls : List (Nat × Value)) (st0 rest : List Value) (Qa : State → Outcome → State → Prop) : Prop :=
  ∀ (H : Heap) (locs : List Loc) (la : Array Slot), Hp (Ko K) h H → va_S (fr (Ko K)) (Ks K).heap H locs → lv_has la (Kn K) ls →
    va_Run (Kp K) (Kl K) (Ke K) (KR K) (Ks K) (Km K) (Ka K) (Kb K) (Kme K) (Kc K) H locs cells slots mc ms (F0 (Km K) pc la st0) rest Qa (fr (Ko K))
def Rn5 (K : Kx) (h : AH) (cells slots mc ms pc : Nat) (ls : List (Nat × Value)) (st0 rest : List Value) (Qa : State → Outcome → State → Prop) : Prop :=
  ∀ (H : Heap) (locs : List Loc) (la : Array Slot), Hp (Ko K) h H → va_S (fr (Ko K)) (Ks K).heap H locs → lv_has la (Kn K) ls →
    va_Run5 (Kp K) (Kl K) (Ke K) (KR K) (Ks K) (Km K) (Ka K) (Kb K) (Kme K) (Kc K) H locs cells slots mc ms (F0 (Km K) pc la st0) rest Qa (fr (Ko K))
theorem PB.blind {o : Om} {avs : List Value} : FrameBlind (va_Pc avs (PB o h)) := fun a U g mk q => by
  obtain ⟨q0, q1, q2, q3, q4⟩ := q
  exact ⟨q0, q1, va_K.moved (u := U) (U := U.calling g mk a) (Vm.Alike.refl U.vm) q2, q3, XN.moved (s := U) (U := U.calling g mk a) (State.WarmedH.refl U) q4⟩
theorem Cx.pre (C : Cx K cc nL own rm ret nm) {H : Heap} {locs : List Loc} (hp : Hp (Ko K) h H) (hS : va_S (fr (Ko K)) (Ks K).heap H locs) (avs : List Value) : ∀ U : State, U.heap = H → (Ks K).WarmedH U.vm → va_Pc avs (PB (Ko K) h) avs.toArray U := fun U hU hW =>
  ⟨rfl, by rw [hU]; exact hp, va_K.moved hW.alike C.2.1, by rw [hU]; exact Nat.le_trans C.2.2.1 hS.1, XN.moved hW C.2.2.2.2.2.2.2.2⟩
theorem Cx.recv (C : Cx K cc nL own rm ret nm) {H : Heap} {b ci : Nat} {fs : List Value} {q : vw_C} (hp : Hp (Ko K) h H) (hb : h b = some (.inr (ci, fs))) (hc : vwCl[ci]? = some q) : ∃ cell : Cell, H[b]? = some cell ∧ cell.vm.isStatics = false ∧ (Ks K).vm.findClass q.1 = some cell.cls := by
  obtain ⟨ws, hP, -, hh⟩ := hp
  obtain ⟨q0, hq⟩ := hh b _ hb
  exact va_recv C.2.1 hP hc hq
section CALL
variable {y : MethodName} {rmc : Room} {Qc : Array Value → State → Outcome → State → Prop} {mc ms z index maxL ci b N : Nat} {As rest st0 : List Value} {bytes : ByteArray} {rt : Option FieldType} {Cn host : String} {fs : List Value} {T : u_T}
theorem rn_V (C : Cx K cc nL own rm ret nm) (hM : Mt (Kl K) (Ko K) y bytes maxL rt rmc (.ref b :: As) h Qc mc ms) (hlk : Cond.methodLink own index y ∈ tblG) (hinm : Cond.instanceMethod y ∈ tblG) (hsel : Cond.selects Cn y y ∈ tblG) (hini : Cond.initialized Cn ∈ tblG) (hco : Cond.code y bytes maxL rt ∈ tblG) (hrc : rmc.cells = mc) (hrs : rmc.slots = ms) (hd : y.cls = Cn ∧ y.cls ≠ "java/lang/invoke/MethodHandle" ∧ y.cls ≠ "java/lang/invoke/VarHandle" ∧ (parseMethodDescriptor y.desc).map (fun d => d.parameters.length) = some z) (hR : rmc.frames + 1 ≤ rm.frames ∧ 8 + (maxL + 11) + rmc.locals ≤ rm.locals) (hb : h b = some (.inr (ci, fs))) (hc : vwCl[ci]? = some (Cn, T, N)) (hz : As.length = z) (hst : st0 = As.reverse ++ .ref b :: rest) (hro : (rest.map fun v => v.category).sum ≤ 8) (d : decode cc pc = .ok (.invokevirtual index, 3)) (hf : cells + mc ≤ rm.cells ∧ slots + ms ≤ rm.slots) : Rn K h cells slots mc ms pc ls st0 rest (Qc (Value.ref b :: As).toArray) := by
  intro H locs la hp hS hl
  have hR0 : KR K = rm := C.2.2.2.1
  have hts := C.1.2.2.2.2
  exact va_runV C.1 hM (cwV z hts (good_of (mem4 hlk hinm hsel hini (good_code hco))) rfl hrc hrs hd (by rw [hR0]; exact hR)) ⟨PB.blind, C.recv hp hb hc, C.pre hp hS _⟩ rfl hz hl.1 hst (lv_room hro) d (by rw [hR0]; exact hf)
theorem rn_S (C : Cx K cc nL own rm ret nm) (hM : Mt (Kl K) (Ko K) y bytes maxL rt rmc (As) h Qc mc ms) (hlk : Cond.methodLink own index y ∈ tblG) (hstm : Cond.static y ∈ tblG) (hini : Cond.initialized y.cls ∈ tblG) (hco : Cond.code y bytes maxL rt ∈ tblG) (hrc : rmc.cells = mc) (hrs : rmc.slots = ms) (hd : y.cls ≠ "java/lang/invoke/MethodHandle" ∧ y.cls ≠ "java/lang/invoke/VarHandle" ∧ (parseMethodDescriptor y.desc).map (fun d => d.parameters.length) = some z) (hR : rmc.frames + 1 ≤ rm.frames ∧ 8 + (maxL + 11) + rmc.locals ≤ rm.locals)  (hz : As.length = z) (hst : st0 = As.reverse ++ rest) (hro : (rest.map fun v => v.category).sum ≤ 8) (d : decode cc pc = .ok (.invokestatic index, 3)) (hf : cells + mc ≤ rm.cells ∧ slots + ms ≤ rm.slots) : Rn K h cells slots mc ms pc ls st0 rest (Qc (As).toArray) := by
  intro H locs la hp hS hl
  have hR0 : KR K = rm := C.2.2.2.1
  have hts := C.1.2.2.2.2
  exact va_runS C.1 hM (va_cwS z hts (good_of (mem3 hlk hstm hini (good_code hco))) rfl hrc hrs hd (by rw [hR0]; exact hR)) ⟨PB.blind, C.pre hp hS _⟩ rfl hz hl.1 hst (lv_room hro) d (by rw [hR0]; exact hf)
theorem rn_I (C : Cx K cc nL own rm ret nm) (hM : Mt (Kl K) (Ko K) y bytes maxL none rmc (.ref b :: As) h Qc mc ms) (hlk : Cond.methodLink own index y ∈ tblG) (hinm : Cond.instanceMethod y ∈ tblG) (hini : Cond.initialized y.cls ∈ tblG) (hnm : y.name = "<init>") (hco : Cond.code y bytes maxL none ∈ tblG) (hrc : rmc.cells = mc) (hrs : rmc.slots = ms) (hd : y.cls ≠ "java/lang/invoke/MethodHandle" ∧ y.cls ≠ "java/lang/invoke/VarHandle" ∧ (parseMethodDescriptor y.desc).map (fun d => d.parameters.length) = some z) (hR : rmc.frames + 1 ≤ rm.frames ∧ 8 + (maxL + 11) + rmc.locals ≤ rm.locals)  (hz : As.length = z) (hst : st0 = As.reverse ++ .ref b :: rest) (hro : (rest.map fun v => v.category).sum ≤ 8) (d : decode cc pc = .ok (.invokespecial index, 3)) (hf : cells + mc ≤ rm.cells ∧ slots + ms ≤ rm.slots) : Rn K h cells slots mc ms pc ls st0 rest (Qc (Value.ref b :: As).toArray) := by
  intro H locs la hp hS hl
  have hR0 : KR K = rm := C.2.2.2.1
  have hts := C.1.2.2.2.2
  exact va_runI C.1 hM (cwI z hts (good_of (good_code hco)) rfl hrc hrs (hts _ hini) (hts _ hlk) (hts _ hinm) hnm hd (by rw [hR0]; exact hR)) ⟨PB.blind, C.pre hp hS _⟩ rfl hz hl.1 hst (lv_room hro) d (by rw [hR0]; exact hf)
theorem rn_IN (C : Cx K cc nL own rm ret nm) (hM : Mt (Kl K) (Ko K) y bytes maxL none rmc (.ref b :: As) h Qc mc ms) (hlk : (index, y) ∈ nestL) (ho : own = "DeltaViews") (hinm : Cond.instanceMethod y ∈ tblG) (hini : Cond.initialized y.cls ∈ tblG) (hnm : y.name = "<init>") (hco : Cond.code y bytes maxL none ∈ tblG) (hrc : rmc.cells = mc) (hrs : rmc.slots = ms) (hd : y.cls ≠ "java/lang/invoke/MethodHandle" ∧ y.cls ≠ "java/lang/invoke/VarHandle" ∧ (parseMethodDescriptor y.desc).map (fun d => d.parameters.length) = some z) (hR : rmc.frames + 1 ≤ rm.frames ∧ 8 + (maxL + 11) + rmc.locals ≤ rm.locals)  (hz : As.length = z) (hst : st0 = As.reverse ++ .ref b :: rest) (hro : (rest.map fun v => v.category).sum ≤ 8) (d : decode cc pc = .ok (.invokespecial index, 3)) (hf : cells + mc ≤ rm.cells ∧ slots + ms ≤ rm.slots) : Rn K h cells slots mc ms pc ls st0 rest (Qc (Value.ref b :: As).toArray) := by
  intro H locs la hp hS hl
  have hR0 : KR K = rm := C.2.2.2.1
  have hts := C.1.2.2.2.2
  exact va_runIN C.1 hM ⟨va_cnB z hts (good_of (good_code hco)) rfl hrc hrs (by rw [ho]; exact C.2.2.2.2.2.2.2.2.2.2.1 _ hlk) (hts _ hini) hd (by rw [hR0]; exact hR), hnm, hts _ hinm⟩ ⟨PB.blind, C.pre hp hS _⟩ rfl hz hl.1 hst (lv_room hro) d (by rw [hR0]; exact hf)
theorem rn_F {count : Nat} (C : Cx K cc nL own rm ret nm) (hM : Mt (Kl K) (Ko K) y bytes maxL rt rmc (.ref b :: As) h Qc mc ms) (hlk : Cond.methodLink own index yRU_fill ∈ tblG) (hsel : Cond.selects Cn yRU_fill y ∈ tblG) (hinm : Cond.instanceMethod y ∈ tblG) (hini : Cond.initialized y.cls ∈ tblG) (hco : Cond.code y bytes maxL rt ∈ tblG) (hrc : rmc.cells = mc) (hrs : rmc.slots = ms) (f1 : (Cn, y) ∈ faceL) (hd : yRU_fill.cls ≠ "java/lang/invoke/MethodHandle" ∧ yRU_fill.cls ≠ "java/lang/invoke/VarHandle" ∧ (parseMethodDescriptor yRU_fill.desc).map (fun d => d.parameters.length) = some z) (hR : rmc.frames + 1 ≤ rm.frames ∧ 8 + (maxL + 11) + rmc.locals ≤ rm.locals) (hb : h b = some (.inr (ci, fs))) (hc : vwCl[ci]? = some (Cn, T, N)) (hz : As.length = z) (hst : st0 = As.reverse ++ .ref b :: rest) (hro : (rest.map fun v => v.category).sum ≤ 8) (d : decode cc pc = .ok (.invokeinterface index count, 5)) (hf : cells + mc ≤ rm.cells ∧ slots + ms ≤ rm.slots) : Rn5 K h cells slots mc ms pc ls st0 rest (Qc (Value.ref b :: As).toArray) := by
  intro H locs la hp hS hl
  have hR0 : KR K = rm := C.2.2.2.1
  have hts := C.1.2.2.2.2
  exact va_runF (C.2.1.1 ci _ hc).2 C.1 hM (va_cwF z hts (good_of (mem4 hlk hsel hinm hini (good_code hco))) rfl hrc hrs (C.2.2.2.2.2.2.2.2.2.2.2 (Cn, y) f1) hd (by rw [hR0]; exact hR)) ⟨PB.blind, C.recv hp hb hc, C.pre hp hS _⟩ rfl hz hl.1 hst (lv_room hro) d (by rw [hR0]; exact hf)
theorem r_ci {post : Int32 → AH → Prop} {a : Array Value} (hr : Rn K h cells slots mc ms pc ls st0 rest (QI (Ko K) post a)) (hn : pc + 3 = n) (k : ∀ (r : Int32) (h' : AH), post r h' → V K h' (cells + mc) (slots + ms) Q n ls (.int r :: rest)) : V K h cells slots Q pc ls st0 := by
  subst hn
  exact fun H locs la hp hS hl => va_calli (hr H locs la hp hS hl) hS (fun _ _ hq => hq) (fun _ hq => hq) (fun r h' t H1 locs1 ht _ hq hB _ _ hS1 => k r h' hq H1 locs1 la (by rw [← ht]; exact hB) hS1 hl)
theorem r_cl {post : Int64 → AH → Prop} {a : Array Value} (hr : Rn K h cells slots mc ms pc ls st0 rest (QL (Ko K) post a)) (hn : pc + 3 = n) (k : ∀ (r : Int64) (h' : AH), post r h' → V K h' (cells + mc) (slots + ms) Q n ls (.long r :: rest)) : V K h cells slots Q pc ls st0 := by
  subst hn
  exact fun H locs la hp hS hl => va_calll (hr H locs la hp hS hl) hS (fun _ _ hq => hq) (fun _ hq => hq) (fun r h' t H1 locs1 ht _ hq hB _ _ hS1 => k r h' hq H1 locs1 la (by rw [← ht]; exact hB) hS1 hl)
theorem r_cd {post : UInt64 → AH → Prop} {a : Array Value} (hr : Rn K h cells slots mc ms pc ls st0 rest (QD (Ko K) post a)) (hn : pc + 3 = n) (k : ∀ (r : UInt64) (h' : AH), post r h' → V K h' (cells + mc) (slots + ms) Q n ls (.double r :: rest)) : V K h cells slots Q pc ls st0 := by
  subst hn
  exact fun H locs la hp hS hl => va_calld (hr H locs la hp hS hl) hS (fun _ _ hq => hq) (fun _ hq => hq) (fun r h' t H1 locs1 ht _ hq hB _ _ hS1 => k r h' hq H1 locs1 la (by rw [← ht]; exact hB) hS1 hl)
theorem r_cv {post : AH → Prop} {a : Array Value} (hr : Rn K h cells slots mc ms pc ls st0 rest (QV (Ko K) post a)) (hn : pc + 3 = n) (k : ∀ (h' : AH), post h' → V K h' (cells + mc) (slots + ms) Q n ls rest) : V K h cells slots Q pc ls st0 := by
  subst hn
  exact fun H locs la hp hS hl => va_callv (hr H locs la hp hS hl) hS (fun _ _ hq => hq) (fun _ hq => hq) (fun h' t H1 locs1 ht _ hq hB _ _ hS1 => k h' hq H1 locs1 la (by rw [← ht]; exact hB) hS1 hl)
theorem r_cFi {post : Int32 → AH → Prop} {a : Array Value} (hr : Rn5 K h cells slots mc ms pc ls st0 rest (QI (Ko K) post a)) (hn : pc + 5 = n) (k : ∀ (r : Int32) (h' : AH), post r h' → V K h' (cells + mc) (slots + ms) Q n ls (.int r :: rest)) : V K h cells slots Q pc ls st0 := by
  subst hn
  exact fun H locs la hp hS hl => va_callFi (hr H locs la hp hS hl) hS (fun _ _ hq => hq) (fun _ hq => hq) (fun r h' t H1 locs1 ht _ hq hB _ _ hS1 => k r h' hq H1 locs1 la (by rw [← ht]; exact hB) hS1 hl)
theorem r_cFl {post : Int64 → AH → Prop} {a : Array Value} (hr : Rn5 K h cells slots mc ms pc ls st0 rest (QL (Ko K) post a)) (hn : pc + 5 = n) (k : ∀ (r : Int64) (h' : AH), post r h' → V K h' (cells + mc) (slots + ms) Q n ls (.long r :: rest)) : V K h cells slots Q pc ls st0 := by
  subst hn
  exact fun H locs la hp hS hl => va_callFl (hr H locs la hp hS hl) hS (fun _ _ hq => hq) (fun _ hq => hq) (fun r h' t H1 locs1 ht _ hq hB _ _ hS1 => k r h' hq H1 locs1 la (by rw [← ht]; exact hB) hS1 hl)
theorem r_cFd {post : UInt64 → AH → Prop} {a : Array Value} (hr : Rn5 K h cells slots mc ms pc ls st0 rest (QD (Ko K) post a)) (hn : pc + 5 = n) (k : ∀ (r : UInt64) (h' : AH), post r h' → V K h' (cells + mc) (slots + ms) Q n ls (.double r :: rest)) : V K h cells slots Q pc ls st0 := by
  subst hn
  exact fun H locs la hp hS hl => va_callFd (hr H locs la hp hS hl) hS (fun _ _ hq => hq) (fun _ hq => hq) (fun r h' t H1 locs1 ht _ hq hB _ _ hS1 => k r h' hq H1 locs1 la (by rw [← ht]; exact hB) hS1 hl)
theorem r_cFv {post : AH → Prop} {a : Array Value} (hr : Rn5 K h cells slots mc ms pc ls st0 rest (QV (Ko K) post a)) (hn : pc + 5 = n) (k : ∀ (h' : AH), post h' → V K h' (cells + mc) (slots + ms) Q n ls rest) : V K h cells slots Q pc ls st0 := by
  subst hn
  exact fun H locs la hp hS hl => va_callFv (hr H locs la hp hS hl) hS (fun _ _ hq => hq) (fun _ hq => hq) (fun h' t H1 locs1 ht _ hq hB _ _ hS1 => k h' hq H1 locs1 la (by rw [← ht]; exact hB) hS1 hl)
theorem r_cr {post : AH × Nat → Prop} {a : Array Value} (hr : Rn K h cells slots mc ms pc ls st0 rest (QR (Ko K) post a)) (hn : pc + 3 = n) (k : ∀ (h' : AH) (v : Nat), post (h', v) → V K h' (cells + mc) (slots + ms) Q n ls (.ref v :: rest)) : V K h cells slots Q pc ls st0 := by
  subst hn
  exact fun H locs la hp hS hl => va_callr (hr H locs la hp hS hl) hS (fun _ _ hq => hq) (fun _ hq => hq) (fun u v t H1 locs1 ht _ hq hB _ _ hS1 => by
    obtain ⟨h', v'⟩ := u
    obtain ⟨e1, e2⟩ := hB
    have e1 : v' = v := e1
    subst e1
    exact k h' v' hq H1 locs1 la (by rw [← ht]; exact e2) hS1 hl)
end CALL
end XK

