/-! THE LAYER: one judgement ze_V over a world of numbered cells. Cell k lies at address ad k and holds E k; a store changes E at one number. The static facts of a method are ze_C, its end is ze_Rt, a contract is ze_M. -/
def ze_w (n : Nat) (ad : Nat → Nat) (E : Nat → va_E) : va_W := (List.range n).map (fun k => (ad k, E k))
theorem ze_w_get {n : Nat} {ad : Nat → Nat} {E : Nat → va_E} {k : Nat} (h : k < n) : (ze_w n ad E)[k]? = some (ad k, E k) := by
  simp [ze_w, h]
theorem ze_w_eq {n : Nat} {ad : Nat → Nat} {E : Nat → va_E} {k : Nat} {e : va_E} (h : k < n) (he : E k = e) : (ze_w n ad E)[k]? = some (ad k, e) := by
  rw [ze_w_get h, he]
theorem ze_w_inv {n : Nat} {ad : Nat → Nat} {E : Nat → va_E} {k : Nat} {q : Nat × va_E} (h : (ze_w n ad E)[k]? = some q) : k < n ∧ q = (ad k, E k) := by
  by_cases hk : k < n
  · rw [ze_w_get hk] at h
    exact ⟨hk, (Option.some.inj h).symm⟩
  · simp [ze_w, hk] at h
theorem ze_w_set {n : Nat} {ad : Nat → Nat} {E : Nat → va_E} {k : Nat} {e : va_E} (h : k < n) : (ze_w n ad E).set k (ad k, e) = ze_w n ad (va_up E k e) := by
  apply List.ext_getElem?
  intro j
  by_cases hj : j = k
  · subst hj
    rw [List.getElem?_set_self (by simp [ze_w, h]), ze_w_get h, va_up_self]
  · rw [List.getElem?_set_ne (Ne.symm hj)]
    by_cases hn : j < n
    · rw [ze_w_get hn, ze_w_get hn, va_up_ne _ _ hj]
    · simp [ze_w, hn]
theorem ze_w_push {n : Nat} {ad : Nat → Nat} {E : Nat → va_E} {q : Nat} {e : va_E} : ze_w n ad E ++ [(q, e)] = ze_w (n + 1) (va_up ad n q) (va_up E n e) := by
  unfold ze_w
  rw [List.range_succ, List.map_append]
  congr 1
  · apply List.map_congr_left
    intro k hk
    have hk := List.mem_range.mp hk
    rw [va_up_ne _ _ (by omega), va_up_ne _ _ (by omega)]
  · simp [va_up]
/-- the world's cells, and those that come from sz on -/
def ze_Af (n : Nat) (ad : Nat → Nat) (sz : Nat) : Nat → Prop := fun q => (∃ k, k < n ∧ q = ad k) ∨ sz ≤ q
abbrev ze_ty (ids : Nat → ClassId) : List (ClassId × FieldType) := [(ids 0, .int), (ids 1, .boolean), (ids 2, .object ze_RT)]
abbrev ze_G : Type := Program × Launch × Env × Room × State × MethodId × Array Value × List Frame × Method × Code × (State → Prop) × Nat × va_G × (Nat → ClassId) × (Nat → Prop)
abbrev ze_p (G : ze_G) : Program := G.1
abbrev ze_l (G : ze_G) : Launch := G.2.1
abbrev ze_e (G : ze_G) : Env := G.2.2.1
abbrev ze_R (G : ze_G) : Room := G.2.2.2.1
abbrev ze_s (G : ze_G) : State := G.2.2.2.2.1
abbrev ze_m (G : ze_G) : MethodId := G.2.2.2.2.2.1
abbrev ze_a (G : ze_G) : Array Value := G.2.2.2.2.2.2.1
abbrev ze_b (G : ze_G) : List Frame := G.2.2.2.2.2.2.2.1
abbrev ze_me (G : ze_G) : Method := G.2.2.2.2.2.2.2.2.1
abbrev ze_c (G : ze_G) : Code := G.2.2.2.2.2.2.2.2.2.1
abbrev ze_Q (G : ze_G) : State → Prop := G.2.2.2.2.2.2.2.2.2.2.1
abbrev ze_nL (G : ze_G) : Nat := G.2.2.2.2.2.2.2.2.2.2.2.1
abbrev ze_D (G : ze_G) : va_G := G.2.2.2.2.2.2.2.2.2.2.2.2.1
abbrev ze_i (G : ze_G) : Nat → ClassId := G.2.2.2.2.2.2.2.2.2.2.2.2.2.1
abbrev ze_A (G : ze_G) : Nat → Prop := G.2.2.2.2.2.2.2.2.2.2.2.2.2.2
/-- the machine at pc with the listed locals, the stack st and the world (n, ad, E) comes to the method's end -/
def ze_V (G : ze_G) (n : Nat) (ad : Nat → Nat) (E : Nat → va_E) (cells slots pc : Nat) (lv : List (Nat × Value)) (st : List Value) : Prop :=
  ∀ (H : Heap) (locs : List Loc) (ls : Array Slot), va_P (ze_D G) vwCl (ze_w n ad E) H → va_D (ze_A G) (ze_w n ad E) → va_S (ze_A G) (ze_s G).heap H locs → lv_has ls (ze_nL G) lv →
    W (ze_p G) (ze_l G) (ze_e G) (ze_R G) (ze_s G) (ze_m G) (ze_a G) (ze_b G) (ze_me G) (ze_c G) H locs cells slots (ze_Q G) (F0 (ze_m G) pc ls st)
/-- a method's static facts: code, words, class, room -/
def ze_C (G : ze_G) (cc : ByteArray) (Ts : List Cond) (own : String) (rm : Room) (nL : Nat) : Prop :=
  (ze_p G).tables.exec = Jvm.exec ∧ (ze_c G).code = cc ∧ (ze_c G).maxLocals = ze_nL G ∧ (ze_s G).vm.findClass own = some (ze_m G).cls ∧ (∀ w ∈ Ts, w.before (ze_a G) (ze_s G) = true) ∧ va_K (ze_D G) vwCl (ze_ty (ze_i G)) (ze_s G) ∧ (∀ q, (ze_s G).heap.size ≤ q → ze_A G q) ∧ (ze_me G).locks = false ∧ ze_R G = rm ∧ ze_nL G = nL ∧ ze_N (ze_s G)
section ZEC
variable {G : ze_G} {cc : ByteArray} {Ts : List Cond} {own : String} {rm : Room} {nL : Nat}
theorem ze_C.x (C : ze_C G cc Ts own rm nL) : (ze_p G).tables.exec = Jvm.exec := C.1
theorem ze_C.b (C : ze_C G cc Ts own rm nL) : (ze_c G).code = cc := C.2.1
theorem ze_C.ml (C : ze_C G cc Ts own rm nL) : (ze_c G).maxLocals = ze_nL G := C.2.2.1
theorem ze_C.ow (C : ze_C G cc Ts own rm nL) : (ze_s G).vm.findClass own = some (ze_m G).cls := C.2.2.2.1
theorem ze_C.ts (C : ze_C G cc Ts own rm nL) : ∀ w ∈ Ts, w.before (ze_a G) (ze_s G) = true := C.2.2.2.2.1
theorem ze_C.K (C : ze_C G cc Ts own rm nL) : va_K (ze_D G) vwCl (ze_ty (ze_i G)) (ze_s G) := C.2.2.2.2.2.1
theorem ze_C.A (C : ze_C G cc Ts own rm nL) : ∀ q, (ze_s G).heap.size ≤ q → ze_A G q := C.2.2.2.2.2.2.1
theorem ze_C.lk (C : ze_C G cc Ts own rm nL) : (ze_me G).locks = false := C.2.2.2.2.2.2.2.1
theorem ze_C.R (C : ze_C G cc Ts own rm nL) : ze_R G = rm := C.2.2.2.2.2.2.2.2.1
theorem ze_C.nl (C : ze_C G cc Ts own rm nL) : ze_nL G = nL := C.2.2.2.2.2.2.2.2.2.1
theorem ze_C.N (C : ze_C G cc Ts own rm nL) : ze_N (ze_s G) := C.2.2.2.2.2.2.2.2.2.2
end ZEC
abbrev ze_Po : Type := Option Value → Nat → (Nat → Nat) → (Nat → va_E) → Prop
/-- a method's end: answer and new world satisfy post; outside of A nothing has changed -/
def ze_Qc (D : va_G) (ids : Nat → ClassId) (A : Nat → Prop) (post : ze_Po) : Array Value → State → Outcome → State → Prop := fun _ st oc t =>
  (∃ (v : Option Value) (n : Nat) (ad : Nat → Nat) (E : Nat → va_E), oc = .returned v ∧ post v n ad E ∧ va_P D vwCl (ze_w n ad E) t.heap ∧ va_K D vwCl (ze_ty ids) t ∧ va_D A (ze_w n ad E)) ∧ va_F A st t
def ze_Rt (G : ze_G) (ret : Option FieldType) (mc ms : Nat) (post : ze_Po) : Prop :=
  (ze_me G).sig.returnType = ret ∧ ze_Q G = MQ (ze_b G) (ze_Qc (ze_D G) (ze_i G) (ze_A G) post) (ze_a G) (ze_s G) mc ms (ze_A G)
/-- the contract of y at the world (n, ad, E) and the arguments av -/
def ze_M (l : Launch) (D : va_G) (ids : Nat → ClassId) (y : MethodName) (ws : List Cond) (rm : Room) (mc ms : Nat) (n : Nat) (ad : Nat → Nat) (E : Nat → va_E) (av : List Value) (post : ze_Po) : Prop :=
  ∀ sz : Nat, Met l y ws rm (va_Pc av (fun U => U.heap.size = sz ∧ va_P D vwCl (ze_w n ad E) U.heap ∧ va_K D vwCl (ze_ty ids) U ∧ va_D (fun _ => True) (ze_w n ad E) ∧ ze_N U)) (ze_Qc D ids (ze_Af n ad sz) post) mc ms (ze_Af n ad sz)
theorem ze_enter {l : Launch} {D : va_G} {ids : Nat → ClassId} {y : MethodName} {ws ws' : List Cond} {rm : Room} {mc ms n : Nat} {ad : Nat → Nat} {E : Nat → va_E} {av : List Value} {post : ze_Po} {cc : ByteArray} {maxL : Nat} {ret : Option FieldType}
    (hy : plainFor y = true) (hw : ws = Cond.code y cc maxL ret :: ws') (hlen : (lg_sl av).length ≤ maxL)
    (body : ∀ G : ze_G, ze_l G = l → ze_D G = D → ze_i G = ids → (ze_me G).name = y.name → ze_C G cc ws y.cls rm maxL → ze_Rt G ret mc ms post → ze_V G n ad E 0 0 0 (lv_args 0 av) []) : ze_M l D ids y ws rm mc ms n ad E av post := by
  intro sz
  refine va_MetF (cc := cc) (maxL := maxL) (ret := ret) hy hw ?_
  intro p e s m args below meth c s₁ B hml hv
  obtain ⟨rfl, hsz, hP, hK, hD0, hN⟩ := hv
  subst hsz
  have hl := lv_entry av (n := maxL) hlen
  rw [lg_entry_eq]
  have hD : va_D (ze_Af n ad s.heap.size) (ze_w n ad E) := ⟨hD0.1, fun k q hk => by
    obtain ⟨h1, h2⟩ := ze_w_inv hk
    exact Or.inl ⟨k, h1, by rw [h2]⟩⟩
  exact body (p, l, e, (headSpec ws rm).room, s, m, av.toArray, below, meth, c, MQ below (ze_Qc D ids (ze_Af n ad s.heap.size) post) av.toArray s mc ms (ze_Af n ad s.heap.size), maxL, D, ids, ze_Af n ad s.heap.size) rfl rfl rfl (name_of_methodNamed B.named B.method).1
    ⟨B.exec, B.bytes, hml, findClass_of_methodNamed B.named, atoms_spec (ws := ws) B.pre, hK, fun q h => Or.inr h, B.notSynchronized, rfl, rfl, hN⟩ ⟨B.returns, rfl⟩ s.heap [] _ hP hD va_S.rf hl
section ZER
variable {G : ze_G} {cc : ByteArray} {Ts : List Cond} {own : String} {rm : Room} {nL : Nat} {n : Nat} {ad : Nat → Nat} {E : Nat → va_E} {cells slots pc : Nat} {lv : List (Nat × Value)} {st : List Value} {mc ms : Nat} {post : ze_Po}
theorem ze_sub (lv' : List (Nat × Value)) (ks : List Nat) (h : lv_pick lv ks = lv') (k : ze_V G n ad E cells slots pc lv' st) : ze_V G n ad E cells slots pc lv st := fun H locs ls hP hD hS hl => k H locs ls hP hD hS (lv_sub hl ks h)
theorem ze_lv {lv' : List (Nat × Value)} (h : lv = lv') (k : ze_V G n ad E cells slots pc lv' st) : ze_V G n ad E cells slots pc lv st := h ▸ k
theorem ze_eqE {E' : Nat → va_E} (h : E = E') (k : ze_V G n ad E' cells slots pc lv st) : ze_V G n ad E cells slots pc lv st := h ▸ k
theorem ze_eqS {st' : List Value} (h : st = st') (k : ze_V G n ad E cells slots pc lv st') : ze_V G n ad E cells slots pc lv st := h ▸ k
theorem ze_widen {c2 s2 : Nat} (h1 : cells ≤ c2) (h2 : slots ≤ s2) (k : ze_V G n ad E c2 s2 pc lv st) : ze_V G n ad E cells slots pc lv st := fun H locs ls hP hD hS hl => W.widen h1 h2 (k H locs ls hP hD hS hl)
-- ends
theorem ze_iret {v : Int32} (C : ze_C G cc Ts own rm nL) (Rt : ze_Rt G (some .int) cells slots post) (d : decode cc pc = .ok (.ireturn, 1)) (h : post (some (.int v)) n ad E) : ze_V G n ad E cells slots pc lv [.int v] := by
  intro H locs ls hP hD hS hl
  rw [Rt.2]
  have hlk := C.lk
  exact W.iret C.x C.b Rt.1 (fun t ht hW => ⟨⟨_, n, ad, E, rfl, h, by rw [ht]; exact hP, va_K.moved hW.alike C.K, hD⟩, hS.F ht⟩) hS.2.2 d
theorem ze_zret {v : Int32} (C : ze_C G cc Ts own rm nL) (Rt : ze_Rt G (some .boolean) cells slots post) (hv : narrow .boolean (.int v) = .int v) (d : decode cc pc = .ok (.ireturn, 1)) (h : post (some (.int v)) n ad E) : ze_V G n ad E cells slots pc lv [.int v] := by
  intro H locs ls hP hD hS hl
  rw [Rt.2]
  have hlk := C.lk
  exact W.zret C.x C.b Rt.1 hv (fun t ht hW => ⟨⟨_, n, ad, E, rfl, h, by rw [ht]; exact hP, va_K.moved hW.alike C.K, hD⟩, hS.F ht⟩) hS.2.2 d
theorem ze_lret {v : Int64} (C : ze_C G cc Ts own rm nL) (Rt : ze_Rt G (some .long) cells slots post) (d : decode cc pc = .ok (.lreturn, 1)) (h : post (some (.long v)) n ad E) : ze_V G n ad E cells slots pc lv [.long v] := by
  intro H locs ls hP hD hS hl
  rw [Rt.2]
  have hlk := C.lk
  exact W.lret C.x C.b Rt.1 (fun t ht hW => ⟨⟨_, n, ad, E, rfl, h, by rw [ht]; exact hP, va_K.moved hW.alike C.K, hD⟩, hS.F ht⟩) hS.2.2 d
theorem ze_vret (C : ze_C G cc Ts own rm nL) (Rt : ze_Rt G none cells slots post) (d : decode cc pc = .ok (.return_, 1)) (h : post none n ad E) : ze_V G n ad E cells slots pc lv [] := by
  intro H locs ls hP hD hS hl
  rw [Rt.2]
  have hlk := C.lk
  exact W.vret C.x C.b Rt.1 (fun t ht hW => ⟨⟨_, n, ad, E, rfl, h, by rw [ht]; exact hP, va_K.moved hW.alike C.K, hD⟩, hS.F ht⟩) hS.2.2 d
theorem ze_iconst {z : Int} {v : Int32} (C : ze_C G cc Ts own rm nL) (d : decode cc pc = .ok (.iconst z, 1)) (hv : Int32.ofInt z = v) (k : ze_V G n ad E cells slots (pc + 1) lv (.int v :: st)) : ze_V G n ad E cells slots pc lv st := fun H locs ls hP hD hS hl => lv_iconst C.x C.b d hv (k H locs ls hP hD hS hl)
theorem ze_bipush {z : Int} {v : Int32} (C : ze_C G cc Ts own rm nL) (d : decode cc pc = .ok (.bipush z, 2)) (hv : (Int8.ofInt z).toInt32 = v) (k : ze_V G n ad E cells slots (pc + 2) lv (.int v :: st)) : ze_V G n ad E cells slots pc lv st := fun H locs ls hP hD hS hl => lv_bipush C.x C.b d hv (k H locs ls hP hD hS hl)
theorem ze_sipush {z : Int} {v : Int32} (C : ze_C G cc Ts own rm nL) (d : decode cc pc = .ok (.sipush z, 3)) (hv : (Int16.ofInt z).toInt32 = v) (k : ze_V G n ad E cells slots (pc + 3) lv (.int v :: st)) : ze_V G n ad E cells slots pc lv st := fun H locs ls hP hD hS hl => lv_sipush C.x C.b d hv (k H locs ls hP hD hS hl)
theorem ze_lconst {z : Fin 2} {v : Int64} (C : ze_C G cc Ts own rm nL) (d : decode cc pc = .ok (.lconst z, 1)) (hv : Int64.ofNat (z : Nat) = v) (k : ze_V G n ad E cells slots (pc + 1) lv (.long v :: st)) : ze_V G n ad E cells slots pc lv st := fun H locs ls hP hD hS hl => lv_lconst C.x C.b d hv (k H locs ls hP hD hS hl)
theorem ze_ldc2 {idx : Nat} {v : Int64} (C : ze_C G cc Ts own rm nL) (d : decode cc pc = .ok (.ldc2_w idx, 3)) (hc : Cond.constantLong own idx v ∈ Ts) (k : ze_V G n ad E cells slots (pc + 3) lv (.long v :: st)) : ze_V G n ad E cells slots pc lv st := fun H locs ls hP hD hS hl => lv_ldc2 C.x C.b C.ow (C.ts _ hc) d (k H locs ls hP hD hS hl)
theorem ze_iload_n {z : Fin 4} {i : Nat} {x : Int32} (C : ze_C G cc Ts own rm nL) (d : decode cc pc = .ok (.iload_n z, 1)) (j : Nat) (hj : lv[j]? = some (i, .int x)) (hi : (z : Nat) = i) (k : ze_V G n ad E cells slots (pc + 1) lv (.int x :: st)) : ze_V G n ad E cells slots pc lv st := fun H locs ls hP hD hS hl => lv_iload_n C.x C.b d hi (lv_at hl j hj) (k H locs ls hP hD hS hl)
theorem ze_iload {i : Nat} {x : Int32} (C : ze_C G cc Ts own rm nL) (d : decode cc pc = .ok (.iload i, 2)) (j : Nat) (hj : lv[j]? = some (i, .int x)) (k : ze_V G n ad E cells slots (pc + 2) lv (.int x :: st)) : ze_V G n ad E cells slots pc lv st := fun H locs ls hP hD hS hl => lv_iload C.x C.b d (lv_at hl j hj) (k H locs ls hP hD hS hl)
theorem ze_istore_n {z : Fin 4} {i : Nat} {x : Int32} {lv' : List (Nat × Value)} (C : ze_C G cc Ts own rm nL) (d : decode cc pc = .ok (.istore_n z, 1)) (hi : (z : Nat) = i) (hn : i < nL) (hl' : (i, Value.int x) :: lv.filter (fun q => !(q.1 == i) && !(q.1 + 1 == i && q.2.category == 2)) = lv') (k : ze_V G n ad E cells slots (pc + 1) lv' st) : ze_V G n ad E cells slots pc lv (.int x :: st) := fun H locs ls hP hD hS hl => lv_istore_n C.x C.b d hi hl (by rw [C.nl]; exact hn) hl' (fun ls' hl2 => k H locs ls' hP hD hS hl2)
theorem ze_istore {i : Nat} {x : Int32} {lv' : List (Nat × Value)} (C : ze_C G cc Ts own rm nL) (d : decode cc pc = .ok (.istore i, 2)) (hn : i < nL) (hl' : (i, Value.int x) :: lv.filter (fun q => !(q.1 == i) && !(q.1 + 1 == i && q.2.category == 2)) = lv') (k : ze_V G n ad E cells slots (pc + 2) lv' st) : ze_V G n ad E cells slots pc lv (.int x :: st) := fun H locs ls hP hD hS hl => lv_istore C.x C.b d hl (by rw [C.nl]; exact hn) hl' (fun ls' hl2 => k H locs ls' hP hD hS hl2)
theorem ze_lload_n {z : Fin 4} {i : Nat} {x : Int64} (C : ze_C G cc Ts own rm nL) (d : decode cc pc = .ok (.lload_n z, 1)) (j : Nat) (hj : lv[j]? = some (i, .long x)) (hi : (z : Nat) = i) (k : ze_V G n ad E cells slots (pc + 1) lv (.long x :: st)) : ze_V G n ad E cells slots pc lv st := fun H locs ls hP hD hS hl => lv_lload_n C.x C.b d hi (lv_at hl j hj) (k H locs ls hP hD hS hl)
theorem ze_lload {i : Nat} {x : Int64} (C : ze_C G cc Ts own rm nL) (d : decode cc pc = .ok (.lload i, 2)) (j : Nat) (hj : lv[j]? = some (i, .long x)) (k : ze_V G n ad E cells slots (pc + 2) lv (.long x :: st)) : ze_V G n ad E cells slots pc lv st := fun H locs ls hP hD hS hl => lv_lload C.x C.b d (lv_at hl j hj) (k H locs ls hP hD hS hl)
theorem ze_lstore_n {z : Fin 4} {i : Nat} {x : Int64} {lv' : List (Nat × Value)} (C : ze_C G cc Ts own rm nL) (d : decode cc pc = .ok (.lstore_n z, 1)) (hi : (z : Nat) = i) (hn : i + 1 < nL) (hl' : (i, Value.long x) :: lv.filter (fun q => !(q.1 == i) && (!(q.1 == i + 1) && !(q.1 + 1 == i && q.2.category == 2))) = lv') (k : ze_V G n ad E cells slots (pc + 1) lv' st) : ze_V G n ad E cells slots pc lv (.long x :: st) := fun H locs ls hP hD hS hl => lv_lstore_n C.x C.b d hi hl (by rw [C.nl]; exact hn) hl' (fun ls' hl2 => k H locs ls' hP hD hS hl2)
theorem ze_lstore {i : Nat} {x : Int64} {lv' : List (Nat × Value)} (C : ze_C G cc Ts own rm nL) (d : decode cc pc = .ok (.lstore i, 2)) (hn : i + 1 < nL) (hl' : (i, Value.long x) :: lv.filter (fun q => !(q.1 == i) && (!(q.1 == i + 1) && !(q.1 + 1 == i && q.2.category == 2))) = lv') (k : ze_V G n ad E cells slots (pc + 2) lv' st) : ze_V G n ad E cells slots pc lv (.long x :: st) := fun H locs ls hP hD hS hl => lv_lstore C.x C.b d hl (by rw [C.nl]; exact hn) hl' (fun ls' hl2 => k H locs ls' hP hD hS hl2)
theorem ze_aload_n {z : Fin 4} {i : Nat} {x : Nat} (C : ze_C G cc Ts own rm nL) (d : decode cc pc = .ok (.aload_n z, 1)) (j : Nat) (hj : lv[j]? = some (i, .ref x)) (hi : (z : Nat) = i) (k : ze_V G n ad E cells slots (pc + 1) lv (.ref x :: st)) : ze_V G n ad E cells slots pc lv st := fun H locs ls hP hD hS hl => lv_aload_n C.x C.b d hi (lv_at hl j hj) (k H locs ls hP hD hS hl)
theorem ze_aload {i : Nat} {x : Nat} (C : ze_C G cc Ts own rm nL) (d : decode cc pc = .ok (.aload i, 2)) (j : Nat) (hj : lv[j]? = some (i, .ref x)) (k : ze_V G n ad E cells slots (pc + 2) lv (.ref x :: st)) : ze_V G n ad E cells slots pc lv st := fun H locs ls hP hD hS hl => lv_aload C.x C.b d (lv_at hl j hj) (k H locs ls hP hD hS hl)
theorem ze_astore_n {z : Fin 4} {i : Nat} {x : Nat} {lv' : List (Nat × Value)} (C : ze_C G cc Ts own rm nL) (d : decode cc pc = .ok (.astore_n z, 1)) (hi : (z : Nat) = i) (hn : i < nL) (hl' : (i, Value.ref x) :: lv.filter (fun q => !(q.1 == i) && !(q.1 + 1 == i && q.2.category == 2)) = lv') (k : ze_V G n ad E cells slots (pc + 1) lv' st) : ze_V G n ad E cells slots pc lv (.ref x :: st) := fun H locs ls hP hD hS hl => lv_astore_n C.x C.b d hi hl (by rw [C.nl]; exact hn) hl' (fun ls' hl2 => k H locs ls' hP hD hS hl2)
theorem ze_astore {i : Nat} {x : Nat} {lv' : List (Nat × Value)} (C : ze_C G cc Ts own rm nL) (d : decode cc pc = .ok (.astore i, 2)) (hn : i < nL) (hl' : (i, Value.ref x) :: lv.filter (fun q => !(q.1 == i) && !(q.1 + 1 == i && q.2.category == 2)) = lv') (k : ze_V G n ad E cells slots (pc + 2) lv' st) : ze_V G n ad E cells slots pc lv (.ref x :: st) := fun H locs ls hP hD hS hl => lv_astore C.x C.b d hl (by rw [C.nl]; exact hn) hl' (fun ls' hl2 => k H locs ls' hP hD hS hl2)
theorem ze_iinc {i j : Nat} {z : Int} {x v : Int32} {lv' : List (Nat × Value)} (C : ze_C G cc Ts own rm nL) (d : decode cc pc = .ok (.iinc i z, 3)) (hj : lv[j]? = some (i, .int x)) (hv : x + Int32.ofInt z = v) (hn : i < nL) (hl' : (i, Value.int v) :: lv.filter (fun q => !(q.1 == i) && !(q.1 + 1 == i && q.2.category == 2)) = lv') (k : ze_V G n ad E cells slots (pc + 3) lv' st) : ze_V G n ad E cells slots pc lv st := fun H locs ls hP hD hS hl => lv_iinc C.x C.b d hl hj hv (by rw [C.nl]; exact hn) hl' (fun ls' hl2 => k H locs ls' hP hD hS hl2)
theorem ze_iadd {x y : Int32} (C : ze_C G cc Ts own rm nL) (d : decode cc pc = .ok (.iadd, 1)) (k : ze_V G n ad E cells slots (pc + 1) lv (.int (x + y) :: st)) : ze_V G n ad E cells slots pc lv (.int y :: .int x :: st) := fun H locs ls hP hD hS hl => lv_iadd C.x C.b d (k H locs ls hP hD hS hl)
theorem ze_isub {x y : Int32} (C : ze_C G cc Ts own rm nL) (d : decode cc pc = .ok (.isub, 1)) (k : ze_V G n ad E cells slots (pc + 1) lv (.int (x - y) :: st)) : ze_V G n ad E cells slots pc lv (.int y :: .int x :: st) := fun H locs ls hP hD hS hl => lv_isub C.x C.b d (k H locs ls hP hD hS hl)
theorem ze_imul {x y : Int32} (C : ze_C G cc Ts own rm nL) (d : decode cc pc = .ok (.imul, 1)) (k : ze_V G n ad E cells slots (pc + 1) lv (.int (x * y) :: st)) : ze_V G n ad E cells slots pc lv (.int y :: .int x :: st) := fun H locs ls hP hD hS hl => lv_imul C.x C.b d (k H locs ls hP hD hS hl)
theorem ze_iand {x y : Int32} (C : ze_C G cc Ts own rm nL) (d : decode cc pc = .ok (.iand, 1)) (k : ze_V G n ad E cells slots (pc + 1) lv (.int (x &&& y) :: st)) : ze_V G n ad E cells slots pc lv (.int y :: .int x :: st) := fun H locs ls hP hD hS hl => lv_iand C.x C.b d (k H locs ls hP hD hS hl)
theorem ze_ior {x y : Int32} (C : ze_C G cc Ts own rm nL) (d : decode cc pc = .ok (.ior, 1)) (k : ze_V G n ad E cells slots (pc + 1) lv (.int (x ||| y) :: st)) : ze_V G n ad E cells slots pc lv (.int y :: .int x :: st) := fun H locs ls hP hD hS hl => lv_ior C.x C.b d (k H locs ls hP hD hS hl)
theorem ze_ixor {x y : Int32} (C : ze_C G cc Ts own rm nL) (d : decode cc pc = .ok (.ixor, 1)) (k : ze_V G n ad E cells slots (pc + 1) lv (.int (x ^^^ y) :: st)) : ze_V G n ad E cells slots pc lv (.int y :: .int x :: st) := fun H locs ls hP hD hS hl => lv_ixor C.x C.b d (k H locs ls hP hD hS hl)
theorem ze_idiv {x y : Int32} (C : ze_C G cc Ts own rm nL) (d : decode cc pc = .ok (.idiv, 1)) (h0 : ¬ y = 0) (k : ze_V G n ad E cells slots (pc + 1) lv (.int (x / y) :: st)) : ze_V G n ad E cells slots pc lv (.int y :: .int x :: st) := fun H locs ls hP hD hS hl => lv_idiv C.x C.b d h0 (k H locs ls hP hD hS hl)
theorem ze_irem {x y : Int32} (C : ze_C G cc Ts own rm nL) (d : decode cc pc = .ok (.irem, 1)) (h0 : ¬ y = 0) (k : ze_V G n ad E cells slots (pc + 1) lv (.int (x - x / y * y) :: st)) : ze_V G n ad E cells slots pc lv (.int y :: .int x :: st) := fun H locs ls hP hD hS hl => lv_irem C.x C.b d h0 (k H locs ls hP hD hS hl)
theorem ze_ladd {x y : Int64} (C : ze_C G cc Ts own rm nL) (d : decode cc pc = .ok (.ladd, 1)) (k : ze_V G n ad E cells slots (pc + 1) lv (.long (x + y) :: st)) : ze_V G n ad E cells slots pc lv (.long y :: .long x :: st) := fun H locs ls hP hD hS hl => lv_ladd C.x C.b d (k H locs ls hP hD hS hl)
theorem ze_lsub {x y : Int64} (C : ze_C G cc Ts own rm nL) (d : decode cc pc = .ok (.lsub, 1)) (k : ze_V G n ad E cells slots (pc + 1) lv (.long (x - y) :: st)) : ze_V G n ad E cells slots pc lv (.long y :: .long x :: st) := fun H locs ls hP hD hS hl => lv_lsub C.x C.b d (k H locs ls hP hD hS hl)
theorem ze_lmul {x y : Int64} (C : ze_C G cc Ts own rm nL) (d : decode cc pc = .ok (.lmul, 1)) (k : ze_V G n ad E cells slots (pc + 1) lv (.long (x * y) :: st)) : ze_V G n ad E cells slots pc lv (.long y :: .long x :: st) := fun H locs ls hP hD hS hl => lv_lmul C.x C.b d (k H locs ls hP hD hS hl)
theorem ze_i2l {x : Int32} {v : Int64} (C : ze_C G cc Ts own rm nL) (d : decode cc pc = .ok (.i2l, 1)) (hv : x.toInt64 = v) (k : ze_V G n ad E cells slots (pc + 1) lv (.long v :: st)) : ze_V G n ad E cells slots pc lv (.int x :: st) := fun H locs ls hP hD hS hl => lv_i2l C.x C.b d hv (k H locs ls hP hD hS hl)
theorem ze_lcmp {x y : Int64} (C : ze_C G cc Ts own rm nL) (d : decode cc pc = .ok (.lcmp, 1)) (k : ze_V G n ad E cells slots (pc + 1) lv (.int (lg_cmp x y) :: st)) : ze_V G n ad E cells slots pc lv (.long y :: .long x :: st) := fun H locs ls hP hD hS hl => W.lcmp C.x C.b d (k H locs ls hP hD hS hl)
theorem ze_iaddN {a b : Nat} (C : ze_C G cc Ts own rm nL) (d : decode cc pc = .ok (.iadd, 1)) (k : ze_V G n ad E cells slots (pc + 1) lv (.int (nI (a + b)) :: st)) : ze_V G n ad E cells slots pc lv (.int (nI b) :: .int (nI a) :: st) := fun H locs ls hP hD hS hl => lv_iadd C.x C.b d (by rw [nI_add]; exact k H locs ls hP hD hS hl)
theorem ze_isubN {a b : Nat} (C : ze_C G cc Ts own rm nL) (d : decode cc pc = .ok (.isub, 1)) (h : b ≤ a) (k : ze_V G n ad E cells slots (pc + 1) lv (.int (nI (a - b)) :: st)) : ze_V G n ad E cells slots pc lv (.int (nI b) :: .int (nI a) :: st) := fun H locs ls hP hD hS hl => lv_isub C.x C.b d (by rw [pk_sub h]; exact k H locs ls hP hD hS hl)
theorem ze_imulN {a b : Nat} (C : ze_C G cc Ts own rm nL) (d : decode cc pc = .ok (.imul, 1)) (k : ze_V G n ad E cells slots (pc + 1) lv (.int (nI (a * b)) :: st)) : ze_V G n ad E cells slots pc lv (.int (nI b) :: .int (nI a) :: st) := fun H locs ls hP hD hS hl => lv_imul C.x C.b d (by rw [pk_mul]; exact k H locs ls hP hD hS hl)
theorem ze_idivN {a b : Nat} (C : ze_C G cc Ts own rm nL) (d : decode cc pc = .ok (.idiv, 1)) (ha : a < 2 ^ 31) (h0 : 0 < b) (hb : b < 2 ^ 31) (k : ze_V G n ad E cells slots (pc + 1) lv (.int (nI (a / b)) :: st)) : ze_V G n ad E cells slots pc lv (.int (nI b) :: .int (nI a) :: st) := fun H locs ls hP hD hS hl => lv_idiv C.x C.b d (nI_ne0 h0 hb) (by rw [pk_div ha h0 hb]; exact k H locs ls hP hD hS hl)
theorem ze_iremN {a b : Nat} (C : ze_C G cc Ts own rm nL) (d : decode cc pc = .ok (.irem, 1)) (ha : a < 2 ^ 31) (h0 : 0 < b) (hb : b < 2 ^ 31) (k : ze_V G n ad E cells slots (pc + 1) lv (.int (nI (a % b)) :: st)) : ze_V G n ad E cells slots pc lv (.int (nI b) :: .int (nI a) :: st) := fun H locs ls hP hD hS hl => lv_irem C.x C.b d (nI_ne0 h0 hb) (by rw [pk_rem ha h0 hb]; exact k H locs ls hP hD hS hl)
theorem ze_laddN {a b : Nat} (C : ze_C G cc Ts own rm nL) (d : decode cc pc = .ok (.ladd, 1)) (k : ze_V G n ad E cells slots (pc + 1) lv (.long (lN (a + b)) :: st)) : ze_V G n ad E cells slots pc lv (.long (lN b) :: .long (lN a) :: st) := fun H locs ls hP hD hS hl => lv_ladd C.x C.b d (by rw [lN_add]; exact k H locs ls hP hD hS hl)
theorem ze_lmulN {a b : Nat} (C : ze_C G cc Ts own rm nL) (d : decode cc pc = .ok (.lmul, 1)) (k : ze_V G n ad E cells slots (pc + 1) lv (.long (lN (a * b)) :: st)) : ze_V G n ad E cells slots pc lv (.long (lN b) :: .long (lN a) :: st) := fun H locs ls hP hD hS hl => lv_lmul C.x C.b d (by rw [lN_mul]; exact k H locs ls hP hD hS hl)
theorem ze_i2lN {a : Nat} (C : ze_C G cc Ts own rm nL) (d : decode cc pc = .ok (.i2l, 1)) (ha : a < 2 ^ 31) (k : ze_V G n ad E cells slots (pc + 1) lv (.long (lN a) :: st)) : ze_V G n ad E cells slots pc lv (.int (nI a) :: st) := fun H locs ls hP hD hS hl => lv_i2l C.x C.b d (nI_l ha) (k H locs ls hP hD hS hl)
theorem ze_dup {v : Value} (C : ze_C G cc Ts own rm nL) (d : decode cc pc = .ok (.dup, 1)) (hv : v.category = 1) (k : ze_V G n ad E cells slots (pc + 1) lv (v :: v :: st)) : ze_V G n ad E cells slots pc lv (v :: st) := fun H locs ls hP hD hS hl => lv_dup C.x C.b d hv (k H locs ls hP hD hS hl)
theorem ze_pop {v : Value} (C : ze_C G cc Ts own rm nL) (d : decode cc pc = .ok (.pop, 1)) (hv : v.category = 1) (k : ze_V G n ad E cells slots (pc + 1) lv st) : ze_V G n ad E cells slots pc lv (v :: st) := fun H locs ls hP hD hS hl => lv_pop C.x C.b d hv (k H locs ls hP hD hS hl)
theorem ze_dup_x1 {v w : Value} (C : ze_C G cc Ts own rm nL) (d : decode cc pc = .ok (.dup_x1, 1)) (hv : v.category = 1) (hw : w.category = 1) (k : ze_V G n ad E cells slots (pc + 1) lv (v :: w :: v :: st)) : ze_V G n ad E cells slots pc lv (v :: w :: st) := fun H locs ls hP hD hS hl => lv_dup_x1 C.x C.b d hv hw (k H locs ls hP hD hS hl)
theorem ze_dup2 {v w : Value} (C : ze_C G cc Ts own rm nL) (d : decode cc pc = .ok (.dup2, 1)) (hv : v.category = 1) (hw : w.category = 1) (k : ze_V G n ad E cells slots (pc + 1) lv (v :: w :: v :: w :: st)) : ze_V G n ad E cells slots pc lv (v :: w :: st) := fun H locs ls hP hD hS hl => lv_dup2_11 C.x C.b d hv hw (k H locs ls hP hD hS hl)
theorem ze_if_eq {x : Int32} {off : Int} (tgt : Nat) (C : ze_C G cc Ts own rm nL) (d : decode cc pc = .ok (.ifCond .eq off, 3)) (ht : (pc : Int) + off = (tgt : Int)) (kt : x = 0 → ze_V G n ad E cells slots tgt lv st) (kf : ¬ (x = 0) → ze_V G n ad E cells slots (pc + 3) lv st) : ze_V G n ad E cells slots pc lv (.int x :: st) := fun H locs ls hP hD hS hl => lv_if_eq C.x C.b d ht (fun h => kt h H locs ls hP hD hS hl) (fun h => kf h H locs ls hP hD hS hl)
theorem ze_if_eqN {a : Nat} {off : Int} (tgt : Nat) (C : ze_C G cc Ts own rm nL) (d : decode cc pc = .ok (.ifCond .eq off, 3)) (ht : (pc : Int) + off = (tgt : Int)) (ha : a < 2 ^ 31) (kt : a = 0 → ze_V G n ad E cells slots tgt lv st) (kf : a ≠ 0 → ze_V G n ad E cells slots (pc + 3) lv st) : ze_V G n ad E cells slots pc lv (.int (nI a) :: st) := ze_if_eq tgt C d ht (fun h => kt ((nI_eq ha (by decide : 0 < 2 ^ 31)).mp h)) (fun h => kf (by have h := (not_congr (nI_eq ha (by decide : 0 < 2 ^ 31))).mp h; exact h))
theorem ze_icmp_eq {x y : Int32} {off : Int} (tgt : Nat) (C : ze_C G cc Ts own rm nL) (d : decode cc pc = .ok (.if_icmp .eq off, 3)) (ht : (pc : Int) + off = (tgt : Int)) (kt : x = y → ze_V G n ad E cells slots tgt lv st) (kf : ¬ (x = y) → ze_V G n ad E cells slots (pc + 3) lv st) : ze_V G n ad E cells slots pc lv (.int y :: .int x :: st) := fun H locs ls hP hD hS hl => lv_icmp_eq C.x C.b d ht (fun h => kt h H locs ls hP hD hS hl) (fun h => kf h H locs ls hP hD hS hl)
theorem ze_icmp_eqN {a b : Nat} {off : Int} (tgt : Nat) (C : ze_C G cc Ts own rm nL) (d : decode cc pc = .ok (.if_icmp .eq off, 3)) (ht : (pc : Int) + off = (tgt : Int)) (ha : a < 2 ^ 31) (hb : b < 2 ^ 31) (kt : a = b → ze_V G n ad E cells slots tgt lv st) (kf : a ≠ b → ze_V G n ad E cells slots (pc + 3) lv st) : ze_V G n ad E cells slots pc lv (.int (nI b) :: .int (nI a) :: st) := ze_icmp_eq tgt C d ht (fun h => kt ((nI_eq ha hb).mp h)) (fun h => kf (by have h := (not_congr (nI_eq ha hb)).mp h; exact h))
theorem ze_if_ne {x : Int32} {off : Int} (tgt : Nat) (C : ze_C G cc Ts own rm nL) (d : decode cc pc = .ok (.ifCond .ne off, 3)) (ht : (pc : Int) + off = (tgt : Int)) (kt : ¬ x = 0 → ze_V G n ad E cells slots tgt lv st) (kf : x = 0 → ze_V G n ad E cells slots (pc + 3) lv st) : ze_V G n ad E cells slots pc lv (.int x :: st) := fun H locs ls hP hD hS hl => lv_if_ne C.x C.b d ht (fun h => kt h H locs ls hP hD hS hl) (fun h => kf h H locs ls hP hD hS hl)
theorem ze_if_neN {a : Nat} {off : Int} (tgt : Nat) (C : ze_C G cc Ts own rm nL) (d : decode cc pc = .ok (.ifCond .ne off, 3)) (ht : (pc : Int) + off = (tgt : Int)) (ha : a < 2 ^ 31) (kt : a ≠ 0 → ze_V G n ad E cells slots tgt lv st) (kf : a = 0 → ze_V G n ad E cells slots (pc + 3) lv st) : ze_V G n ad E cells slots pc lv (.int (nI a) :: st) := ze_if_ne tgt C d ht (fun h => kt ((not_congr (nI_eq ha (by decide : 0 < 2 ^ 31))).mp h)) (fun h => kf ((nI_eq ha (by decide : 0 < 2 ^ 31)).mp h))
theorem ze_icmp_ne {x y : Int32} {off : Int} (tgt : Nat) (C : ze_C G cc Ts own rm nL) (d : decode cc pc = .ok (.if_icmp .ne off, 3)) (ht : (pc : Int) + off = (tgt : Int)) (kt : ¬ x = y → ze_V G n ad E cells slots tgt lv st) (kf : x = y → ze_V G n ad E cells slots (pc + 3) lv st) : ze_V G n ad E cells slots pc lv (.int y :: .int x :: st) := fun H locs ls hP hD hS hl => lv_icmp_ne C.x C.b d ht (fun h => kt h H locs ls hP hD hS hl) (fun h => kf h H locs ls hP hD hS hl)
theorem ze_icmp_neN {a b : Nat} {off : Int} (tgt : Nat) (C : ze_C G cc Ts own rm nL) (d : decode cc pc = .ok (.if_icmp .ne off, 3)) (ht : (pc : Int) + off = (tgt : Int)) (ha : a < 2 ^ 31) (hb : b < 2 ^ 31) (kt : a ≠ b → ze_V G n ad E cells slots tgt lv st) (kf : a = b → ze_V G n ad E cells slots (pc + 3) lv st) : ze_V G n ad E cells slots pc lv (.int (nI b) :: .int (nI a) :: st) := ze_icmp_ne tgt C d ht (fun h => kt ((not_congr (nI_eq ha hb)).mp h)) (fun h => kf ((nI_eq ha hb).mp h))
theorem ze_if_lt {x : Int32} {off : Int} (tgt : Nat) (C : ze_C G cc Ts own rm nL) (d : decode cc pc = .ok (.ifCond .lt off, 3)) (ht : (pc : Int) + off = (tgt : Int)) (kt : x < 0 → ze_V G n ad E cells slots tgt lv st) (kf : ¬ (x < 0) → ze_V G n ad E cells slots (pc + 3) lv st) : ze_V G n ad E cells slots pc lv (.int x :: st) := fun H locs ls hP hD hS hl => lv_if_lt C.x C.b d ht (fun h => kt h H locs ls hP hD hS hl) (fun h => kf h H locs ls hP hD hS hl)
theorem ze_if_ltN {a : Nat} {off : Int} (tgt : Nat) (C : ze_C G cc Ts own rm nL) (d : decode cc pc = .ok (.ifCond .lt off, 3)) (ht : (pc : Int) + off = (tgt : Int)) (ha : a < 2 ^ 31) (kt : a < 0 → ze_V G n ad E cells slots tgt lv st) (kf : 0 ≤ a → ze_V G n ad E cells slots (pc + 3) lv st) : ze_V G n ad E cells slots pc lv (.int (nI a) :: st) := ze_if_lt tgt C d ht (fun h => kt ((nI_ltI ha (by decide : 0 < 2 ^ 31)).mp h)) (fun h => kf (by have h := (not_congr (nI_ltI ha (by decide : 0 < 2 ^ 31))).mp h; exact Nat.not_lt.mp h))
theorem ze_icmp_lt {x y : Int32} {off : Int} (tgt : Nat) (C : ze_C G cc Ts own rm nL) (d : decode cc pc = .ok (.if_icmp .lt off, 3)) (ht : (pc : Int) + off = (tgt : Int)) (kt : x < y → ze_V G n ad E cells slots tgt lv st) (kf : ¬ (x < y) → ze_V G n ad E cells slots (pc + 3) lv st) : ze_V G n ad E cells slots pc lv (.int y :: .int x :: st) := fun H locs ls hP hD hS hl => lv_icmp_lt C.x C.b d ht (fun h => kt h H locs ls hP hD hS hl) (fun h => kf h H locs ls hP hD hS hl)
theorem ze_icmp_ltN {a b : Nat} {off : Int} (tgt : Nat) (C : ze_C G cc Ts own rm nL) (d : decode cc pc = .ok (.if_icmp .lt off, 3)) (ht : (pc : Int) + off = (tgt : Int)) (ha : a < 2 ^ 31) (hb : b < 2 ^ 31) (kt : a < b → ze_V G n ad E cells slots tgt lv st) (kf : b ≤ a → ze_V G n ad E cells slots (pc + 3) lv st) : ze_V G n ad E cells slots pc lv (.int (nI b) :: .int (nI a) :: st) := ze_icmp_lt tgt C d ht (fun h => kt ((nI_ltI ha hb).mp h)) (fun h => kf (by have h := (not_congr (nI_ltI ha hb)).mp h; exact Nat.not_lt.mp h))
theorem ze_if_ge {x : Int32} {off : Int} (tgt : Nat) (C : ze_C G cc Ts own rm nL) (d : decode cc pc = .ok (.ifCond .ge off, 3)) (ht : (pc : Int) + off = (tgt : Int)) (kt : 0 ≤ x → ze_V G n ad E cells slots tgt lv st) (kf : ¬ (0 ≤ x) → ze_V G n ad E cells slots (pc + 3) lv st) : ze_V G n ad E cells slots pc lv (.int x :: st) := fun H locs ls hP hD hS hl => lv_if_ge C.x C.b d ht (fun h => kt h H locs ls hP hD hS hl) (fun h => kf h H locs ls hP hD hS hl)
theorem ze_if_geN {a : Nat} {off : Int} (tgt : Nat) (C : ze_C G cc Ts own rm nL) (d : decode cc pc = .ok (.ifCond .ge off, 3)) (ht : (pc : Int) + off = (tgt : Int)) (ha : a < 2 ^ 31) (kt : 0 ≤ a → ze_V G n ad E cells slots tgt lv st) (kf : a < 0 → ze_V G n ad E cells slots (pc + 3) lv st) : ze_V G n ad E cells slots pc lv (.int (nI a) :: st) := ze_if_ge tgt C d ht (fun h => kt ((nI_leI (by decide : 0 < 2 ^ 31) ha).mp h)) (fun h => kf (by have h := (not_congr (nI_leI (by decide : 0 < 2 ^ 31) ha)).mp h; exact Nat.not_le.mp h))
theorem ze_icmp_ge {x y : Int32} {off : Int} (tgt : Nat) (C : ze_C G cc Ts own rm nL) (d : decode cc pc = .ok (.if_icmp .ge off, 3)) (ht : (pc : Int) + off = (tgt : Int)) (kt : y ≤ x → ze_V G n ad E cells slots tgt lv st) (kf : ¬ (y ≤ x) → ze_V G n ad E cells slots (pc + 3) lv st) : ze_V G n ad E cells slots pc lv (.int y :: .int x :: st) := fun H locs ls hP hD hS hl => lv_icmp_ge C.x C.b d ht (fun h => kt h H locs ls hP hD hS hl) (fun h => kf h H locs ls hP hD hS hl)
theorem ze_icmp_geN {a b : Nat} {off : Int} (tgt : Nat) (C : ze_C G cc Ts own rm nL) (d : decode cc pc = .ok (.if_icmp .ge off, 3)) (ht : (pc : Int) + off = (tgt : Int)) (ha : a < 2 ^ 31) (hb : b < 2 ^ 31) (kt : b ≤ a → ze_V G n ad E cells slots tgt lv st) (kf : a < b → ze_V G n ad E cells slots (pc + 3) lv st) : ze_V G n ad E cells slots pc lv (.int (nI b) :: .int (nI a) :: st) := ze_icmp_ge tgt C d ht (fun h => kt ((nI_leI hb ha).mp h)) (fun h => kf (by have h := (not_congr (nI_leI hb ha)).mp h; exact Nat.not_le.mp h))
theorem ze_if_gt {x : Int32} {off : Int} (tgt : Nat) (C : ze_C G cc Ts own rm nL) (d : decode cc pc = .ok (.ifCond .gt off, 3)) (ht : (pc : Int) + off = (tgt : Int)) (kt : 0 < x → ze_V G n ad E cells slots tgt lv st) (kf : ¬ (0 < x) → ze_V G n ad E cells slots (pc + 3) lv st) : ze_V G n ad E cells slots pc lv (.int x :: st) := fun H locs ls hP hD hS hl => lv_if_gt C.x C.b d ht (fun h => kt h H locs ls hP hD hS hl) (fun h => kf h H locs ls hP hD hS hl)
theorem ze_if_gtN {a : Nat} {off : Int} (tgt : Nat) (C : ze_C G cc Ts own rm nL) (d : decode cc pc = .ok (.ifCond .gt off, 3)) (ht : (pc : Int) + off = (tgt : Int)) (ha : a < 2 ^ 31) (kt : 0 < a → ze_V G n ad E cells slots tgt lv st) (kf : a ≤ 0 → ze_V G n ad E cells slots (pc + 3) lv st) : ze_V G n ad E cells slots pc lv (.int (nI a) :: st) := ze_if_gt tgt C d ht (fun h => kt ((nI_ltI (by decide : 0 < 2 ^ 31) ha).mp h)) (fun h => kf (by have h := (not_congr (nI_ltI (by decide : 0 < 2 ^ 31) ha)).mp h; exact Nat.not_lt.mp h))
theorem ze_icmp_gt {x y : Int32} {off : Int} (tgt : Nat) (C : ze_C G cc Ts own rm nL) (d : decode cc pc = .ok (.if_icmp .gt off, 3)) (ht : (pc : Int) + off = (tgt : Int)) (kt : y < x → ze_V G n ad E cells slots tgt lv st) (kf : ¬ (y < x) → ze_V G n ad E cells slots (pc + 3) lv st) : ze_V G n ad E cells slots pc lv (.int y :: .int x :: st) := fun H locs ls hP hD hS hl => lv_icmp_gt C.x C.b d ht (fun h => kt h H locs ls hP hD hS hl) (fun h => kf h H locs ls hP hD hS hl)
theorem ze_icmp_gtN {a b : Nat} {off : Int} (tgt : Nat) (C : ze_C G cc Ts own rm nL) (d : decode cc pc = .ok (.if_icmp .gt off, 3)) (ht : (pc : Int) + off = (tgt : Int)) (ha : a < 2 ^ 31) (hb : b < 2 ^ 31) (kt : b < a → ze_V G n ad E cells slots tgt lv st) (kf : a ≤ b → ze_V G n ad E cells slots (pc + 3) lv st) : ze_V G n ad E cells slots pc lv (.int (nI b) :: .int (nI a) :: st) := ze_icmp_gt tgt C d ht (fun h => kt ((nI_ltI hb ha).mp h)) (fun h => kf (by have h := (not_congr (nI_ltI hb ha)).mp h; exact Nat.not_lt.mp h))
theorem ze_if_le {x : Int32} {off : Int} (tgt : Nat) (C : ze_C G cc Ts own rm nL) (d : decode cc pc = .ok (.ifCond .le off, 3)) (ht : (pc : Int) + off = (tgt : Int)) (kt : x ≤ 0 → ze_V G n ad E cells slots tgt lv st) (kf : ¬ (x ≤ 0) → ze_V G n ad E cells slots (pc + 3) lv st) : ze_V G n ad E cells slots pc lv (.int x :: st) := fun H locs ls hP hD hS hl => lv_if_le C.x C.b d ht (fun h => kt h H locs ls hP hD hS hl) (fun h => kf h H locs ls hP hD hS hl)
theorem ze_if_leN {a : Nat} {off : Int} (tgt : Nat) (C : ze_C G cc Ts own rm nL) (d : decode cc pc = .ok (.ifCond .le off, 3)) (ht : (pc : Int) + off = (tgt : Int)) (ha : a < 2 ^ 31) (kt : a ≤ 0 → ze_V G n ad E cells slots tgt lv st) (kf : 0 < a → ze_V G n ad E cells slots (pc + 3) lv st) : ze_V G n ad E cells slots pc lv (.int (nI a) :: st) := ze_if_le tgt C d ht (fun h => kt ((nI_leI ha (by decide : 0 < 2 ^ 31)).mp h)) (fun h => kf (by have h := (not_congr (nI_leI ha (by decide : 0 < 2 ^ 31))).mp h; exact Nat.not_le.mp h))
theorem ze_icmp_le {x y : Int32} {off : Int} (tgt : Nat) (C : ze_C G cc Ts own rm nL) (d : decode cc pc = .ok (.if_icmp .le off, 3)) (ht : (pc : Int) + off = (tgt : Int)) (kt : x ≤ y → ze_V G n ad E cells slots tgt lv st) (kf : ¬ (x ≤ y) → ze_V G n ad E cells slots (pc + 3) lv st) : ze_V G n ad E cells slots pc lv (.int y :: .int x :: st) := fun H locs ls hP hD hS hl => lv_icmp_le C.x C.b d ht (fun h => kt h H locs ls hP hD hS hl) (fun h => kf h H locs ls hP hD hS hl)
theorem ze_icmp_leN {a b : Nat} {off : Int} (tgt : Nat) (C : ze_C G cc Ts own rm nL) (d : decode cc pc = .ok (.if_icmp .le off, 3)) (ht : (pc : Int) + off = (tgt : Int)) (ha : a < 2 ^ 31) (hb : b < 2 ^ 31) (kt : a ≤ b → ze_V G n ad E cells slots tgt lv st) (kf : b < a → ze_V G n ad E cells slots (pc + 3) lv st) : ze_V G n ad E cells slots pc lv (.int (nI b) :: .int (nI a) :: st) := ze_icmp_le tgt C d ht (fun h => kt ((nI_leI ha hb).mp h)) (fun h => kf (by have h := (not_congr (nI_leI ha hb)).mp h; exact Nat.not_le.mp h))
theorem ze_goto {off : Int} (tgt : Nat) (C : ze_C G cc Ts own rm nL) (d : decode cc pc = .ok (.goto off, 3)) (ht : (pc : Int) + off = (tgt : Int)) (k : ze_V G n ad E cells slots tgt lv st) : ze_V G n ad E cells slots pc lv st := fun H locs ls hP hD hS hl => lv_goto C.x C.b d ht (k H locs ls hP hD hS hl)
theorem ze_tableIn {dflt lo hi : Int} {offs : Array Int} {len : Nat} {x : Int32} {off : Int} (tgt : Nat) (C : ze_C G cc Ts own rm nL) (d : decode cc pc = .ok (.tableswitch dflt lo hi offs, len)) (h1 : ¬ x.toInt < lo) (h2 : ¬ hi < x.toInt) (ho : offs[(x.toInt - lo).toNat]? = some off) (ht : (pc : Int) + off = (tgt : Int)) (k : ze_V G n ad E cells slots tgt lv st) : ze_V G n ad E cells slots pc lv (.int x :: st) := fun H locs ls hP hD hS hl => lv_tableIn C.x C.b d h1 h2 ho ht (k H locs ls hP hD hS hl)
theorem ze_tableOut {dflt lo hi : Int} {offs : Array Int} {len : Nat} {x : Int32} (tgt : Nat) (C : ze_C G cc Ts own rm nL) (d : decode cc pc = .ok (.tableswitch dflt lo hi offs, len)) (h : x.toInt < lo ∨ hi < x.toInt) (ht : (pc : Int) + dflt = (tgt : Int)) (k : ze_V G n ad E cells slots tgt lv st) : ze_V G n ad E cells slots pc lv (.int x :: st) := fun H locs ls hP hD hS hl => lv_tableOut C.x C.b d h ht (k H locs ls hP hD hS hl)
/-- the word of a getfield: the object's class is number ci of the worlds' classes, the field its number j -/
def ze_Fl (Ts : List Cond) (own : String) (idx ci j : Nat) : Prop := ∃ (C : String) (T : u_T) (N : Nat), vwCl[ci]? = some (C, T, N) ∧ j < N ∧ (∀ w ∈ u_ws C T N, w ∈ Ts) ∧ Cond.fieldLink own idx (T j).1 (T j).2.1 (T j).2.2.1 ∈ Ts
def ze_Fp (Ts : List Cond) (own : String) (idx ci j : Nat) (ty : FieldType) (fin : Bool) : Prop := ∃ (C : String) (T : u_T) (N : Nat) (ty0 : Nat → FieldType), vwCl[ci]? = some (C, T, N) ∧ j < N ∧ (∀ w ∈ u_ws C T N, w ∈ Ts) ∧ Cond.fieldLink own idx (T j).1 (T j).2.1 (T j).2.2.1 ∈ Ts ∧ (∀ k, k < N → parseFieldDescriptor (T k).2.2.1 = some (ty0 k)) ∧ (∀ a, a < N → ∀ b, b < N → a ≠ b → (T a).2.1 ≠ (T b).2.1) ∧ (T j).2.2.2 = fin ∧ (fin = true → (T j).1 = own) ∧ parseFieldDescriptor (T j).2.2.1 = some ty
theorem ze_getf {k ci j idx : Nat} {fs : List Value} {v : Value} (C : ze_C G cc Ts own rm nL) (hF : ze_Fl Ts own idx ci j) (hk : k < n) (hE : E k = .inr (ci, fs)) (hv : fs[j]? = some v) (d : decode cc pc = .ok (.getfield idx, 3)) (kk : ze_V G n ad E cells slots (pc + 3) lv (v :: st)) : ze_V G n ad E cells slots pc lv (.ref (ad k) :: st) := by
  intro H locs ls hP hD hS hl
  obtain ⟨Cn, T, N, h1, h2, h3, h4⟩ := hF
  exact va_get (D := ze_D G) C.x C.b C.ts h3 C.ow C.K hP k (ze_w_eq hk hE) h1 j h2 (C.ts _ h4) (fun _ h => h) hv d (kk H locs ls hP hD hS hl)
theorem ze_putf {k ci j idx : Nat} {fs : List Value} {v : Value} {ty : FieldType} (C : ze_C G cc Ts own rm nL) (hF : ze_Fp Ts own idx ci j ty false) (hk : k < n) (hE : E k = .inr (ci, fs)) (hn : narrow ty v = v) (hf : fits ty v = true) (hj : j < fs.length) (d : decode cc pc = .ok (.putfield idx, 3)) (kk : ze_V G n ad (va_up E k (.inr (ci, fs.set j v))) cells slots (pc + 3) lv st) : ze_V G n ad E cells slots pc lv (v :: .ref (ad k) :: st) := by
  intro H locs ls hP hD hS hl
  obtain ⟨Cn, T, N, ty0, h1, h2, h3, h4, h5, h6, h7, hown, h8⟩ := hF
  refine va_put (D := ze_D G) C.x C.b C.ts h3 ty0 h5 h6 C.ow C.K hP hD hS k (ze_w_eq hk hE) h1 j h2 (C.ts _ h4) (fun _ h => h) h7 h8 hn hf hj d (fun H1 locs1 hP1 hD1 hS1 => ?_)
  rw [ze_w_set hk] at hP1 hD1
  exact kk H1 locs1 ls hP1 hD1 hS1 hl
theorem ze_putF {k ci j idx : Nat} {fs : List Value} {v : Value} {ty : FieldType} (C : ze_C G cc Ts own rm nL) (hF : ze_Fp Ts own idx ci j ty true) (hin : (ze_me G).name = "<init>") (hk : k < n) (hE : E k = .inr (ci, fs)) (hn : narrow ty v = v) (hf : fits ty v = true) (hj : j < fs.length) (d : decode cc pc = .ok (.putfield idx, 3)) (kk : ze_V G n ad (va_up E k (.inr (ci, fs.set j v))) cells slots (pc + 3) lv st) : ze_V G n ad E cells slots pc lv (v :: .ref (ad k) :: st) := by
  intro H locs ls hP hD hS hl
  obtain ⟨Cn, T, N, ty0, h1, h2, h3, h4, h5, h6, h7, hown, h8⟩ := hF
  refine va_putF (D := ze_D G) C.x C.b C.ts h3 ty0 h5 h6 C.ow C.K hP hD hS k (ze_w_eq hk hE) h1 j h2 (C.ts _ h4) (fun _ h => h) h7 hin (hown rfl) h8 hn hf hj d (fun H1 locs1 hP1 hD1 hS1 => ?_)
  rw [ze_w_set hk] at hP1 hD1
  exact kk H1 locs1 ls hP1 hD1 hS1 hl
theorem ze_iald {k len i : Nat} {f : Nat → Int32} (C : ze_C G cc Ts own rm nL) (hk : k < n) (hE : E k = .inl (ze_i G 0, len, .inl f)) (hi : i < len) (hlen : len < 2 ^ 31) (d : decode cc pc = .ok (.iaload, 1)) (kk : ze_V G n ad E cells slots (pc + 1) lv (.int (f i) :: st)) : ze_V G n ad E cells slots pc lv (.int (nI i) :: .ref (ad k) :: st) := by
  intro H locs ls hP hD hS hl
  refine va_iald (D := ze_D G) C.x C.b C.K hP k 0 (ze_w_eq hk hE) rfl (vp_in_nI hi hlen) d ?_
  rw [nI_clamp (Nat.lt_trans hi hlen)]
  exact kk H locs ls hP hD hS hl
theorem ze_iast {k len i : Nat} {f : Nat → Int32} {x : Int32} (C : ze_C G cc Ts own rm nL) (hk : k < n) (hE : E k = .inl (ze_i G 0, len, .inl f)) (hi : i < len) (hlen : len < 2 ^ 31) (d : decode cc pc = .ok (.iastore, 1)) (kk : ze_V G n ad (va_up E k (.inl (ze_i G 0, len, .inl (upd f i x)))) cells slots (pc + 1) lv st) : ze_V G n ad E cells slots pc lv (.int x :: .int (nI i) :: .ref (ad k) :: st) := by
  intro H locs ls hP hD hS hl
  refine va_iast (D := ze_D G) C.x C.b C.K hP hD hS k 0 (ze_w_eq hk hE) rfl (vp_in_nI hi hlen) d (fun H1 locs1 hP1 hD1 hS1 => ?_)
  rw [nI_clamp (Nat.lt_trans hi hlen), ze_w_set hk] at hP1 hD1
  exact kk H1 locs1 ls hP1 hD1 hS1 hl
theorem ze_zald {k len i : Nat} {f : Nat → Int32} (C : ze_C G cc Ts own rm nL) (hk : k < n) (hE : E k = .inl (ze_i G 1, len, .inl f)) (hi : i < len) (hlen : len < 2 ^ 31) (d : decode cc pc = .ok (.baload, 1)) (kk : ze_V G n ad E cells slots (pc + 1) lv (.int (f i) :: st)) : ze_V G n ad E cells slots pc lv (.int (nI i) :: .ref (ad k) :: st) := by
  intro H locs ls hP hD hS hl
  refine va_zald (D := ze_D G) C.x C.b C.K hP k 1 (ze_w_eq hk hE) rfl (vp_in_nI hi hlen) d ?_
  rw [nI_clamp (Nat.lt_trans hi hlen)]
  exact kk H locs ls hP hD hS hl
theorem ze_zast {k len i : Nat} {f : Nat → Int32} {x : Int32} (C : ze_C G cc Ts own rm nL) (hk : k < n) (hE : E k = .inl (ze_i G 1, len, .inl f)) (hi : i < len) (hlen : len < 2 ^ 31) (hx : vp_nar .boolean x = x) (d : decode cc pc = .ok (.bastore, 1)) (kk : ze_V G n ad (va_up E k (.inl (ze_i G 1, len, .inl (upd f i x)))) cells slots (pc + 1) lv st) : ze_V G n ad E cells slots pc lv (.int x :: .int (nI i) :: .ref (ad k) :: st) := by
  intro H locs ls hP hD hS hl
  refine va_zast (D := ze_D G) C.x C.b C.K hP hD hS k 1 (ze_w_eq hk hE) rfl (vp_in_nI hi hlen) d (fun H1 locs1 hP1 hD1 hS1 => ?_)
  rw [nI_clamp (Nat.lt_trans hi hlen), hx, ze_w_set hk] at hP1 hD1
  exact kk H1 locs1 ls hP1 hD1 hS1 hl
theorem ze_aald {k len i a : Nat} {f : Nat → Option Nat} (C : ze_C G cc Ts own rm nL) (hk : k < n) (hE : E k = .inl (ze_i G 2, len, .inr (.inr (.inr (.inr f))))) (hi : i < len) (hlen : len < 2 ^ 31) (ha : f i = some a) (d : decode cc pc = .ok (.aaload, 1)) (kk : ze_V G n ad E cells slots (pc + 1) lv (.ref a :: st)) : ze_V G n ad E cells slots pc lv (.int (nI i) :: .ref (ad k) :: st) := by
  intro H locs ls hP hD hS hl
  refine va_aldq (D := ze_D G) C.x C.b C.K hP k 2 (ze_w_eq hk hE) rfl (vp_in_nI hi hlen) d ?_
  rw [nI_clamp (Nat.lt_trans hi hlen), ha]
  exact kk H locs ls hP hD hS hl
theorem ze_aast {k len i q ci : Nat} {f : Nat → Option Nat} {vs : List Value} {T : u_T} {N : Nat} (C : ze_C G cc Ts own rm nL) (hk : k < n) (hE : E k = .inl (ze_i G 2, len, .inr (.inr (.inr (.inr f))))) (hi : i < len) (hlen : len < 2 ^ 31) (hq : q < n) (hEq : E q = .inr (ci, vs)) (hc : vwCl[ci]? = some (ze_RT, T, N)) (d : decode cc pc = .ok (.aastore, 1)) (kk : ze_V G n ad (va_up E k (.inl (ze_i G 2, len, .inr (.inr (.inr (.inr (va_up f i (some (ad q))))))))) cells slots (pc + 1) lv st) : ze_V G n ad E cells slots pc lv (.ref (ad q) :: .int (nI i) :: .ref (ad k) :: st) := by
  intro H locs ls hP hD hS hl
  refine va_astq (D := ze_D G) (r := (ze_RT, T, N)) C.x C.b C.K hP hD hS k 2 q ci (ze_w_eq hk hE) rfl (ze_w_eq hq hEq) hc (vp_in_nI hi hlen) d (fun H1 locs1 hP1 hD1 hS1 => ?_)
  rw [nI_clamp (Nat.lt_trans hi hlen), ze_w_set hk] at hP1 hD1
  exact kk H1 locs1 ls hP1 hD1 hS1 hl
theorem ze_copy {k0 k1 n0 n1 sp dp len idx : Nat} {f g : Nat → Int32} (C : ze_C G cc Ts own rm nL) (h1 : Cond.methodLink own idx arraycopyName ∈ Ts) (h2 : Cond.native arraycopyName ∈ Ts) (h3 : Cond.static arraycopyName ∈ Ts) (h4 : Cond.initialized "java/lang/System" ∈ Ts) (hk0 : k0 < n) (hk1 : k1 < n) (hE0 : E k0 = .inl (ze_i G 0, n0, .inl f)) (hE1 : E k1 = .inl (ze_i G 0, n1, .inl g)) (b0 : sp + len ≤ n0) (b1 : dp + len ≤ n1) (l0 : n0 < 2 ^ 31) (l1 : n1 < 2 ^ 31) (hf : 1 ≤ rm.frames) (hlo : (st.map fun v => v.category).sum + (nativeFrameWords "java/lang/System" "arraycopy" 5 + 11) ≤ rm.locals) (d : decode cc pc = .ok (.invokestatic idx, 3)) (kk : ze_V G n ad (va_up E k1 (.inl (ze_i G 0, n1, .inl (va_cpy f g sp dp len)))) cells slots (pc + 3) lv st) : ze_V G n ad E cells slots pc lv (.int (nI len) :: .int (nI dp) :: .ref (ad k1) :: .int (nI sp) :: .ref (ad k0) :: st) := by
  intro H locs ls hP hD hS hl
  have hR := C.R
  have c1 : (nI sp).toNatClampNeg = sp := nI_clamp (by omega)
  have c2 : (nI dp).toNatClampNeg = dp := nI_clamp (by omega)
  have c3 : (nI len).toNatClampNeg = len := nI_clamp (by omega)
  refine va_copyi (D := ze_D G) C.x C.b (C.ml.trans hl.1.symm) C.ow (C.ts _ h1) (C.ts _ h2) (C.ts _ h3) (C.ts _ h4) C.K hP hD hS k0 k1 0 0 (ze_w_eq hk0 hE0) (ze_w_eq hk1 hE1) rfl rfl rfl (nI_pos (by omega)) (nI_pos (by omega)) (nI_pos (by omega)) (by rw [c1, c3]; exact b0) (by rw [c2, c3]; exact b1) (fun i _ => rfl) (by rw [hR]; exact hf) (by rw [hR]; exact hlo) d (fun H1 locs1 hP1 hD1 hS1 => ?_)
  rw [c1, c2, c3, ze_w_set hk1] at hP1 hD1
  exact kk H1 locs1 ls hP1 hD1 hS1 hl
theorem ze_cont {H : Heap} {locs : List Loc} {ls : Array Slot} {st0 rest : List Value} {a : Array Value} {po : ze_Po} (hr : va_Run (ze_p G) (ze_l G) (ze_e G) (ze_R G) (ze_s G) (ze_m G) (ze_a G) (ze_b G) (ze_me G) (ze_c G) H locs cells slots mc ms (F0 (ze_m G) pc ls st0) rest (ze_Qc (ze_D G) (ze_i G) (ze_Af n ad H.size) po a) (ze_Af n ad H.size))
    (hD : va_D (ze_A G) (ze_w n ad E)) (hA : ∀ q, (ze_s G).heap.size ≤ q → ze_A G q) (hS : va_S (ze_A G) (ze_s G).heap H locs) (hl : lv_has ls (ze_nL G) lv)
    (kk : ∀ (v : Option Value) (n' : Nat) (ad' : Nat → Nat) (E' : Nat → va_E), po v n' ad' E' → ze_V G n' ad' E' (cells + mc) (slots + ms) (pc + 3) lv (v.toList ++ rest)) :
    W (ze_p G) (ze_l G) (ze_e G) (ze_R G) (ze_s G) (ze_m G) (ze_a G) (ze_b G) (ze_me G) (ze_c G) H locs cells slots (ze_Q G) (F0 (ze_m G) pc ls st0) := by
  intro T hT X
  obtain ⟨v, st₀, t, T', L, h0, X', hL, e1, e2, ⟨⟨v', n', ad', E', hv, hp, hP', hK', hD'⟩, hz, hk⟩, st⟩ := hr T hT X
  cases hv
  rw [h0] at hz hk
  have sub : ∀ q, ze_Af n ad H.size q → ze_A G q := by
    intro q hq
    rcases hq with ⟨k, h1, rfl⟩ | h
    · exact hD.2 k _ (ze_w_get h1)
    · exact hA q (Nat.le_trans hS.1 h)
  obtain ⟨t2, a1, b1⟩ := kk v n' ad' E' hp T'.heap (locs ++ L) ls (by rw [e1]; exact hP') (hD'.weaken (fun k q _ h => sub q.1 h))
    ⟨Nat.le_trans hS.1 (by rw [e1]; exact hz), fun q h1 h2 => by
      rw [e1, hk q (Nat.lt_of_lt_of_le h1 hS.1) (fun z => h2 (sub q z))]
      exact hS.2.1 q h1 h2, fun q hq => by
      rcases List.mem_append.mp hq with h | h
      · exact hS.2.2 q h
      · exact sub _ (hL q h)⟩ hl T' rfl X'
  exact ⟨t2, st t2 a1, b1⟩
theorem ze_blind {D : va_G} {ids : Nat → ClassId} {av : List Value} {sz : Nat} : FrameBlind (va_Pc av (fun U => U.heap.size = sz ∧ va_P D vwCl (ze_w n ad E) U.heap ∧ va_K D vwCl (ze_ty ids) U ∧ va_D (fun _ => True) (ze_w n ad E) ∧ ze_N U)) := fun a U g mk q => by
  obtain ⟨q0, q1, qP, qK, qD, qN⟩ := q
  exact ⟨q0, q1, qP, va_K.moved (u := U) (U := U.calling g mk a) (Vm.Alike.refl U.vm) qK, qD, ze_N.same (u := U) (U := U.calling g mk a) rfl qN⟩
theorem ze_norm {c2 s2 : Nat} {st' : List Value} (h1 : cells = c2) (h2 : slots = s2) (h3 : st = st') (k : ze_V G n ad E c2 s2 pc lv st') : ze_V G n ad E cells slots pc lv st := by subst h1; subst h2; subst h3; exact k
/-- an invokevirtual's words and room -/
def ze_Kv (Ts : List Cond) (own : String) (idx : Nat) (y : MethodName) (ws : List Cond) (rm rm' : Room) (ci na : Nat) : Prop := ∃ (bytes : ByteArray) (maxL : Nat) (ret : Option FieldType) (ws' : List Cond) (Cn : String) (T : u_T) (N : Nat), GoodIn Ts (wsV own idx Cn y ws) ∧ ws = Cond.code y bytes maxL ret :: ws' ∧ (y.cls = Cn ∧ y.cls ≠ "java/lang/invoke/MethodHandle" ∧ y.cls ≠ "java/lang/invoke/VarHandle" ∧ (parseMethodDescriptor y.desc).map (fun d => d.parameters.length) = some na) ∧ (rm'.frames + 1 ≤ rm.frames ∧ 8 + (maxL + 11) + rm'.locals ≤ rm.locals) ∧ vwCl[ci]? = some (Cn, T, N)
theorem ze_callV {y : MethodName} {ws : List Cond} {rm' : Room} {idx k ci : Nat} {fs As : List Value} {po : ze_Po} {stk : List Value} (C : ze_C G cc Ts own rm nL) (M : ze_M (ze_l G) (ze_D G) (ze_i G) y ws rm' rm'.cells rm'.slots n ad E (.ref (ad k) :: As) po) (hK : ze_Kv Ts own idx y ws rm rm' ci As.length) (hk : k < n) (hE : E k = .inr (ci, fs)) (hstk : stk = As.reverse ++ .ref (ad k) :: st) (hsum : (st.map fun v => v.category).sum ≤ 8) (hcs : cells + rm'.cells ≤ rm.cells ∧ slots + rm'.slots ≤ rm.slots) (d : decode cc pc = .ok (.invokevirtual idx, 3))
    (kk : ∀ (v : Option Value) (n' : Nat) (ad' : Nat → Nat) (E' : Nat → va_E), po v n' ad' E' → ze_V G n' ad' E' (cells + rm'.cells) (slots + rm'.slots) (pc + 3) lv (v.toList ++ st)) : ze_V G n ad E cells slots pc lv stk := by
  intro H locs ls hP hD hS hl
  obtain ⟨bytes, maxL, ret, ws', Cn, T, N, h1, h2, h3, h4, h5⟩ := hK
  have hR := C.R
  refine ze_cont (va_runV (As := As) (rest := st) (C := Cn) (b := ad k) ⟨C.x, C.b, C.ml, C.ow, C.ts⟩ (M H.size) (cwV As.length C.ts h1 h2 rfl rfl h3 (by rw [hR]; exact h4)) ⟨ze_blind, va_recv C.K hP h5 (ze_w_eq hk hE), fun U hU hW => ⟨rfl, by rw [hU], by rw [hU]; exact hP, va_K.moved hW.alike C.K, hD.weaken (fun _ _ _ _ => trivial), C.N.warm hW⟩⟩ rfl rfl hl.1 (by exact hstk) (lv_room hsum) d (by rw [hR]; exact hcs)) hD C.A hS hl kk
/-- an invokestatic's words and room -/
def ze_Ks (Ts : List Cond) (own : String) (idx : Nat) (y : MethodName) (ws : List Cond) (rm rm' : Room) (na : Nat) : Prop := ∃ (bytes : ByteArray) (maxL : Nat) (ret : Option FieldType) (ws' : List Cond), GoodIn Ts (va_wsS own idx y ws) ∧ ws = Cond.code y bytes maxL ret :: ws' ∧ (y.cls ≠ "java/lang/invoke/MethodHandle" ∧ y.cls ≠ "java/lang/invoke/VarHandle" ∧ (parseMethodDescriptor y.desc).map (fun d => d.parameters.length) = some na) ∧ (rm'.frames + 1 ≤ rm.frames ∧ 8 + (maxL + 11) + rm'.locals ≤ rm.locals)
theorem ze_callS {y : MethodName} {ws : List Cond} {rm' : Room} {idx : Nat} {As : List Value} {po : ze_Po} {stk : List Value} (C : ze_C G cc Ts own rm nL) (M : ze_M (ze_l G) (ze_D G) (ze_i G) y ws rm' rm'.cells rm'.slots n ad E As po) (hK : ze_Ks Ts own idx y ws rm rm' As.length) (hstk : stk = As.reverse ++ st) (hsum : (st.map fun v => v.category).sum ≤ 8) (hcs : cells + rm'.cells ≤ rm.cells ∧ slots + rm'.slots ≤ rm.slots) (d : decode cc pc = .ok (.invokestatic idx, 3))
    (kk : ∀ (v : Option Value) (n' : Nat) (ad' : Nat → Nat) (E' : Nat → va_E), po v n' ad' E' → ze_V G n' ad' E' (cells + rm'.cells) (slots + rm'.slots) (pc + 3) lv (v.toList ++ st)) : ze_V G n ad E cells slots pc lv stk := by
  intro H locs ls hP hD hS hl
  obtain ⟨bytes, maxL, ret, ws', h1, h2, h3, h4⟩ := hK
  have hR := C.R
  refine ze_cont (va_runS (As := As) (rest := st) ⟨C.x, C.b, C.ml, C.ow, C.ts⟩ (M H.size) (va_cwS As.length C.ts h1 h2 rfl rfl h3 (by rw [hR]; exact h4)) ⟨ze_blind, fun U hU hW => ⟨rfl, by rw [hU], by rw [hU]; exact hP, va_K.moved hW.alike C.K, hD.weaken (fun _ _ _ _ => trivial), C.N.warm hW⟩⟩ rfl rfl hl.1 (by exact hstk) (lv_room hsum) d (by rw [hR]; exact hcs)) hD C.A hS hl kk
/-- a private static method of a nest mate -/
def ze_Kn (Ts : List Cond) (y : MethodName) (ws : List Cond) (rm rm' : Room) (na : Nat) : Prop := ∃ (bytes : ByteArray) (maxL : Nat) (ret : Option FieldType) (ws' : List Cond), GoodIn Ts ws ∧ ws = Cond.code y bytes maxL ret :: ws' ∧ Cond.initialized y.cls ∈ Ts ∧ Cond.static y ∈ Ts ∧ (y.cls ≠ "java/lang/invoke/MethodHandle" ∧ y.cls ≠ "java/lang/invoke/VarHandle" ∧ (parseMethodDescriptor y.desc).map (fun d => d.parameters.length) = some na) ∧ (rm'.frames + 1 ≤ rm.frames ∧ 8 + (maxL + 11) + rm'.locals ≤ rm.locals)
theorem ze_callSN {y : MethodName} {ws : List Cond} {rm' : Room} {idx : Nat} {host : String} {As : List Value} {po : ze_Po} {stk : List Value} (C : ze_C G cc Ts own rm nL) (hN : va_Nw (.methodLinkNest own idx y host) (ze_s G)) (M : ze_M (ze_l G) (ze_D G) (ze_i G) y ws rm' rm'.cells rm'.slots n ad E As po) (hK : ze_Kn Ts y ws rm rm' As.length) (hstk : stk = As.reverse ++ st) (hsum : (st.map fun v => v.category).sum ≤ 8) (hcs : cells + rm'.cells ≤ rm.cells ∧ slots + rm'.slots ≤ rm.slots) (d : decode cc pc = .ok (.invokestatic idx, 3))
    (kk : ∀ (v : Option Value) (n' : Nat) (ad' : Nat → Nat) (E' : Nat → va_E), po v n' ad' E' → ze_V G n' ad' E' (cells + rm'.cells) (slots + rm'.slots) (pc + 3) lv (v.toList ++ st)) : ze_V G n ad E cells slots pc lv stk := by
  intro H locs ls hP hD hS hl
  obtain ⟨bytes, maxL, ret, ws', h1, h2, h3, h4, h5, h6⟩ := hK
  have hR := C.R
  refine ze_cont (va_runSN (As := As) (rest := st) (host := host) ⟨C.x, C.b, C.ml, C.ow, C.ts⟩ (M H.size) ⟨va_cnB As.length C.ts h1 h2 rfl rfl hN (C.ts _ h3) h5 (by rw [hR]; exact h6), C.ts _ h4, trivial⟩ ⟨ze_blind, fun U hU hW => ⟨rfl, by rw [hU], by rw [hU]; exact hP, va_K.moved hW.alike C.K, hD.weaken (fun _ _ _ _ => trivial), C.N.warm hW⟩⟩ rfl rfl hl.1 (by exact hstk) (lv_room hsum) d (by rw [hR]; exact hcs)) hD C.A hS hl kk
end ZER
section ZEN
variable {G : ze_G} {cc : ByteArray} {Ts : List Cond} {own : String} {rm : Room} {nL : Nat} {n : Nat} {ad : Nat → Nat} {E : Nat → va_E} {cells slots pc : Nat} {lv : List (Nat × Value)} {st : List Value} {mc ms : Nat} {post : ze_Po}
theorem ze_newi {len : Nat} (C : ze_C G cc Ts own rm nL) (harr : Cond.arrayClass .int ∈ Ts) (hlen : len < 1000) (hc : cells + 1 ≤ rm.cells) (hs : slots + len ≤ rm.slots) (d : decode cc pc = .ok (.newarray .int, 2))
    (kk : ∀ ad' : Nat → Nat, (∀ k, k < n → ad' k = ad k) → ze_V G (n + 1) ad' (va_up E n (.inl (ze_i G 0, len, .inl (fun _ => 0)))) (cells + 1) (slots + len) (pc + 2) lv (.ref (ad' n) :: st)) : ze_V G n ad E cells slots pc lv (.int (nI len) :: st) := by
  intro H locs ls hP hD hS hl
  have hR := C.R
  refine va_newa (D := ze_D G) C.x C.b (atype := .int) (C.ts _ harr) (ty := .int) rfl C.K hP hD hS C.A (n := nI len) (N' := len) (a0 := (len, .inl (fun _ => 0))) (fun cA => rfl) (nI_pos (by omega)) (nI_clamp (by omega)) (by show len * 4 ≤ 536870912; omega) (by rw [hR]; exact hc) (by rw [hR]; exact hs) d (fun q cA H1 hK1 hP1 hD1 hS1 => ?_)
  have e : cA = ze_i G 0 := by
    have h1 := (hK1.2 3 (cA, .int) rfl).2
    have h2 := (C.K.2 0 (ze_i G 0, .int) rfl).2
    exact Option.some.inj (h1.symm.trans h2)
  subst e
  rw [ze_w_push] at hP1 hD1
  have h := kk (va_up ad n q) (fun k hk => va_up_ne _ _ (by omega)) H1 locs ls hP1 hD1 hS1 hl
  rw [va_up_self] at h
  exact h
theorem ze_newz {len : Nat} (C : ze_C G cc Ts own rm nL) (harr : Cond.arrayClass .boolean ∈ Ts) (hlen : len < 1000) (hc : cells + 1 ≤ rm.cells) (hs : slots + len ≤ rm.slots) (d : decode cc pc = .ok (.newarray .boolean, 2))
    (kk : ∀ ad' : Nat → Nat, (∀ k, k < n → ad' k = ad k) → ze_V G (n + 1) ad' (va_up E n (.inl (ze_i G 1, len, .inl (fun _ => 0)))) (cells + 1) (slots + len) (pc + 2) lv (.ref (ad' n) :: st)) : ze_V G n ad E cells slots pc lv (.int (nI len) :: st) := by
  intro H locs ls hP hD hS hl
  have hR := C.R
  refine va_newa (D := ze_D G) C.x C.b (atype := .boolean) (C.ts _ harr) (ty := .boolean) rfl C.K hP hD hS C.A (n := nI len) (N' := len) (a0 := (len, .inl (fun _ => 0))) (fun cA => rfl) (nI_pos (by omega)) (nI_clamp (by omega)) (by show len * 1 ≤ 536870912; omega) (by rw [hR]; exact hc) (by rw [hR]; exact hs) d (fun q cA H1 hK1 hP1 hD1 hS1 => ?_)
  have e : cA = ze_i G 1 := by
    have h1 := (hK1.2 3 (cA, .boolean) rfl).2
    have h2 := (C.K.2 1 (ze_i G 1, .boolean) rfl).2
    exact Option.some.inj (h1.symm.trans h2)
  subst e
  rw [ze_w_push] at hP1 hD1
  have h := kk (va_up ad n q) (fun k hk => va_up_ne _ _ (by omega)) H1 locs ls hP1 hD1 hS1 hl
  rw [va_up_self] at h
  exact h
theorem ze_newq {len idx : Nat} (C : ze_C G cc Ts own rm nL) (hcl : Cond.classLink own idx ze_RT ∈ Ts) (hov : va_AO ze_RT (ze_s G)) (hlen : len < 1000) (hc : cells + 1 ≤ rm.cells) (hs : slots + len ≤ rm.slots) (d : decode cc pc = .ok (.anewarray idx, 3))
    (kk : ∀ ad' : Nat → Nat, (∀ k, k < n → ad' k = ad k) → ze_V G (n + 1) ad' (va_up E n (.inl (ze_i G 2, len, .inr (.inr (.inr (.inr (fun _ => none))))))) (cells + 1) (slots + len) (pc + 3) lv (.ref (ad' n) :: st)) : ze_V G n ad E cells slots pc lv (.int (nI len) :: st) := by
  intro H locs ls hP hD hS hl
  have hR := C.R
  refine va_newq (D := ze_D G) C.x C.b C.ow (C.ts _ hcl) hov C.K hP hD hS C.A (n := nI len) (N' := len) (nI_pos (by omega)) (nI_clamp (by omega)) (by omega) (by rw [hR]; exact hc) (by rw [hR]; exact hs) d (fun q cA H1 hK1 hP1 hD1 hS1 => ?_)
  have e : cA = ze_i G 2 := by
    obtain ⟨k1, c1, -, -, -, h1⟩ := (hK1.2 3 (cA, .object ze_RT) rfl).2
    obtain ⟨k2, c2, -, -, -, h2⟩ := (C.K.2 2 (ze_i G 2, .object ze_RT) rfl).2
    exact Option.some.inj (h1.symm.trans h2)
  subst e
  rw [ze_w_push] at hP1 hD1
  have h := kk (va_up ad n q) (fun k hk => va_up_ne _ _ (by omega)) H1 locs ls hP1 hD1 hS1 hl
  rw [va_up_self] at h
  exact h
/-- the words of a new -/
def ze_Fn (Ts : List Cond) (own : String) (idx ci : Nat) (fs : List Value) : Prop := ∃ (C : String) (T : u_T) (N : Nat) (ty : Nat → FieldType), vwCl[ci]? = some (C, T, N) ∧ (∀ w ∈ u_ws C T N, w ∈ Ts) ∧ (∀ k, k < N → parseFieldDescriptor (T k).2.2.1 = some (ty k)) ∧ Cond.classLink own idx C ∈ Ts ∧ Cond.instantiable C N ∈ Ts ∧ Cond.initialized C ∈ Ts ∧ (∀ j, j < N → defaultValue (ty j) = vp_V fs j) ∧ N = fs.length
theorem ze_new {idx ci : Nat} {fs : List Value} (C : ze_C G cc Ts own rm nL) (hF : ze_Fn Ts own idx ci fs) (hc : cells + 1 ≤ rm.cells) (hs : slots + fs.length ≤ rm.slots) (d : decode cc pc = .ok (.new idx, 3))
    (kk : ∀ ad' : Nat → Nat, (∀ k, k < n → ad' k = ad k) → ze_V G (n + 1) ad' (va_up E n (.inr (ci, fs))) (cells + 1) (slots + fs.length) (pc + 3) lv (.ref (ad' n) :: st)) : ze_V G n ad E cells slots pc lv st := by
  intro H locs ls hP hD hS hl
  have hR := C.R
  obtain ⟨Cn, T, N, ty, h1, h2, h3, h4, h5, h6, h7, h8⟩ := hF
  subst h8
  refine va_new (D := ze_D G) C.x C.b C.ts h2 ty h3 C.ow (C.ts _ h4) (C.ts _ h5) (C.ts _ h6) C.K hP hD hS C.A h1 h7 (by rw [hR]; exact hc) (by rw [hR]; exact hs) d (fun q H1 hP1 hD1 hS1 => ?_)
  rw [ze_w_push] at hP1 hD1
  have h := kk (va_up ad n q) (fun k hk => va_up_ne _ _ (by omega)) H1 locs ls hP1 hD1 hS1 hl
  rw [va_up_self] at h
  exact h
theorem ze_objInit {idx k : Nat} (C : ze_C G cc Ts own rm nL) (h1 : Cond.methodLink own idx Lib.objectInit ∈ Ts) (h2 : Cond.instanceMethod Lib.objectInit ∈ Ts) (h3 : Cond.code Lib.objectInit ⟨#[0xb1]⟩ 1 none ∈ Ts) (hf : 1 ≤ rm.frames) (hlo : (st.map fun v => v.category).sum + 12 ≤ rm.locals) (d : decode cc pc = .ok (.invokespecial idx, 3)) (kk : ze_V G n ad E cells slots (pc + 3) lv st) : ze_V G n ad E cells slots pc lv (.ref (ad k) :: st) := by
  intro H locs ls hP hD hS hl
  have hR := C.R
  refine W.objInit C.x C.b C.ow (C.ts _ h1) (C.ts _ h2) (C.ts _ h3) rfl (by rw [C.ml]; exact hl.1) rfl d (by rw [hR]; exact hf) ?_ ?_
  · rw [hR]
    have : (F0 (ze_m G) pc ls (.ref (ad k) :: st)).monitorRoom = 0 := rfl
    rw [this]
    omega
  · exact kk H locs ls hP hD hS hl
/-- a constructor: of a class (methodLink), or private to a nest mate (methodLinkNest) -/
def ze_Ki (Ts : List Cond) (own : String) (idx : Nat) (y : MethodName) (ws : List Cond) (rm rm' : Room) (na : Nat) : Prop := ∃ (bytes : ByteArray) (maxL : Nat) (ws' : List Cond), GoodIn Ts ws ∧ ws = Cond.code y bytes maxL none :: ws' ∧ Cond.initialized y.cls ∈ Ts ∧ Cond.methodLink own idx y ∈ Ts ∧ Cond.instanceMethod y ∈ Ts ∧ y.name = "<init>" ∧ (y.cls ≠ "java/lang/invoke/MethodHandle" ∧ y.cls ≠ "java/lang/invoke/VarHandle" ∧ (parseMethodDescriptor y.desc).map (fun d => d.parameters.length) = some na) ∧ (rm'.frames + 1 ≤ rm.frames ∧ 8 + (maxL + 11) + rm'.locals ≤ rm.locals)
theorem ze_callI {y : MethodName} {ws : List Cond} {rm' : Room} {idx k : Nat} {As : List Value} {po : ze_Po} {stk : List Value} (C : ze_C G cc Ts own rm nL) (M : ze_M (ze_l G) (ze_D G) (ze_i G) y ws rm' rm'.cells rm'.slots n ad E (.ref (ad k) :: As) po) (hK : ze_Ki Ts own idx y ws rm rm' As.length) (hstk : stk = As.reverse ++ .ref (ad k) :: st) (hsum : (st.map fun v => v.category).sum ≤ 8) (hcs : cells + rm'.cells ≤ rm.cells ∧ slots + rm'.slots ≤ rm.slots) (d : decode cc pc = .ok (.invokespecial idx, 3))
    (kk : ∀ (v : Option Value) (n' : Nat) (ad' : Nat → Nat) (E' : Nat → va_E), po v n' ad' E' → ze_V G n' ad' E' (cells + rm'.cells) (slots + rm'.slots) (pc + 3) lv (v.toList ++ st)) : ze_V G n ad E cells slots pc lv stk := by
  intro H locs ls hP hD hS hl
  obtain ⟨bytes, maxL, ws', h1, h2, h3, h4, h5, h6, h7, h8⟩ := hK
  have hR := C.R
  refine ze_cont (va_runI (As := As) (rest := st) (b := ad k) ⟨C.x, C.b, C.ml, C.ow, C.ts⟩ (M H.size) (cwI As.length C.ts h1 h2 rfl rfl (C.ts _ h3) (C.ts _ h4) (C.ts _ h5) h6 h7 (by rw [hR]; exact h8)) ⟨ze_blind, fun U hU hW => ⟨rfl, by rw [hU], by rw [hU]; exact hP, va_K.moved hW.alike C.K, hD.weaken (fun _ _ _ _ => trivial), C.N.warm hW⟩⟩ rfl rfl hl.1 (by exact hstk) (lv_room hsum) d (by rw [hR]; exact hcs)) hD C.A hS hl kk
def ze_Kj (Ts : List Cond) (y : MethodName) (ws : List Cond) (rm rm' : Room) (na : Nat) : Prop := ∃ (bytes : ByteArray) (maxL : Nat) (ws' : List Cond), GoodIn Ts ws ∧ ws = Cond.code y bytes maxL none :: ws' ∧ Cond.initialized y.cls ∈ Ts ∧ Cond.instanceMethod y ∈ Ts ∧ y.name = "<init>" ∧ (y.cls ≠ "java/lang/invoke/MethodHandle" ∧ y.cls ≠ "java/lang/invoke/VarHandle" ∧ (parseMethodDescriptor y.desc).map (fun d => d.parameters.length) = some na) ∧ (rm'.frames + 1 ≤ rm.frames ∧ 8 + (maxL + 11) + rm'.locals ≤ rm.locals)
theorem ze_callIN {y : MethodName} {ws : List Cond} {rm' : Room} {idx k : Nat} {host : String} {As : List Value} {po : ze_Po} {stk : List Value} (C : ze_C G cc Ts own rm nL) (hN : va_Nw (.methodLinkNest own idx y host) (ze_s G)) (M : ze_M (ze_l G) (ze_D G) (ze_i G) y ws rm' rm'.cells rm'.slots n ad E (.ref (ad k) :: As) po) (hK : ze_Kj Ts y ws rm rm' As.length) (hstk : stk = As.reverse ++ .ref (ad k) :: st) (hsum : (st.map fun v => v.category).sum ≤ 8) (hcs : cells + rm'.cells ≤ rm.cells ∧ slots + rm'.slots ≤ rm.slots) (d : decode cc pc = .ok (.invokespecial idx, 3))
    (kk : ∀ (v : Option Value) (n' : Nat) (ad' : Nat → Nat) (E' : Nat → va_E), po v n' ad' E' → ze_V G n' ad' E' (cells + rm'.cells) (slots + rm'.slots) (pc + 3) lv (v.toList ++ st)) : ze_V G n ad E cells slots pc lv stk := by
  intro H locs ls hP hD hS hl
  obtain ⟨bytes, maxL, ws', h1, h2, h3, h5, h6, h7, h8⟩ := hK
  have hR := C.R
  refine ze_cont (va_runIN (As := As) (rest := st) (b := ad k) (host := host) ⟨C.x, C.b, C.ml, C.ow, C.ts⟩ (M H.size) ⟨va_cnB As.length C.ts h1 h2 rfl rfl hN (C.ts _ h3) h7 (by rw [hR]; exact h8), h6, C.ts _ h5⟩ ⟨ze_blind, fun U hU hW => ⟨rfl, by rw [hU], by rw [hU]; exact hP, va_K.moved hW.alike C.K, hD.weaken (fun _ _ _ _ => trivial), C.N.warm hW⟩⟩ rfl rfl hl.1 (by exact hstk) (lv_room hsum) d (by rw [hR]; exact hcs)) hD C.A hS hl kk
end ZEN
