/-! AN ARRAY THAT IS ONLY READ: it lies in the first heap, and outside of what may change -/
def ze_fz (G : ze_G) (p : Nat) (cl : Cell) : Prop := p < (ze_s G).heap.size ∧ ¬ ze_A G p ∧ (ze_s G).heap[p]? = some cl ∧ (ze_s G).isArrayOf cl .int ∧ cl.vm ≠ .unknown
section ZEF
variable {G : ze_G} {cc : ByteArray} {Ts : List Cond} {own : String} {rm : Room} {nL : Nat} {n : Nat} {ad : Nat → Nat} {E : Nat → va_E} {cells slots pc : Nat} {lv : List (Nat × Value)} {st : List Value} {p : Nat} {cl : Cell}
theorem ze_fz.at (F : ze_fz G p cl) {H : Heap} {locs : List Loc} (hS : va_S (ze_A G) (ze_s G).heap H locs) : H[p]? = some cl := (hS.2.1 p F.1 F.2.1).trans F.2.2.1
theorem ze_fld {i : Nat} {v : Value} (C : ze_C G cc Ts own rm nL) (F : ze_fz G p cl) (hi : i < cl.slots.size) (hs : cl.slots.size < 2 ^ 31) (hv : cl.slots[i]? = some v) (d : decode cc pc = .ok (.iaload, 1)) (kk : ze_V G n ad E cells slots (pc + 1) lv (v :: st)) : ze_V G n ad E cells slots pc lv (.int (nI i) :: .ref p :: st) := by
  intro H locs ls hP hD hS hl
  have hc : (nI i).toNatClampNeg = i := nI_clamp (Nat.lt_trans hi hs)
  exact W.iald (v := v) C.x C.b (F.at hS) F.2.2.2.1 F.2.2.2.2 (nI_in hi hs) (by rw [hc]; exact hv) rfl rfl d (kk H locs ls hP hD hS hl)
theorem ze_fln (C : ze_C G cc Ts own rm nL) (F : ze_fz G p cl) (d : decode cc pc = .ok (.arraylength, 1)) (kk : ze_V G n ad E cells slots (pc + 1) lv (.int (nI cl.slots.size) :: st)) : ze_V G n ad E cells slots pc lv (.ref p :: st) := by
  intro H locs ls hP hD hS hl
  exact W.alen (n := nI cl.slots.size) C.x C.b (F.at hS) F.2.2.2.1 rfl rfl rfl d (kk H locs ls hP hD hS hl)
end ZEF
/-- a contract at a heap that holds the cell cl at p, outside of the world -/
def ze_Ms (p : Nat) (cl : Cell) (l : Launch) (D : va_G) (ids : Nat → ClassId) (y : MethodName) (ws : List Cond) (rm : Room) (mc ms : Nat) (n : Nat) (ad : Nat → Nat) (E : Nat → va_E) (av : List Value) (post : ze_Po) : Prop :=
  ∀ sz : Nat, Met l y ws rm (va_Pc av (fun U => U.heap.size = sz ∧ va_P D vwCl (ze_w n ad E) U.heap ∧ va_K D vwCl (ze_ty ids) U ∧ va_D (fun _ => True) (ze_w n ad E) ∧ ze_N U ∧ U.heap[p]? = some cl ∧ U.isArrayOf cl .int)) (ze_Qc D ids (ze_Af n ad sz) post) mc ms (ze_Af n ad sz)
theorem ze_enterS {p0 : Nat} {cl : Cell} {l : Launch} {D : va_G} {ids : Nat → ClassId} {y : MethodName} {ws ws' : List Cond} {rm : Room} {mc ms n : Nat} {ad : Nat → Nat} {E : Nat → va_E} {av : List Value} {post : ze_Po} {cc : ByteArray} {maxL : Nat} {ret : Option FieldType}
    (hvm : cl.vm ≠ .unknown) (hout : ∀ k, k < n → p0 ≠ ad k)
    (hy : plainFor y = true) (hw : ws = Cond.code y cc maxL ret :: ws') (hlen : (lg_sl av).length ≤ maxL)
    (body : ∀ G : ze_G, ze_l G = l → ze_D G = D → ze_i G = ids → (ze_me G).name = y.name → ze_C G cc ws y.cls rm maxL → ze_Rt G ret mc ms post → ze_fz G p0 cl → ze_V G n ad E 0 0 0 (lv_args 0 av) []) : ze_Ms p0 cl l D ids y ws rm mc ms n ad E av post := by
  intro sz
  refine va_MetF (cc := cc) (maxL := maxL) (ret := ret) hy hw ?_
  intro p e s m args below meth c s₁ B hml hv
  obtain ⟨rfl, hsz, hP, hK, hD0, hN, hp, ha⟩ := hv
  subst hsz
  have hl := lv_entry av (n := maxL) hlen
  rw [lg_entry_eq]
  have hD : va_D (ze_Af n ad s.heap.size) (ze_w n ad E) := ⟨hD0.1, fun k q hk => by
    obtain ⟨h1, h2⟩ := ze_w_inv hk
    exact Or.inl ⟨k, h1, by rw [h2]⟩⟩
  have hlt : p0 < s.heap.size := by
    rcases Nat.lt_or_ge p0 s.heap.size with h | h
    · exact h
    · rw [Array.getElem?_eq_none h] at hp; cases hp
  exact body (p, l, e, (headSpec ws rm).room, s, m, av.toArray, below, meth, c, MQ below (ze_Qc D ids (ze_Af n ad s.heap.size) post) av.toArray s mc ms (ze_Af n ad s.heap.size), maxL, D, ids, ze_Af n ad s.heap.size) rfl rfl rfl (name_of_methodNamed B.named B.method).1
    ⟨B.exec, B.bytes, hml, findClass_of_methodNamed B.named, atoms_spec (ws := ws) B.pre, hK, fun q h => Or.inr h, B.notSynchronized, rfl, rfl, hN⟩ ⟨B.returns, rfl⟩ ⟨hlt, fun z => z.elim (fun ⟨k, hk, e⟩ => hout k hk e) (fun z => absurd hlt (Nat.not_lt.mpr z)), hp, ha, hvm⟩ s.heap [] _ hP hD va_S.rf hl
