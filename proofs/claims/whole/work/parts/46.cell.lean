section ZEG
variable {G : ze_G} {cc : ByteArray} {Ts : List Cond} {own : String} {rm : Room} {nL : Nat} {n : Nat} {ad : Nat → Nat} {E : Nat → va_E} {cells slots pc : Nat} {lv : List (Nat × Value)} {st : List Value} {p : Nat} {cl : Cell}
theorem ze_blindS {D : va_G} {ids : Nat → ClassId} {av : List Value} {sz : Nat} : FrameBlind (va_Pc av (fun U => U.heap.size = sz ∧ va_P D vwCl (ze_w n ad E) U.heap ∧ va_K D vwCl (ze_ty ids) U ∧ va_D (fun _ => True) (ze_w n ad E) ∧ ze_N U ∧ U.heap[p]? = some cl ∧ U.isArrayOf cl .int)) := fun a U g mk q => by
  obtain ⟨q0, q1, qP, qK, qD, qN, qp, qa⟩ := q
  exact ⟨q0, q1, qP, va_K.moved (u := U) (U := U.calling g mk a) (Vm.Alike.refl U.vm) qK, qD, ze_N.same (u := U) (U := U.calling g mk a) rfl qN, qp, State.isArrayOf_alike (Vm.Alike.refl U.vm) qa⟩
theorem ze_callSs {y : MethodName} {ws : List Cond} {rm' : Room} {idx : Nat} {As : List Value} {po : ze_Po} {stk : List Value} (C : ze_C G cc Ts own rm nL) (F : ze_fz G p cl) (M : ze_Ms p cl (ze_l G) (ze_D G) (ze_i G) y ws rm' rm'.cells rm'.slots n ad E As po) (hK : ze_Ks Ts own idx y ws rm rm' As.length) (hstk : stk = As.reverse ++ st) (hsum : (st.map fun v => v.category).sum ≤ 8) (hcs : cells + rm'.cells ≤ rm.cells ∧ slots + rm'.slots ≤ rm.slots) (d : decode cc pc = .ok (.invokestatic idx, 3))
    (kk : ∀ (v : Option Value) (n' : Nat) (ad' : Nat → Nat) (E' : Nat → va_E), po v n' ad' E' → ze_V G n' ad' E' (cells + rm'.cells) (slots + rm'.slots) (pc + 3) lv (v.toList ++ st)) : ze_V G n ad E cells slots pc lv stk := by
  intro H locs ls hP hD hS hl
  obtain ⟨bytes, maxL, ret, ws', h1, h2, h3, h4⟩ := hK
  have hR := C.R
  refine ze_cont (va_runS (As := As) (rest := st) ⟨C.x, C.b, C.ml, C.ow, C.ts⟩ (M H.size) (va_cwS As.length C.ts h1 h2 rfl rfl h3 (by rw [hR]; exact h4)) ⟨ze_blindS, fun U hU hW => ⟨rfl, by rw [hU], by rw [hU]; exact hP, va_K.moved hW.alike C.K, hD.weaken (fun _ _ _ _ => trivial), C.N.warm hW, by rw [hU]; exact F.at hS, State.isArrayOf_alike hW.alike F.2.2.2.1⟩⟩ rfl rfl hl.1 (by exact hstk) (lv_room hsum) d (by rw [hR]; exact hcs)) hD C.A hS hl kk
end ZEG
/-- the script's number at i, 0 behind its end -/
def ze_at (cl : Cell) (f : Nat → Int32) (i : Nat) : Int32 := if i < cl.slots.size then f i else 0
/-- a cell of numbers -/
def ze_nums (cl : Cell) (f : Nat → Int32) : Prop := cl.vm ≠ .unknown ∧ cl.slots.size < 2 ^ 31 ∧ ∀ i, i < cl.slots.size → cl.slots[i]? = some (.int (f i))

set_option maxRecDepth 100000 in
theorem c_L_cell (l : Launch) (D : va_G) (ids : Nat → ClassId) (n : Nat) (ad : Nat → Nat) (E : Nat → va_E) (p : Nat) (cl : Cell) (f : Nat → Int32) (hf : ze_nums cl f) (hout : ∀ k, k < n → p ≠ ad k) (i : Nat) (hi : i < 2 ^ 31) : ze_Ms p cl l D ids y_L_cell ws_L_cell (ze_rm 1) 0 0 n ad E [.ref p, .int (nI i)] (ze_p0 n ad E (fun v => v = some (.int (ze_at cl f i)))) := by
  refine ze_enterS (cc := b_L_cell) (maxL := 2) (ret := (some .int)) hf.1 hout (by decide +kernel) rfl (Nat.le_of_ble_eq_true rfl) ?_
  rintro G rfl rfl rfl - C Rt F
  refine ze_lv (lv' := [(0, .ref p), (1, .int (nI i))]) rfl ?_
  refine ze_iload_n C d_L_cell_0 1 rfl rfl ?_
  refine ze_aload_n C d_L_cell_1 0 rfl rfl ?_
  refine ze_fln C F d_L_cell_2 ?_
  refine ze_icmp_geN 12 C d_L_cell_3 (by decide) hi hf.2.1 (fun h3 => ?_) (fun h3 => ?_)
  · refine ze_iconst (v := 0) C d_L_cell_12 (by decide) ?_
    exact ze_iret C Rt d_L_cell_13 ⟨rfl, rfl, rfl, by rw [ze_at, if_neg (by omega)]⟩
  · refine ze_aload_n C d_L_cell_6 0 rfl rfl ?_
    refine ze_iload_n C d_L_cell_7 1 rfl rfl ?_
    refine ze_fld C F h3 hf.2.1 (hf.2.2 i h3) d_L_cell_8 ?_
    refine ze_goto 13 C d_L_cell_9 (by decide) ?_
    exact ze_iret C Rt d_L_cell_13 ⟨rfl, rfl, rfl, by rw [ze_at, if_pos h3]⟩
