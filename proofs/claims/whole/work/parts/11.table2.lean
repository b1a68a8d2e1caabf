theorem ze_Hl_step {f g : Nat → Int32} {p : Nat} {L : List ze_Row} (h : ze_Hl f g p (L.drop p)) (hp : p < L.length) : L[p]? = some (f p, g p) ∧ L.take (p + 1) = L.take p ++ [(f p, g p)] ∧ ze_Hl f g (p + 1) (L.drop (p + 1)) := by
  rw [List.drop_eq_getElem_cons hp, ze_Hl_cons] at h
  obtain ⟨⟨h1, h2⟩, h3⟩ := h
  have e : L[p] = (f p, g p) := Prod.ext h1.symm h2.symm
  have e2 : L[p]? = some (f p, g p) := by rw [List.getElem?_eq_getElem hp, e]
  refine ⟨e2, ?_, h3⟩
  rw [List.take_succ, e2]
  rfl
theorem ze_arr_exit {o : Nat} {L P1 P2 : List ze_Row} {p q : Nat} {f g : Nat → Int32} {key value : Int32} (hp : p < L.length) (hr : L[p]? = some (key, value)) (h1 : P1.length = q) (h2 : ze_srt o (L.take p) = P1 ++ P2) (h3 : ze_Hl f g 0 P1) (h4 : ze_Hl f g (q + 1) P2) (h5 : ze_Hl f g (p + 1) (L.drop (p + 1))) (h6 : ∀ e ∈ P2, ze_lt o (key, value) e = true) (h7 : ∀ e, P1.getLast? = some e → ze_lt o (key, value) e = false) :
    ze_Hl (upd f q key) (upd g q value) 0 (ze_srt o (L.take (p + 1))) ∧ ze_Hl (upd f q key) (upd g q value) (p + 1) (L.drop (p + 1)) := by
  have hlen : p = q + P2.length := by
    have := ze_srt_len o (L.take p)
    rw [h2, List.length_append, List.length_take] at this
    omega
  have e1 : L.take (p + 1) = L.take p ++ [(key, value)] := by
    rw [List.take_succ, hr]
    rfl
  refine ⟨?_, ze_Hl_upd h5 (Or.inl (by omega))⟩
  rw [e1, ze_srt_snoc, h2, ze_ins_split h6 h7, List.reverse_reverse, ze_Hl_app, ze_Hl_cons]
  refine ⟨ze_Hl_upd h3 (Or.inr (by omega)), ?_, ?_⟩
  · rw [h1, Nat.zero_add]
    exact ⟨pk_us, pk_us⟩
  · rw [h1, Nat.zero_add]
    exact ze_Hl_upd h4 (Or.inl (by omega))
theorem ze_arr_last {P1 : List ze_Row} {q : Nat} {f g : Nat → Int32} (h1 : P1.length = q) (h3 : ze_Hl f g 0 P1) (hq : 0 < q) : P1.getLast? = some (f (q - 1), g (q - 1)) := by
  have := ze_Hl_row h3 (p := q - 1) (by omega)
  rw [Nat.zero_add] at this
  rw [List.getLast?_eq_getElem?, h1]
  exact this
theorem ze_arr_step {o : Nat} {L P1 P2 : List ze_Row} {p q : Nat} {f g : Nat → Int32} {key value : Int32} (h1 : P1.length = q) (h2 : ze_srt o (L.take p) = P1 ++ P2) (hqp : q ≤ p) (h3 : ze_Hl f g 0 P1) (h4 : ze_Hl f g (q + 1) P2) (h5 : ze_Hl f g (p + 1) (L.drop (p + 1))) (h6 : ∀ e ∈ P2, ze_lt o (key, value) e = true) (hq : 0 < q) (hlt : ze_lt o (key, value) (f (q - 1), g (q - 1)) = true) :
    ∃ P1' P2' : List ze_Row, P1'.length = q - 1 ∧ ze_srt o (L.take p) = P1' ++ P2' ∧ ze_Hl (upd f q (f (q - 1))) (upd g q (g (q - 1))) 0 P1' ∧ ze_Hl (upd f q (f (q - 1))) (upd g q (g (q - 1))) (q - 1 + 1) P2' ∧ ze_Hl (upd f q (f (q - 1))) (upd g q (g (q - 1))) (p + 1) (L.drop (p + 1)) ∧ ∀ e ∈ P2', ze_lt o (key, value) e = true := by
  have hl := ze_arr_last h1 h3 hq
  rcases List.eq_nil_or_concat P1 with e | ⟨K, z, e⟩
  · rw [e] at h1
    simp at h1
    omega
  · rw [List.concat_eq_append] at e
    subst e
    rw [List.getLast?_append] at hl
    simp only [List.getLast?_singleton, Option.some_or, Option.some.injEq] at hl
    rw [List.length_append, List.length_singleton] at h1
    have hK := (ze_Hl_app.mp h3).1
    refine ⟨K, z :: P2, by omega, by rw [h2, List.append_assoc]; rfl, ze_Hl_upd hK (Or.inr (by omega)), ?_, ze_Hl_upd h5 (Or.inl (by omega)), fun e he => ?_⟩
    · rw [ze_Hl_cons, show q - 1 + 1 = q by omega]
      refine ⟨?_, ze_Hl_upd h4 (Or.inl (by omega))⟩
      rw [hl]
      exact ⟨pk_us, pk_us⟩
    · rcases List.mem_cons.mp he with rfl | he
      · rw [hl]; exact hlt
      · exact h6 e he

set_option maxRecDepth 100000 in
set_option maxHeartbeats 4000000 in
theorem c_T_copyFrom (l : Launch) (D : va_G) (ids : Nat → ClassId) (ad : Nat → Nat) (ms : ze_MS) (M : Nat) (T : Nat → ze_T) (hd : Nat → Bool) (mv : Int64) (i : Nat) (hi : i < 12) (f g : Nat → Int32) (c : Nat) (o : Bool) (j : Nat) (hj : j < 12) (hne : j ≠ i) (hcj : (T j).2.2.1 ≤ 60) : ze_MX l D ids ad ms y_T_copyFrom ws_T_copyFrom 2 (M, va_up T i (f, g, c, o), hd, mv) [.ref (ad (3 + 3 * i)), .ref (ad (3 + 3 * j))] (fun v x' => v = none ∧ x' = (M, va_up T i (va_cpy (T j).1 f 0 0 (T j).2.2.1, va_cpy (T j).2.1 g 0 0 (T j).2.2.1, (T j).2.2.1, false), hd, mv)) := by
  refine ze_enter (cc := b_T_copyFrom) (maxL := 2) (ret := none) (by decide +kernel) rfl (Nat.le_of_ble_eq_true rfl) ?_
  rintro G rfl rfl rfl - C Rt
  refine ze_lv (lv' := [(0, .ref (ad (3 + 3 * i))), (1, .ref (ad (3 + 3 * j)))]) rfl ?_
  refine ze_aload_n C d_T_copyFrom_0 1 rfl rfl ?_
  refine ze_getf (k := 3 + 3 * j) C fl_T_9 (by omega) (ze_O_t (j := j) hj hne) rfl d_T_copyFrom_1 ?_
  refine ze_iconst (v := nI 0) C d_T_copyFrom_4 (by decide) ?_
  refine ze_aload_n C d_T_copyFrom_5 0 rfl rfl ?_
  refine ze_getf (k := 3 + 3 * i) C fl_T_9 (by omega) (ze_F_t (i := i) hi) rfl d_T_copyFrom_6 ?_
  refine ze_iconst (v := nI 0) C d_T_copyFrom_9 (by decide) ?_
  refine ze_aload_n C d_T_copyFrom_10 1 rfl rfl ?_
  refine ze_getf (k := 3 + 3 * j) C fl_T_18 (by omega) (ze_O_t (j := j) hj hne) rfl d_T_copyFrom_11 ?_
  refine ze_copy (k0 := 4 + 3 * j) (k1 := 4 + 3 * i) (sp := 0) (dp := 0) (len := (T j).2.2.1) C (List.mem_cons_of_mem _ zw_91) (List.mem_cons_of_mem _ zw_93) (List.mem_cons_of_mem _ zw_92) (List.mem_cons_of_mem _ zw_5) (by omega) (by omega) (ze_O_k (j := j) hj hne) (ze_F_k (i := i) hi) (by omega) (by omega) (by decide) (by decide) (by decide) (Nat.le_of_ble_eq_true rfl) d_T_copyFrom_14 ?_
  refine ze_eqE (ze_W_k (i := i) hi) ?_
  refine ze_aload_n C d_T_copyFrom_17 1 rfl rfl ?_
  refine ze_getf (k := 3 + 3 * j) C fl_T_15 (by omega) (ze_O_t (j := j) hj hne) rfl d_T_copyFrom_18 ?_
  refine ze_iconst (v := nI 0) C d_T_copyFrom_21 (by decide) ?_
  refine ze_aload_n C d_T_copyFrom_22 0 rfl rfl ?_
  refine ze_getf (k := 3 + 3 * i) C fl_T_15 (by omega) (ze_F_t (i := i) hi) rfl d_T_copyFrom_23 ?_
  refine ze_iconst (v := nI 0) C d_T_copyFrom_26 (by decide) ?_
  refine ze_aload_n C d_T_copyFrom_27 1 rfl rfl ?_
  refine ze_getf (k := 3 + 3 * j) C fl_T_18 (by omega) (ze_O_t (j := j) hj hne) rfl d_T_copyFrom_28 ?_
  refine ze_copy (k0 := 5 + 3 * j) (k1 := 5 + 3 * i) (sp := 0) (dp := 0) (len := (T j).2.2.1) C (List.mem_cons_of_mem _ zw_91) (List.mem_cons_of_mem _ zw_93) (List.mem_cons_of_mem _ zw_92) (List.mem_cons_of_mem _ zw_5) (by omega) (by omega) (ze_O_v (j := j) hj hne) (ze_F_v (i := i) hi) (by omega) (by omega) (by decide) (by decide) (by decide) (Nat.le_of_ble_eq_true rfl) d_T_copyFrom_31 ?_
  refine ze_eqE (ze_W_v (i := i) hi) ?_
  refine ze_aload_n C d_T_copyFrom_34 0 rfl rfl ?_
  refine ze_aload_n C d_T_copyFrom_35 1 rfl rfl ?_
  refine ze_getf (k := 3 + 3 * j) C fl_T_18 (by omega) (ze_O_t (j := j) hj hne) rfl d_T_copyFrom_36 ?_
  refine ze_putf (k := 3 + 3 * i) C fp_T_18 (by omega) (ze_F_t (i := i) hi) rfl rfl (Nat.le_of_ble_eq_true rfl) d_T_copyFrom_39 ?_
  refine ze_eqE (ze_W_t (i := i) (c' := (T j).2.2.1) (o' := o) hi) ?_
  refine ze_aload_n C d_T_copyFrom_42 0 rfl rfl ?_
  refine ze_iconst (v := ze_bi false) C d_T_copyFrom_43 (by decide) ?_
  refine ze_putf (k := 3 + 3 * i) C fp_T_22 (by omega) (ze_F_t (i := i) hi) rfl rfl (Nat.le_of_ble_eq_true rfl) d_T_copyFrom_44 ?_
  refine ze_eqE (ze_W_t (i := i) (c' := (T j).2.2.1) (o' := false) hi) ?_
  exact ze_vret C Rt d_T_copyFrom_47 (⟨rfl, rfl, _, rfl, rfl, rfl⟩)

set_option maxRecDepth 100000 in
set_option maxHeartbeats 4000000 in
theorem c_T_dropRepeats (l : Launch) (D : va_G) (ids : Nat → ClassId) (ad : Nat → Nat) (ms : ze_MS) (M : Nat) (T : Nat → ze_T) (hd : Nat → Bool) (mv : Int64) (i : Nat) (hi : i < 12) (f g : Nat → Int32) (c : Nat) (o : Bool) (L : List ze_Row) (hH : ze_H (f, g, c, o) L) (hc : c ≤ 60) : ze_MX l D ids ad ms y_T_dropRepeats ws_T_dropRepeats 1 (M, va_up T i (f, g, c, o), hd, mv) [.ref (ad (3 + 3 * i))] (fun v x' => v = none ∧ ∃ f' g', x' = (M, va_up T i (f', g', (ze_dd L).length, o), hd, mv) ∧ ze_H (f', g', (ze_dd L).length, o) (ze_dd L)) := by
  refine ze_enter (cc := b_T_dropRepeats) (maxL := 3) (ret := none) (by decide +kernel) rfl (Nat.le_of_ble_eq_true rfl) ?_
  rintro G rfl rfl rfl - C Rt
  refine ze_lv (lv' := [(0, .ref (ad (3 + 3 * i)))]) rfl ?_
  have loop : ∀ (r : Nat) (p k : Nat) (f g : Nat → Int32), c - p = r → p ≤ c → k = (ze_dd (L.take p)).length → k ≤ p → ze_Hl f g 0 (ze_dd (L.take p)) → ze_Hl f g p (L.drop p) → ze_V G 48 ad (ze_E (ze_i G) ad (M, va_up T i (f, g, c, o), hd, mv) ms) 0 0 4 [(2, .int (nI p)), (1, .int (nI k)), (0, .ref (ad (3 + 3 * i)))] [] := by
    intro r
    induction r using Nat.strongRecOn with
    | ind r ih =>
      intro p k f g hr h1 h2 h3 h4 h5
      have hcL : c = L.length := hH.1
      refine ze_iload_n C d_T_dropRepeats_4 0 rfl rfl ?_
      refine ze_aload_n C d_T_dropRepeats_5 2 rfl rfl ?_
      refine ze_getf (k := 3 + 3 * i) C fl_T_18 (by omega) (ze_F_t (i := i) hi) rfl d_T_dropRepeats_6 ?_
      refine ze_icmp_geN 83 C d_T_dropRepeats_9 (by decide) (by omega) (by omega) (fun h9 => ?_) (fun h9 => ?_)
      · have hT : L.take p = L := List.take_of_length_le (by omega)
        rw [hT] at h2 h4
        refine ze_aload_n C d_T_dropRepeats_83 2 rfl rfl ?_
        refine ze_iload_n C d_T_dropRepeats_84 1 rfl rfl ?_
        refine ze_putf (k := 3 + 3 * i) C fp_T_18 (by omega) (ze_F_t (i := i) hi) rfl rfl (Nat.le_of_ble_eq_true rfl) d_T_dropRepeats_85 ?_
        refine ze_eqE (ze_W_t (i := i) (c' := k) (o' := o) hi) ?_
        exact ze_vret C Rt d_T_dropRepeats_88 (⟨rfl, rfl, _, rfl, rfl, f, g, by rw [h2], rfl, by omega, h4⟩)
      · refine ze_iload_n C d_T_dropRepeats_12 1 rfl rfl ?_
        refine ze_if_eqN 50 C d_T_dropRepeats_13 (by decide) (by omega) (fun h13 => ?_) (fun h13 => ?_)
        · have hlast : ¬ (ze_dd (L.take p)).getLast? = some (f p, g p) := fun q => by rw [List.eq_nil_of_length_eq_zero (h2.symm.trans h13)] at q; cases q
          refine ze_aload_n C d_T_dropRepeats_50 2 rfl rfl ?_
          refine ze_getf (k := 3 + 3 * i) C fl_T_9 (by omega) (ze_F_t (i := i) hi) rfl d_T_dropRepeats_51 ?_
          refine ze_iload_n C d_T_dropRepeats_54 1 rfl rfl ?_
          refine ze_aload_n C d_T_dropRepeats_55 2 rfl rfl ?_
          refine ze_getf (k := 3 + 3 * i) C fl_T_9 (by omega) (ze_F_t (i := i) hi) rfl d_T_dropRepeats_56 ?_
          refine ze_iload_n C d_T_dropRepeats_59 0 rfl rfl ?_
          refine ze_iald (k := 4 + 3 * i) (i := p) C (by omega) (ze_F_k (i := i) hi) (by omega) (by decide) d_T_dropRepeats_60 ?_
          refine ze_iast (k := 4 + 3 * i) (i := k) C (by omega) (ze_F_k (i := i) hi) (by omega) (by decide) d_T_dropRepeats_61 ?_
          refine ze_eqE (ze_W_k (i := i) hi) ?_
          refine ze_aload_n C d_T_dropRepeats_62 2 rfl rfl ?_
          refine ze_getf (k := 3 + 3 * i) C fl_T_15 (by omega) (ze_F_t (i := i) hi) rfl d_T_dropRepeats_63 ?_
          refine ze_iload_n C d_T_dropRepeats_66 1 rfl rfl ?_
          refine ze_aload_n C d_T_dropRepeats_67 2 rfl rfl ?_
          refine ze_getf (k := 3 + 3 * i) C fl_T_15 (by omega) (ze_F_t (i := i) hi) rfl d_T_dropRepeats_68 ?_
          refine ze_iload_n C d_T_dropRepeats_71 0 rfl rfl ?_
          refine ze_iald (k := 5 + 3 * i) (i := p) C (by omega) (ze_F_v (i := i) hi) (by omega) (by decide) d_T_dropRepeats_72 ?_
          refine ze_iast (k := 5 + 3 * i) (i := k) C (by omega) (ze_F_v (i := i) hi) (by omega) (by decide) d_T_dropRepeats_73 ?_
          refine ze_eqE (ze_W_v (i := i) hi) ?_
          refine ze_iinc (j := 1) (v := nI (k + 1)) (lv' := [(1, .int (nI (k + 1))), (2, .int (nI p)), (0, .ref (ad (3 + 3 * i)))]) C d_T_dropRepeats_74 rfl (nI_1 _) (by decide) rfl ?_
          refine ze_iinc (j := 1) (v := nI (p + 1)) (lv' := [(2, .int (nI (p + 1))), (1, .int (nI (k + 1))), (0, .ref (ad (3 + 3 * i)))]) C d_T_dropRepeats_77 rfl (nI_1 _) (by decide) rfl ?_
          refine ze_goto 4 C d_T_dropRepeats_80 (by decide) ?_
          refine ze_sub [(2, .int (nI (p + 1))), (1, .int (nI (k + 1))), (0, .ref (ad (3 + 3 * i)))] [0, 1, 2] rfl ?_
          obtain ⟨e1, e2, e3⟩ := ze_Hl_step h5 (by omega)
          have e4 : ze_dd (L.take (p + 1)) = ze_dd (L.take p) ++ [(f p, g p)] := by rw [e2, ze_dd_snoc, if_neg hlast]
          refine ih (c - (p + 1)) (by omega) (p + 1) (k + 1) _ _ rfl (by omega) (by rw [e4, List.length_append, ← h2]; rfl) (by omega) ?_ (ze_Hl_upd e3 (Or.inl (by omega)))
          rw [e4]
          have h6 := ze_Hl_snoc (r := (f p, g p)) h4
          rw [Nat.zero_add, ← h2] at h6
          exact h6
        · refine ze_aload_n C d_T_dropRepeats_16 2 rfl rfl ?_
          refine ze_getf (k := 3 + 3 * i) C fl_T_9 (by omega) (ze_F_t (i := i) hi) rfl d_T_dropRepeats_17 ?_
          refine ze_iload_n C d_T_dropRepeats_20 0 rfl rfl ?_
          refine ze_iald (k := 4 + 3 * i) (i := p) C (by omega) (ze_F_k (i := i) hi) (by omega) (by decide) d_T_dropRepeats_21 ?_
          refine ze_aload_n C d_T_dropRepeats_22 2 rfl rfl ?_
          refine ze_getf (k := 3 + 3 * i) C fl_T_9 (by omega) (ze_F_t (i := i) hi) rfl d_T_dropRepeats_23 ?_
          refine ze_iload_n C d_T_dropRepeats_26 1 rfl rfl ?_
          refine ze_iconst (v := nI 1) C d_T_dropRepeats_27 (by decide) ?_
          refine ze_isubN C d_T_dropRepeats_28 (by omega) ?_
          refine ze_iald (k := 4 + 3 * i) (i := k - 1) C (by omega) (ze_F_k (i := i) hi) (by omega) (by decide) d_T_dropRepeats_29 ?_
          refine ze_icmp_ne 50 C d_T_dropRepeats_30 (by decide) (fun h30 => ?_) (fun h30 => ?_)
          · have hlast : ¬ (ze_dd (L.take p)).getLast? = some (f p, g p) := fun q => by rw [ze_arr_last h2.symm h4 (by omega)] at q; exact h30 (congrArg Prod.fst (Option.some.inj q)).symm
            refine ze_aload_n C d_T_dropRepeats_50 2 rfl rfl ?_
            refine ze_getf (k := 3 + 3 * i) C fl_T_9 (by omega) (ze_F_t (i := i) hi) rfl d_T_dropRepeats_51 ?_
            refine ze_iload_n C d_T_dropRepeats_54 1 rfl rfl ?_
            refine ze_aload_n C d_T_dropRepeats_55 2 rfl rfl ?_
            refine ze_getf (k := 3 + 3 * i) C fl_T_9 (by omega) (ze_F_t (i := i) hi) rfl d_T_dropRepeats_56 ?_
            refine ze_iload_n C d_T_dropRepeats_59 0 rfl rfl ?_
            refine ze_iald (k := 4 + 3 * i) (i := p) C (by omega) (ze_F_k (i := i) hi) (by omega) (by decide) d_T_dropRepeats_60 ?_
            refine ze_iast (k := 4 + 3 * i) (i := k) C (by omega) (ze_F_k (i := i) hi) (by omega) (by decide) d_T_dropRepeats_61 ?_
            refine ze_eqE (ze_W_k (i := i) hi) ?_
            refine ze_aload_n C d_T_dropRepeats_62 2 rfl rfl ?_
            refine ze_getf (k := 3 + 3 * i) C fl_T_15 (by omega) (ze_F_t (i := i) hi) rfl d_T_dropRepeats_63 ?_
            refine ze_iload_n C d_T_dropRepeats_66 1 rfl rfl ?_
            refine ze_aload_n C d_T_dropRepeats_67 2 rfl rfl ?_
            refine ze_getf (k := 3 + 3 * i) C fl_T_15 (by omega) (ze_F_t (i := i) hi) rfl d_T_dropRepeats_68 ?_
            refine ze_iload_n C d_T_dropRepeats_71 0 rfl rfl ?_
            refine ze_iald (k := 5 + 3 * i) (i := p) C (by omega) (ze_F_v (i := i) hi) (by omega) (by decide) d_T_dropRepeats_72 ?_
            refine ze_iast (k := 5 + 3 * i) (i := k) C (by omega) (ze_F_v (i := i) hi) (by omega) (by decide) d_T_dropRepeats_73 ?_
            refine ze_eqE (ze_W_v (i := i) hi) ?_
            refine ze_iinc (j := 1) (v := nI (k + 1)) (lv' := [(1, .int (nI (k + 1))), (2, .int (nI p)), (0, .ref (ad (3 + 3 * i)))]) C d_T_dropRepeats_74 rfl (nI_1 _) (by decide) rfl ?_
            refine ze_iinc (j := 1) (v := nI (p + 1)) (lv' := [(2, .int (nI (p + 1))), (1, .int (nI (k + 1))), (0, .ref (ad (3 + 3 * i)))]) C d_T_dropRepeats_77 rfl (nI_1 _) (by decide) rfl ?_
            refine ze_goto 4 C d_T_dropRepeats_80 (by decide) ?_
            refine ze_sub [(2, .int (nI (p + 1))), (1, .int (nI (k + 1))), (0, .ref (ad (3 + 3 * i)))] [0, 1, 2] rfl ?_
            obtain ⟨e1, e2, e3⟩ := ze_Hl_step h5 (by omega)
            have e4 : ze_dd (L.take (p + 1)) = ze_dd (L.take p) ++ [(f p, g p)] := by rw [e2, ze_dd_snoc, if_neg hlast]
            refine ih (c - (p + 1)) (by omega) (p + 1) (k + 1) _ _ rfl (by omega) (by rw [e4, List.length_append, ← h2]; rfl) (by omega) ?_ (ze_Hl_upd e3 (Or.inl (by omega)))
            rw [e4]
            have h6 := ze_Hl_snoc (r := (f p, g p)) h4
            rw [Nat.zero_add, ← h2] at h6
            exact h6
          · refine ze_aload_n C d_T_dropRepeats_33 2 rfl rfl ?_
            refine ze_getf (k := 3 + 3 * i) C fl_T_15 (by omega) (ze_F_t (i := i) hi) rfl d_T_dropRepeats_34 ?_
            refine ze_iload_n C d_T_dropRepeats_37 0 rfl rfl ?_
            refine ze_iald (k := 5 + 3 * i) (i := p) C (by omega) (ze_F_v (i := i) hi) (by omega) (by decide) d_T_dropRepeats_38 ?_
            refine ze_aload_n C d_T_dropRepeats_39 2 rfl rfl ?_
            refine ze_getf (k := 3 + 3 * i) C fl_T_15 (by omega) (ze_F_t (i := i) hi) rfl d_T_dropRepeats_40 ?_
            refine ze_iload_n C d_T_dropRepeats_43 1 rfl rfl ?_
            refine ze_iconst (v := nI 1) C d_T_dropRepeats_44 (by decide) ?_
            refine ze_isubN C d_T_dropRepeats_45 (by omega) ?_
            refine ze_iald (k := 5 + 3 * i) (i := k - 1) C (by omega) (ze_F_v (i := i) hi) (by omega) (by decide) d_T_dropRepeats_46 ?_
            refine ze_icmp_eq 77 C d_T_dropRepeats_47 (by decide) (fun h47 => ?_) (fun h47 => ?_)
            · have hlast : (ze_dd (L.take p)).getLast? = some (f p, g p) := by rw [ze_arr_last h2.symm h4 (by omega), h30, h47]
              refine ze_iinc (j := 0) (v := nI (p + 1)) (lv' := [(2, .int (nI (p + 1))), (1, .int (nI k)), (0, .ref (ad (3 + 3 * i)))]) C d_T_dropRepeats_77 rfl (nI_1 _) (by decide) rfl ?_
              refine ze_goto 4 C d_T_dropRepeats_80 (by decide) ?_
              refine ze_sub [(2, .int (nI (p + 1))), (1, .int (nI k)), (0, .ref (ad (3 + 3 * i)))] [0, 1, 2] rfl ?_
              obtain ⟨e1, e2, e3⟩ := ze_Hl_step h5 (by omega)
              have e4 : ze_dd (L.take (p + 1)) = ze_dd (L.take p) := by rw [e2, ze_dd_snoc, if_pos hlast]
              exact ih (c - (p + 1)) (by omega) (p + 1) k f g rfl (by omega) (by rw [e4]; exact h2) (by omega) (by rw [e4]; exact h4) e3
            · have hlast : ¬ (ze_dd (L.take p)).getLast? = some (f p, g p) := fun q => by rw [ze_arr_last h2.symm h4 (by omega)] at q; exact h47 (congrArg Prod.snd (Option.some.inj q)).symm
              refine ze_aload_n C d_T_dropRepeats_50 2 rfl rfl ?_
              refine ze_getf (k := 3 + 3 * i) C fl_T_9 (by omega) (ze_F_t (i := i) hi) rfl d_T_dropRepeats_51 ?_
              refine ze_iload_n C d_T_dropRepeats_54 1 rfl rfl ?_
              refine ze_aload_n C d_T_dropRepeats_55 2 rfl rfl ?_
              refine ze_getf (k := 3 + 3 * i) C fl_T_9 (by omega) (ze_F_t (i := i) hi) rfl d_T_dropRepeats_56 ?_
              refine ze_iload_n C d_T_dropRepeats_59 0 rfl rfl ?_
              refine ze_iald (k := 4 + 3 * i) (i := p) C (by omega) (ze_F_k (i := i) hi) (by omega) (by decide) d_T_dropRepeats_60 ?_
              refine ze_iast (k := 4 + 3 * i) (i := k) C (by omega) (ze_F_k (i := i) hi) (by omega) (by decide) d_T_dropRepeats_61 ?_
              refine ze_eqE (ze_W_k (i := i) hi) ?_
              refine ze_aload_n C d_T_dropRepeats_62 2 rfl rfl ?_
              refine ze_getf (k := 3 + 3 * i) C fl_T_15 (by omega) (ze_F_t (i := i) hi) rfl d_T_dropRepeats_63 ?_
              refine ze_iload_n C d_T_dropRepeats_66 1 rfl rfl ?_
              refine ze_aload_n C d_T_dropRepeats_67 2 rfl rfl ?_
              refine ze_getf (k := 3 + 3 * i) C fl_T_15 (by omega) (ze_F_t (i := i) hi) rfl d_T_dropRepeats_68 ?_
              refine ze_iload_n C d_T_dropRepeats_71 0 rfl rfl ?_
              refine ze_iald (k := 5 + 3 * i) (i := p) C (by omega) (ze_F_v (i := i) hi) (by omega) (by decide) d_T_dropRepeats_72 ?_
              refine ze_iast (k := 5 + 3 * i) (i := k) C (by omega) (ze_F_v (i := i) hi) (by omega) (by decide) d_T_dropRepeats_73 ?_
              refine ze_eqE (ze_W_v (i := i) hi) ?_
              refine ze_iinc (j := 1) (v := nI (k + 1)) (lv' := [(1, .int (nI (k + 1))), (2, .int (nI p)), (0, .ref (ad (3 + 3 * i)))]) C d_T_dropRepeats_74 rfl (nI_1 _) (by decide) rfl ?_
              refine ze_iinc (j := 1) (v := nI (p + 1)) (lv' := [(2, .int (nI (p + 1))), (1, .int (nI (k + 1))), (0, .ref (ad (3 + 3 * i)))]) C d_T_dropRepeats_77 rfl (nI_1 _) (by decide) rfl ?_
              refine ze_goto 4 C d_T_dropRepeats_80 (by decide) ?_
              refine ze_sub [(2, .int (nI (p + 1))), (1, .int (nI (k + 1))), (0, .ref (ad (3 + 3 * i)))] [0, 1, 2] rfl ?_
              obtain ⟨e1, e2, e3⟩ := ze_Hl_step h5 (by omega)
              have e4 : ze_dd (L.take (p + 1)) = ze_dd (L.take p) ++ [(f p, g p)] := by rw [e2, ze_dd_snoc, if_neg hlast]
              refine ih (c - (p + 1)) (by omega) (p + 1) (k + 1) _ _ rfl (by omega) (by rw [e4, List.length_append, ← h2]; rfl) (by omega) ?_ (ze_Hl_upd e3 (Or.inl (by omega)))
              rw [e4]
              have h6 := ze_Hl_snoc (r := (f p, g p)) h4
              rw [Nat.zero_add, ← h2] at h6
              exact h6
  refine ze_iconst (v := nI 0) C d_T_dropRepeats_0 (by decide) ?_
  refine ze_istore_n (lv' := [(1, .int (nI 0)), (0, .ref (ad (3 + 3 * i)))]) C d_T_dropRepeats_1 rfl (by decide) rfl ?_
  refine ze_iconst (v := nI 0) C d_T_dropRepeats_2 (by decide) ?_
  refine ze_istore_n (lv' := [(2, .int (nI 0)), (1, .int (nI 0)), (0, .ref (ad (3 + 3 * i)))]) C d_T_dropRepeats_3 rfl (by decide) rfl ?_
  exact loop _ 0 0 f g rfl (Nat.zero_le _) rfl (Nat.le_refl _) ze_Hl_nil (by rw [List.drop_zero]; exact hH.2.2)

set_option maxRecDepth 100000 in
set_option maxHeartbeats 4000000 in
theorem c_T_arrange (l : Launch) (D : va_G) (ids : Nat → ClassId) (ad : Nat → Nat) (ms : ze_MS) (M : Nat) (T : Nat → ze_T) (hd : Nat → Bool) (mv : Int64) (i : Nat) (hi : i < 12) (f g : Nat → Int32) (c : Nat) (o : Bool) (L : List ze_Row) (hH : ze_H (f, g, c, o) L) (hc : c ≤ 60) (od : Nat) (ho : od ≤ 2) : ze_MX l D ids ad ms y_T_arrange ws_T_arrange 3 (M, va_up T i (f, g, c, o), hd, mv) [.ref (ad (3 + 3 * i)), .int (nI od)] (fun v x' => v = none ∧ ∃ f' g', x' = (M, va_up T i (f', g', c, o), hd, mv) ∧ ze_H (f', g', c, o) (ze_srt od L)) := by
  refine ze_enter (cc := b_T_arrange) (maxL := 6) (ret := none) (by decide +kernel) rfl (Nat.le_of_ble_eq_true rfl) ?_
  rintro G rfl rfl rfl - C Rt
  refine ze_lv (lv' := [(0, .ref (ad (3 + 3 * i))), (1, .int (nI od))]) rfl ?_
  have k0 : ze_Hl f g 0 L := hH.2.2
  have k12 : ze_Hl f g 0 (ze_srt od (L.take 1)) ∧ ze_Hl f g 1 (L.drop 1) := by
    cases L with
    | nil => exact ⟨ze_Hl_nil, ze_Hl_nil⟩
    | cons a L => rw [ze_Hl_cons] at k0; exact ⟨ze_Hl_one.mpr k0.1, k0.2⟩
  obtain ⟨k1, k2⟩ := k12
  have loop : ∀ (r : Nat) (p : Nat) (f g : Nat → Int32), c - p = r → 1 ≤ p ∧ p ≤ 61 → ze_Hl f g 0 (ze_srt od (L.take p)) → ze_Hl f g p (L.drop p) → ze_V G 48 ad (ze_E (ze_i G) ad (M, va_up T i (f, g, c, o), hd, mv) ms) 0 0 2 [(2, .int (nI p)), (0, .ref (ad (3 + 3 * i))), (1, .int (nI od))] [] := by
    intro r
    induction r using Nat.strongRecOn with
    | ind r ih =>
      intro p f g hr h1 h2 h3
      have hcL : c = L.length := hH.1
      refine ze_iload_n C d_T_arrange_2 0 rfl rfl ?_
      refine ze_aload_n C d_T_arrange_3 1 rfl rfl ?_
      refine ze_getf (k := 3 + 3 * i) C fl_T_18 (by omega) (ze_F_t (i := i) hi) rfl d_T_arrange_4 ?_
      refine ze_icmp_geN 122 C d_T_arrange_7 (by decide) (by omega) (by omega) (fun h7 => ?_) (fun h7 => ?_)
      · rw [List.take_of_length_le (by omega)] at h2
        exact ze_vret C Rt d_T_arrange_122 (⟨rfl, rfl, _, rfl, rfl, f, g, rfl, by rw [ze_srt_len]; exact hcL, by rw [ze_srt_len]; omega, h2⟩)
      · refine ze_aload_n C d_T_arrange_10 1 rfl rfl ?_
        refine ze_getf (k := 3 + 3 * i) C fl_T_9 (by omega) (ze_F_t (i := i) hi) rfl d_T_arrange_11 ?_
        refine ze_iload_n C d_T_arrange_14 0 rfl rfl ?_
        refine ze_iald (k := 4 + 3 * i) (i := p) C (by omega) (ze_F_k (i := i) hi) (by omega) (by decide) d_T_arrange_15 ?_
        refine ze_istore_n (lv' := [(3, .int (f p)), (2, .int (nI p)), (0, .ref (ad (3 + 3 * i))), (1, .int (nI od))]) C d_T_arrange_16 rfl (by decide) rfl ?_
        refine ze_aload_n C d_T_arrange_17 2 rfl rfl ?_
        refine ze_getf (k := 3 + 3 * i) C fl_T_15 (by omega) (ze_F_t (i := i) hi) rfl d_T_arrange_18 ?_
        refine ze_iload_n C d_T_arrange_21 1 rfl rfl ?_
        refine ze_iald (k := 5 + 3 * i) (i := p) C (by omega) (ze_F_v (i := i) hi) (by omega) (by decide) d_T_arrange_22 ?_
        refine ze_istore (lv' := [(4, .int (g p)), (3, .int (f p)), (2, .int (nI p)), (0, .ref (ad (3 + 3 * i))), (1, .int (nI od))]) C d_T_arrange_23 (by decide) rfl ?_
        refine ze_iload_n C d_T_arrange_25 2 rfl rfl ?_
        refine ze_istore (lv' := [(5, .int (nI p)), (4, .int (g p)), (3, .int (f p)), (2, .int (nI p)), (0, .ref (ad (3 + 3 * i))), (1, .int (nI od))]) C d_T_arrange_26 (by decide) rfl ?_
        obtain ⟨e1, e2, e3⟩ := ze_Hl_step h3 (by omega)
        have hsl : (ze_srt od (L.take p)).length = p := by rw [ze_srt_len, List.length_take]; omega
        generalize f p = key at e1 e2 ⊢
        generalize g p = value at e1 e2 ⊢
        have inner : ∀ (q : Nat) (f g : Nat → Int32) (P1 P2 : List ze_Row), P1.length = q → ze_srt od (L.take p) = P1 ++ P2 → ze_Hl f g 0 P1 → ze_Hl f g (q + 1) P2 → ze_Hl f g (p + 1) (L.drop (p + 1)) → (∀ e ∈ P2, ze_lt od (key, value) e = true) → ze_V G 48 ad (ze_E (ze_i G) ad (M, va_up T i (f, g, c, o), hd, mv) ms) 0 0 28 [(5, .int (nI q)), (4, .int value), (3, .int key), (2, .int (nI p)), (0, .ref (ad (3 + 3 * i))), (1, .int (nI od))] [] := by
          intro q
          induction q using Nat.strongRecOn with
          | ind q ihq =>
            intro f g P1 P2 g1 g2 g3 g4 g5 g6
            have hqp : q ≤ p := by rw [g2, List.length_append] at hsl; omega
            refine ze_iload C d_T_arrange_28 0 rfl ?_
            refine ze_if_leN 99 C d_T_arrange_30 (by decide) (by omega) (fun h30 => ?_) (fun h30 => ?_)
            · have hnl : ∀ e, P1.getLast? = some e → ze_lt od (key, value) e = false := fun e he => by rw [List.eq_nil_of_length_eq_zero (by omega : P1.length = 0)] at he; cases he
              refine ze_aload_n C d_T_arrange_99 4 rfl rfl ?_
              refine ze_getf (k := 3 + 3 * i) C fl_T_9 (by omega) (ze_F_t (i := i) hi) rfl d_T_arrange_100 ?_
              refine ze_iload C d_T_arrange_103 0 rfl ?_
              refine ze_iload_n C d_T_arrange_105 2 rfl rfl ?_
              refine ze_iast (k := 4 + 3 * i) (i := q) C (by omega) (ze_F_k (i := i) hi) (by omega) (by decide) d_T_arrange_106 ?_
              refine ze_eqE (ze_W_k (i := i) hi) ?_
              refine ze_aload_n C d_T_arrange_107 4 rfl rfl ?_
              refine ze_getf (k := 3 + 3 * i) C fl_T_15 (by omega) (ze_F_t (i := i) hi) rfl d_T_arrange_108 ?_
              refine ze_iload C d_T_arrange_111 0 rfl ?_
              refine ze_iload C d_T_arrange_113 1 rfl ?_
              refine ze_iast (k := 5 + 3 * i) (i := q) C (by omega) (ze_F_v (i := i) hi) (by omega) (by decide) d_T_arrange_115 ?_
              refine ze_eqE (ze_W_v (i := i) hi) ?_
              refine ze_iinc (j := 3) (v := nI (p + 1)) (lv' := [(2, .int (nI (p + 1))), (5, .int (nI q)), (4, .int value), (3, .int key), (0, .ref (ad (3 + 3 * i))), (1, .int (nI od))]) C d_T_arrange_116 rfl (nI_1 _) (by decide) rfl ?_
              refine ze_goto 2 C d_T_arrange_119 (by decide) ?_
              obtain ⟨k1, k2⟩ := ze_arr_exit (by omega) e1 g1 g2 g3 g4 g5 g6 hnl
              refine ze_sub [(2, .int (nI (p + 1))), (0, .ref (ad (3 + 3 * i))), (1, .int (nI od))] [0, 4, 5] rfl ?_
              exact ih (c - (p + 1)) (by omega) (p + 1) _ _ rfl ⟨by omega, by omega⟩ k1 k2
            · refine ze_iload_n C d_T_arrange_33 5 rfl rfl ?_
              refine ze_iload_n C d_T_arrange_34 2 rfl rfl ?_
              refine ze_iload C d_T_arrange_35 1 rfl ?_
              refine ze_aload_n C d_T_arrange_37 4 rfl rfl ?_
              refine ze_getf (k := 3 + 3 * i) C fl_T_9 (by omega) (ze_F_t (i := i) hi) rfl d_T_arrange_38 ?_
              refine ze_iload C d_T_arrange_41 0 rfl ?_
              refine ze_iconst (v := nI 1) C d_T_arrange_43 (by decide) ?_
              refine ze_isubN C d_T_arrange_44 (by omega) ?_
              refine ze_iald (k := 4 + 3 * i) (i := q - 1) C (by omega) (ze_F_k (i := i) hi) (by omega) (by decide) d_T_arrange_45 ?_
              refine ze_aload_n C d_T_arrange_46 4 rfl rfl ?_
              refine ze_getf (k := 3 + 3 * i) C fl_T_15 (by omega) (ze_F_t (i := i) hi) rfl d_T_arrange_47 ?_
              refine ze_iload C d_T_arrange_50 0 rfl ?_
              refine ze_iconst (v := nI 1) C d_T_arrange_52 (by decide) ?_
              refine ze_isubN C d_T_arrange_53 (by omega) ?_
              refine ze_iald (k := 5 + 3 * i) (i := q - 1) C (by omega) (ze_F_v (i := i) hi) (by omega) (by decide) d_T_arrange_54 ?_
              refine ze_callSN (st := []) C C.N.2.1 (c_X_compareRows (ze_l G) (ze_D G) (ze_i G) _ _ _ od ho key value (f (q - 1)) (g (q - 1))) (kn_T_32 (ze_rml (by decide) (by decide))) rfl (Nat.le_of_ble_eq_true rfl) ⟨Nat.le_of_ble_eq_true rfl, Nat.le_of_ble_eq_true rfl⟩ d_T_arrange_55 ?_
              rintro _ _ _ _ ⟨rfl, rfl, rfl, t, rfl, ht1, ht2⟩
              refine ze_norm (c2 := 0) (s2 := 0) (st' := [.int t]) rfl rfl rfl ?_
              refine ze_if_ge 99 C d_T_arrange_58 (by decide) (fun h58 => ?_) (fun h58 => ?_)
              · have hnl : ∀ e, P1.getLast? = some e → ze_lt od (key, value) e = false := fun e he => by
                  rw [ze_arr_last g1 g3 h30] at he
                  rw [← Option.some.inj he]
                  exact Bool.eq_false_iff.mpr (fun z => absurd (ht1.mpr z) (Int32.not_lt.mpr h58))
                refine ze_aload_n C d_T_arrange_99 4 rfl rfl ?_
                refine ze_getf (k := 3 + 3 * i) C fl_T_9 (by omega) (ze_F_t (i := i) hi) rfl d_T_arrange_100 ?_
                refine ze_iload C d_T_arrange_103 0 rfl ?_
                refine ze_iload_n C d_T_arrange_105 2 rfl rfl ?_
                refine ze_iast (k := 4 + 3 * i) (i := q) C (by omega) (ze_F_k (i := i) hi) (by omega) (by decide) d_T_arrange_106 ?_
                refine ze_eqE (ze_W_k (i := i) hi) ?_
                refine ze_aload_n C d_T_arrange_107 4 rfl rfl ?_
                refine ze_getf (k := 3 + 3 * i) C fl_T_15 (by omega) (ze_F_t (i := i) hi) rfl d_T_arrange_108 ?_
                refine ze_iload C d_T_arrange_111 0 rfl ?_
                refine ze_iload C d_T_arrange_113 1 rfl ?_
                refine ze_iast (k := 5 + 3 * i) (i := q) C (by omega) (ze_F_v (i := i) hi) (by omega) (by decide) d_T_arrange_115 ?_
                refine ze_eqE (ze_W_v (i := i) hi) ?_
                refine ze_iinc (j := 3) (v := nI (p + 1)) (lv' := [(2, .int (nI (p + 1))), (5, .int (nI q)), (4, .int value), (3, .int key), (0, .ref (ad (3 + 3 * i))), (1, .int (nI od))]) C d_T_arrange_116 rfl (nI_1 _) (by decide) rfl ?_
                refine ze_goto 2 C d_T_arrange_119 (by decide) ?_
                obtain ⟨k1, k2⟩ := ze_arr_exit (by omega) e1 g1 g2 g3 g4 g5 g6 hnl
                refine ze_sub [(2, .int (nI (p + 1))), (0, .ref (ad (3 + 3 * i))), (1, .int (nI od))] [0, 4, 5] rfl ?_
                exact ih (c - (p + 1)) (by omega) (p + 1) _ _ rfl ⟨by omega, by omega⟩ k1 k2
              · have hlt : ze_lt od (key, value) (f (q - 1), g (q - 1)) = true := ht1.mp (Int32.not_le.mp h58)
                refine ze_aload_n C d_T_arrange_61 4 rfl rfl ?_
                refine ze_getf (k := 3 + 3 * i) C fl_T_9 (by omega) (ze_F_t (i := i) hi) rfl d_T_arrange_62 ?_
                refine ze_iload C d_T_arrange_65 0 rfl ?_
                refine ze_aload_n C d_T_arrange_67 4 rfl rfl ?_
                refine ze_getf (k := 3 + 3 * i) C fl_T_9 (by omega) (ze_F_t (i := i) hi) rfl d_T_arrange_68 ?_
                refine ze_iload C d_T_arrange_71 0 rfl ?_
                refine ze_iconst (v := nI 1) C d_T_arrange_73 (by decide) ?_
                refine ze_isubN C d_T_arrange_74 (by omega) ?_
                refine ze_iald (k := 4 + 3 * i) (i := q - 1) C (by omega) (ze_F_k (i := i) hi) (by omega) (by decide) d_T_arrange_75 ?_
                refine ze_iast (k := 4 + 3 * i) (i := q) C (by omega) (ze_F_k (i := i) hi) (by omega) (by decide) d_T_arrange_76 ?_
                refine ze_eqE (ze_W_k (i := i) hi) ?_
                refine ze_aload_n C d_T_arrange_77 4 rfl rfl ?_
                refine ze_getf (k := 3 + 3 * i) C fl_T_15 (by omega) (ze_F_t (i := i) hi) rfl d_T_arrange_78 ?_
                refine ze_iload C d_T_arrange_81 0 rfl ?_
                refine ze_aload_n C d_T_arrange_83 4 rfl rfl ?_
                refine ze_getf (k := 3 + 3 * i) C fl_T_15 (by omega) (ze_F_t (i := i) hi) rfl d_T_arrange_84 ?_
                refine ze_iload C d_T_arrange_87 0 rfl ?_
                refine ze_iconst (v := nI 1) C d_T_arrange_89 (by decide) ?_
                refine ze_isubN C d_T_arrange_90 (by omega) ?_
                refine ze_iald (k := 5 + 3 * i) (i := q - 1) C (by omega) (ze_F_v (i := i) hi) (by omega) (by decide) d_T_arrange_91 ?_
                refine ze_iast (k := 5 + 3 * i) (i := q) C (by omega) (ze_F_v (i := i) hi) (by omega) (by decide) d_T_arrange_92 ?_
                refine ze_eqE (ze_W_v (i := i) hi) ?_
                refine ze_iinc (j := 0) (v := nI (q - 1)) (lv' := [(5, .int (nI (q - 1))), (4, .int value), (3, .int key), (2, .int (nI p)), (0, .ref (ad (3 + 3 * i))), (1, .int (nI od))]) C d_T_arrange_93 rfl (sb_m1 (by omega)) (by decide) rfl ?_
                refine ze_goto 28 C d_T_arrange_96 (by decide) ?_
                obtain ⟨P1', P2', k1, k2, k3, k4, k5, k6⟩ := ze_arr_step g1 g2 hqp g3 g4 g5 g6 h30 hlt
                exact ihq (q - 1) (by omega) _ _ P1' P2' k1 k2 k3 k4 k5 k6
        exact inner p f g (ze_srt od (L.take p)) [] hsl (by rw [List.append_nil]) h2 ze_Hl_nil e3 (fun e he => absurd he List.not_mem_nil)
  refine ze_iconst (v := nI 1) C d_T_arrange_0 (by decide) ?_
  refine ze_istore_n (lv' := [(2, .int (nI 1)), (0, .ref (ad (3 + 3 * i))), (1, .int (nI od))]) C d_T_arrange_1 rfl (by decide) rfl ?_
  exact loop _ 1 f g rfl ⟨Nat.le_refl _, by decide⟩ k1 k2
