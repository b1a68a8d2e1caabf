theorem ze_dg_lt (M : Nat) (v : Int32) (lev : Nat) (hM : 3 ≤ M ∧ M ≤ 6) : ze_dg M v lev < M - 1 := Nat.mod_lt _ (by omega)
theorem ze_pt_snoc (M lev p : Nat) (f : ze_Row → Int32) (A : List ze_Row) (r : ze_Row) : ze_pt M lev p f (A ++ [r]) = if ze_dg M (f r) lev = p then ze_pt M lev p f A ++ [r] else ze_pt M lev p f A := by
  unfold ze_pt
  rw [List.filter_append]
  by_cases h : ze_dg M (f r) lev = p
  · rw [if_pos h]; simp [h]
  · rw [if_neg h]; simp [h]
/-- the parts one behind the other -/
def ze_prt (M lev : Nat) (f : ze_Row → Int32) (A : List ze_Row) (p : Nat) : List ze_Row := (List.range p).flatMap (fun q => ze_pt M lev q f A)
theorem ze_prt_succ (M lev : Nat) (f : ze_Row → Int32) (A : List ze_Row) (p : Nat) : ze_prt M lev f A (p + 1) = ze_prt M lev f A p ++ ze_pt M lev p f A := by
  unfold ze_prt
  rw [List.range_succ, List.flatMap_append]
  simp
theorem ze_prt_len' (M lev : Nat) (f : ze_Row → Int32) : ∀ (A : List ze_Row) (p : Nat), (ze_prt M lev f A p).length = A.countP (fun r => decide (ze_dg M (f r) lev < p))
  | A, 0 => by simp [ze_prt]
  | A, p + 1 => by
    rw [ze_prt_succ, List.length_append, ze_prt_len' M lev f A p]
    unfold ze_pt
    rw [← List.countP_eq_length_filter]
    induction A with
    | nil => rfl
    | cons a A ih =>
      simp only [List.countP_cons]
      by_cases h1 : ze_dg M (f a) lev < p
      · have h2 : ¬ ze_dg M (f a) lev = p := by omega
        have h3 : ze_dg M (f a) lev < p + 1 := by omega
        simp only [h1, h2, h3, decide_true, decide_false, if_true, Bool.false_eq_true, if_false]
        omega
      · by_cases h2 : ze_dg M (f a) lev = p
        · have h3 : ze_dg M (f a) lev < p + 1 := by omega
          simp only [h1, h2, h3, decide_true, decide_false, if_true, Bool.false_eq_true, if_false]
          simp only [show ¬ p < p by omega, show p < p + 1 by omega, decide_true, decide_false, if_true, Bool.false_eq_true, if_false]
          omega
        · have h3 : ¬ ze_dg M (f a) lev < p + 1 := by omega
          simp only [h1, h2, h3, decide_true, decide_false, if_true, Bool.false_eq_true, if_false]
          omega
theorem ze_prt_len {M lev : Nat} {f : ze_Row → Int32} {A : List ze_Row} (hM : 3 ≤ M ∧ M ≤ 6) : (ze_prt M lev f A (M - 1)).length = A.length := by
  rw [ze_prt_len', List.countP_eq_length]
  intro r _
  exact decide_eq_true (ze_dg_lt M (f r) lev hM)
theorem ze_Hl_take {f g : Nat → Int32} {k j : Nat} {A : List ze_Row} (h : ze_Hl f g k A) (hj : j < A.length) : A.take (j + 1) = A.take j ++ [(f (k + j), g (k + j))] := by
  rw [List.take_succ, ze_Hl_row h hj]
  rfl
def ze_j1 (r : ze_Row) (B : List ze_Row) : List ze_Row := (B.filter (fun b => decide (b.1 = r.2))).map (fun b => (r.1, b.2))
theorem ze_j1_snoc (r : ze_Row) (B : List ze_Row) (b : ze_Row) : ze_j1 r (B ++ [b]) = if b.1 = r.2 then ze_j1 r B ++ [(r.1, b.2)] else ze_j1 r B := by
  unfold ze_j1
  rw [List.filter_append]
  by_cases h : b.1 = r.2
  · rw [if_pos h]; simp [h]
  · rw [if_neg h]; simp [h]
theorem ze_jr_snoc (A B : List ze_Row) (r : ze_Row) : ze_jr (A ++ [r]) B = ze_jr A B ++ ze_j1 r B := by
  unfold ze_jr ze_j1
  rw [List.flatMap_append]
  simp
theorem ze_jc_step {w k : Nat} {A B : List ze_Row} (h : B ≠ []) : ze_jc w A (k + 1) B = ze_jr A (B.take w) ++ ze_jc w A k (B.drop w) := by
  rw [ze_jc, if_neg h]
theorem ze_jc_nil {w k : Nat} {A : List ze_Row} : ze_jc w A k [] = [] := by
  cases k with
  | zero => rfl
  | succ k => rw [ze_jc, if_pos rfl]

set_option maxRecDepth 100000 in
set_option maxHeartbeats 4000000 in
theorem c_J_floorMod (l : Launch) (D : va_G) (ids : Nat → ClassId) (n : Nat) (ad : Nat → Nat) (E : Nat → va_E) (x : Int32) (d : Nat) (h0 : 0 < d) (hd1 : d < 1000) : ze_M l D ids y_J_floorMod ws_J_floorMod (ze_rm 1) 0 0 n ad E [.int x, .int (nI d)] (ze_p0 n ad E (fun v => v = some (.int (nI (ze_fm x d))))) := by
  refine ze_enter (cc := b_J_floorMod) (maxL := 3) (ret := (some .int)) (by decide +kernel) rfl (Nat.le_of_ble_eq_true rfl) ?_
  rintro G rfl rfl rfl - C Rt
  refine ze_lv (lv' := [(0, .int x), (1, .int (nI d))]) rfl ?_
  refine ze_iload_n C d_J_floorMod_0 0 rfl rfl ?_
  refine ze_iload_n C d_J_floorMod_1 1 rfl rfl ?_
  refine ze_irem C d_J_floorMod_2 (nI_ne0 h0 (by omega)) ?_
  refine ze_istore_n (lv' := [(2, .int (x - x / (nI d) * (nI d))), (0, .int x), (1, .int (nI d))]) C d_J_floorMod_3 rfl (by decide) rfl ?_
  refine ze_iload_n C d_J_floorMod_4 1 rfl rfl ?_
  refine ze_iload_n C d_J_floorMod_5 2 rfl rfl ?_
  refine ze_ixor C d_J_floorMod_6 ?_
  refine ze_if_ge 18 C d_J_floorMod_7 (by decide) (fun h7 => ?_) (fun h7 => ?_)
  · refine ze_iload_n C d_J_floorMod_18 0 rfl rfl ?_
    exact ze_iret C Rt d_J_floorMod_19 (⟨rfl, rfl, rfl, by rw [ze_fm_pos h0 hd1 (fun z => absurd ((ze_xor_neg hd1).mpr z) (Int32.not_lt.mpr h7))]⟩)
  · refine ze_iload_n C d_J_floorMod_10 0 rfl rfl ?_
    refine ze_if_eq 18 C d_J_floorMod_11 (by decide) (fun h11 => ?_) (fun h11 => ?_)
    · refine ze_iload_n C d_J_floorMod_18 0 rfl rfl ?_
      exact ze_iret C Rt d_J_floorMod_19 (⟨rfl, rfl, rfl, by rw [ze_fm_neg0 h0 hd1 h11]⟩)
    · refine ze_iload_n C d_J_floorMod_14 0 rfl rfl ?_
      refine ze_iload_n C d_J_floorMod_15 2 rfl rfl ?_
      refine ze_iadd C d_J_floorMod_16 ?_
      exact ze_iret C Rt d_J_floorMod_17 (⟨rfl, rfl, rfl, by rw [ze_fm_neg h0 hd1 ((ze_xor_neg hd1).mp (Int32.not_le.mp h7)) h11]⟩)

set_option maxRecDepth 100000 in
set_option maxHeartbeats 4000000 in
theorem c_X_digitOf (l : Launch) (D : va_G) (ids : Nat → ClassId) (ad : Nat → Nat) (ms : ze_MS) (M : Nat) (T : Nat → ze_T) (hd : Nat → Bool) (mv : Int64) (hM : 3 ≤ M ∧ M ≤ 6) (v : Int32) (lev : Nat) (hl : lev ≤ 3) : ze_MX l D ids ad ms y_X_digitOf ws_X_digitOf 2 (M, T, hd, mv) [.ref (ad 0), .int v, .int (nI lev)] (fun w x' => w = some (.int (nI (ze_dg M v lev))) ∧ x' = (M, T, hd, mv)) := by
  refine ze_enter (cc := b_X_digitOf) (maxL := 6) (ret := (some .int)) (by decide +kernel) rfl (Nat.le_of_ble_eq_true rfl) ?_
  rintro G rfl rfl rfl - C Rt
  refine ze_lv (lv' := [(0, .ref (ad 0)), (1, .int v), (2, .int (nI lev))]) rfl ?_
  have hb3 : 0 < (M - 1) * (M - 1) * (M - 1) ∧ (M - 1) * (M - 1) * (M - 1) < 1000 := by rcases (show M = 3 ∨ M = 4 ∨ M = 5 ∨ M = 6 by omega) with rfl | rfl | rfl | rfl <;> decide
  have hfm := ze_fm_lt v hb3.1
  have loop : ∀ (r : Nat) (k q : Nat), lev - k = r → k ≤ lev → q = ze_fm v ((M - 1) * (M - 1) * (M - 1)) / (M - 1) ^ k → q < 1000 → ze_V G 48 ad (ze_E (ze_i G) ad (M, T, hd, mv) ms) 0 0 21 [(5, .int (nI k)), (4, .int (nI q)), (3, .int (nI (M - 1))), (0, .ref (ad 0)), (1, .int v), (2, .int (nI lev))] [] := by
    intro r
    induction r using Nat.strongRecOn with
    | ind r ih =>
      intro k q hr g1 g2 g3
      refine ze_iload C d_X_digitOf_21 0 rfl ?_
      refine ze_iload_n C d_X_digitOf_23 5 rfl rfl ?_
      refine ze_icmp_geN 39 C d_X_digitOf_24 (by decide) (by omega) (by omega) (fun h24 => ?_) (fun h24 => ?_)
      · refine ze_iload C d_X_digitOf_39 1 rfl ?_
        refine ze_iload_n C d_X_digitOf_41 2 rfl rfl ?_
        refine ze_iremN C d_X_digitOf_42 (by omega) (by omega) (by omega) ?_
        exact ze_iret C Rt d_X_digitOf_43 (⟨rfl, rfl, _, rfl, by rw [g2, show k = lev by omega]; rfl, rfl⟩)
      · refine ze_iload C d_X_digitOf_27 1 rfl ?_
        refine ze_iload_n C d_X_digitOf_29 2 rfl rfl ?_
        refine ze_idivN C d_X_digitOf_30 (by omega) (by omega) (by omega) ?_
        refine ze_istore (lv' := [(4, .int (nI (q / (M - 1)))), (5, .int (nI k)), (3, .int (nI (M - 1))), (0, .ref (ad 0)), (1, .int v), (2, .int (nI lev))]) C d_X_digitOf_31 (by decide) rfl ?_
        refine ze_iinc (j := 1) (v := nI (k + 1)) (lv' := [(5, .int (nI (k + 1))), (4, .int (nI (q / (M - 1)))), (3, .int (nI (M - 1))), (0, .ref (ad 0)), (1, .int v), (2, .int (nI lev))]) C d_X_digitOf_33 rfl (nI_1 _) (by decide) rfl ?_
        refine ze_goto 21 C d_X_digitOf_36 (by decide) ?_
        refine ze_sub [(5, .int (nI (k + 1))), (4, .int (nI (q / (M - 1)))), (3, .int (nI (M - 1))), (0, .ref (ad 0)), (1, .int v), (2, .int (nI lev))] [0, 1, 2, 3, 4, 5] rfl ?_
        exact ih (lev - (k + 1)) (by omega) (k + 1) _ rfl (by omega) (by rw [g2, Nat.div_div_eq_div_mul, Nat.pow_succ]) (Nat.lt_of_le_of_lt (Nat.div_le_self _ _) g3)
  refine ze_aload_n C d_X_digitOf_0 0 rfl rfl ?_
  refine ze_getf C fl_X_18 (by decide) ze_E_x rfl d_X_digitOf_1 ?_
  refine ze_iconst (v := nI 1) C d_X_digitOf_4 (by decide) ?_
  refine ze_isubN C d_X_digitOf_5 (by omega) ?_
  refine ze_istore_n (lv' := [(3, .int (nI (M - 1))), (0, .ref (ad 0)), (1, .int v), (2, .int (nI lev))]) C d_X_digitOf_6 rfl (by decide) rfl ?_
  refine ze_iload_n C d_X_digitOf_7 2 rfl rfl ?_
  refine ze_iload_n C d_X_digitOf_8 0 rfl rfl ?_
  refine ze_iload_n C d_X_digitOf_9 0 rfl rfl ?_
  refine ze_imulN C d_X_digitOf_10 ?_
  refine ze_iload_n C d_X_digitOf_11 0 rfl rfl ?_
  refine ze_imulN C d_X_digitOf_12 ?_
  refine ze_callS (st := []) C (c_J_floorMod (ze_l G) (ze_D G) (ze_i G) _ _ _ v ((M - 1) * (M - 1) * (M - 1)) hb3.1 hb3.2) (ks_X_171 (ze_rml (by decide) (by decide))) rfl (Nat.le_of_ble_eq_true rfl) ⟨Nat.le_of_ble_eq_true rfl, Nat.le_of_ble_eq_true rfl⟩ d_X_digitOf_13 ?_
  rintro _ _ _ _ ⟨rfl, rfl, rfl, rfl⟩
  refine ze_norm (c2 := 0) (s2 := 0) (st' := [.int (nI (ze_fm v ((M - 1) * (M - 1) * (M - 1))))]) rfl rfl rfl ?_
  refine ze_istore (lv' := [(4, .int (nI (ze_fm v ((M - 1) * (M - 1) * (M - 1))))), (3, .int (nI (M - 1))), (0, .ref (ad 0)), (1, .int v), (2, .int (nI lev))]) C d_X_digitOf_16 (by decide) rfl ?_
  refine ze_iconst (v := nI 0) C d_X_digitOf_18 (by decide) ?_
  refine ze_istore (lv' := [(5, .int (nI 0)), (4, .int (nI (ze_fm v ((M - 1) * (M - 1) * (M - 1))))), (3, .int (nI (M - 1))), (0, .ref (ad 0)), (1, .int v), (2, .int (nI lev))]) C d_X_digitOf_19 (by decide) rfl ?_
  exact loop _ 0 _ rfl (Nat.zero_le _) (by rw [Nat.pow_zero, Nat.div_one]) (by omega)

set_option maxRecDepth 100000 in
set_option maxHeartbeats 4000000 in
theorem c_X_endOfPart_A (l : Launch) (D : va_G) (ids : Nat → ClassId) (ad : Nat → Nat) (ms : ze_MS) (M : Nat) (T : Nat → ze_T) (hd : Nat → Bool) (mv : Int64) (hM : 3 ≤ M ∧ M ≤ 6) (fr to lev pt : Nat) (hft : fr ≤ to) (hto : to ≤ 60) (hl : lev ≤ 3) (hpt : pt ≤ 10) : ze_MX l D ids ad ms y_X_endOfPart ws_X_endOfPart 3 (M, T, hd, mv) [.ref (ad 0), .ref (ad (5 + 3 * 9)), .int (nI fr), .int (nI to), .int (nI lev), .int (nI pt)] (fun w x' => ∃ e, w = some (.int (nI e)) ∧ x' = (M, T, hd, mv) ∧ fr ≤ e ∧ e ≤ to ∧ (∀ q, fr ≤ q → q < e → ze_dg M ((T 9).2.1 q) lev = pt) ∧ (e < to → ze_dg M ((T 9).2.1 e) lev ≠ pt)) := by
  refine ze_enter (cc := b_X_endOfPart) (maxL := 7) (ret := (some .int)) (by decide +kernel) rfl (Nat.le_of_ble_eq_true rfl) ?_
  rintro G rfl rfl rfl - C Rt
  refine ze_lv (lv' := [(0, .ref (ad 0)), (1, .ref (ad (5 + 3 * 9))), (2, .int (nI fr)), (3, .int (nI to)), (4, .int (nI lev)), (5, .int (nI pt))]) rfl ?_
  have loop : ∀ (r : Nat) (e : Nat), to - e = r → fr ≤ e → e ≤ to → (∀ q, fr ≤ q → q < e → ze_dg M ((T 9).2.1 q) lev = pt) → ze_V G 48 ad (ze_E (ze_i G) ad (M, T, hd, mv) ms) 0 0 3 [(6, .int (nI e)), (0, .ref (ad 0)), (1, .ref (ad (5 + 3 * 9))), (2, .int (nI fr)), (3, .int (nI to)), (4, .int (nI lev)), (5, .int (nI pt))] [] := by
    intro r
    induction r using Nat.strongRecOn with
    | ind r ih =>
      intro e hr g1 g2 g3
      refine ze_iload C d_X_endOfPart_3 0 rfl ?_
      refine ze_iload_n C d_X_endOfPart_5 4 rfl rfl ?_
      refine ze_icmp_geN 30 C d_X_endOfPart_6 (by decide) (by omega) (by omega) (fun h6 => ?_) (fun h6 => ?_)
      · refine ze_iload C d_X_endOfPart_30 0 rfl ?_
        exact ze_iret C Rt d_X_endOfPart_32 (⟨rfl, rfl, _, rfl, e, rfl, rfl, g1, g2, g3, fun z => absurd z (by omega)⟩)
      · refine ze_aload_n C d_X_endOfPart_9 1 rfl rfl ?_
        refine ze_aload_n C d_X_endOfPart_10 2 rfl rfl ?_
        refine ze_iload C d_X_endOfPart_11 0 rfl ?_
        refine ze_iald (k := 5 + 3 * 9) (i := e) C (by decide) (ze_E_v (i := 9) (by omega)) (by omega) (by decide) d_X_endOfPart_13 ?_
        refine ze_iload C d_X_endOfPart_14 5 rfl ?_
        refine ze_callV (st := []) C (c_X_digitOf (ze_l G) (ze_D G) (ze_i G) ad ms M T hd mv hM (((T 9).2.1) e) lev hl) (kv_X_162 (ze_rml (by decide) (by decide))) (by decide) ze_E_x rfl (Nat.le_of_ble_eq_true rfl) ⟨Nat.le_of_ble_eq_true rfl, Nat.le_of_ble_eq_true rfl⟩ d_X_endOfPart_16 ?_
        rintro _ _ _ _ ⟨rfl, rfl, _, rfl, rfl, rfl⟩
        refine ze_norm (c2 := 0) (s2 := 0) (st' := [.int (nI (ze_dg M (((T 9).2.1) e) lev))]) rfl rfl rfl ?_
        have hdg := ze_dg_lt M (((T 9).2.1) e) lev hM
        refine ze_iload C d_X_endOfPart_19 6 rfl ?_
        refine ze_icmp_neN 30 C d_X_endOfPart_21 (by decide) (by omega) (by omega) (fun h21 => ?_) (fun h21 => ?_)
        · refine ze_iload C d_X_endOfPart_30 0 rfl ?_
          exact ze_iret C Rt d_X_endOfPart_32 (⟨rfl, rfl, _, rfl, e, rfl, rfl, g1, g2, g3, fun _ => h21⟩)
        · refine ze_iinc (j := 0) (v := nI (e + 1)) (lv' := [(6, .int (nI (e + 1))), (0, .ref (ad 0)), (1, .ref (ad (5 + 3 * 9))), (2, .int (nI fr)), (3, .int (nI to)), (4, .int (nI lev)), (5, .int (nI pt))]) C d_X_endOfPart_24 rfl (nI_1 _) (by decide) rfl ?_
          refine ze_goto 3 C d_X_endOfPart_27 (by decide) ?_
          refine ze_sub [(6, .int (nI (e + 1))), (0, .ref (ad 0)), (1, .ref (ad (5 + 3 * 9))), (2, .int (nI fr)), (3, .int (nI to)), (4, .int (nI lev)), (5, .int (nI pt))] [0, 1, 2, 3, 4, 5, 6] rfl ?_
          exact ih (to - (e + 1)) (by omega) (e + 1) rfl (by omega) (by omega) (fun q q1 q2 => by by_cases hq : q = e; (subst hq; exact h21); exact g3 q q1 (by omega))
  refine ze_iload_n C d_X_endOfPart_0 2 rfl rfl ?_
  refine ze_istore (lv' := [(6, .int (nI fr)), (0, .ref (ad 0)), (1, .ref (ad (5 + 3 * 9))), (2, .int (nI fr)), (3, .int (nI to)), (4, .int (nI lev)), (5, .int (nI pt))]) C d_X_endOfPart_1 (by decide) rfl ?_
  exact loop _ fr rfl (Nat.le_refl _) hft (fun q q1 q2 => absurd q2 (by omega))

set_option maxRecDepth 100000 in
set_option maxHeartbeats 4000000 in
theorem c_X_endOfPart_B (l : Launch) (D : va_G) (ids : Nat → ClassId) (ad : Nat → Nat) (ms : ze_MS) (M : Nat) (T : Nat → ze_T) (hd : Nat → Bool) (mv : Int64) (hM : 3 ≤ M ∧ M ≤ 6) (fr to lev pt : Nat) (hft : fr ≤ to) (hto : to ≤ 60) (hl : lev ≤ 3) (hpt : pt ≤ 10) : ze_MX l D ids ad ms y_X_endOfPart ws_X_endOfPart 3 (M, T, hd, mv) [.ref (ad 0), .ref (ad (4 + 3 * 10)), .int (nI fr), .int (nI to), .int (nI lev), .int (nI pt)] (fun w x' => ∃ e, w = some (.int (nI e)) ∧ x' = (M, T, hd, mv) ∧ fr ≤ e ∧ e ≤ to ∧ (∀ q, fr ≤ q → q < e → ze_dg M ((T 10).1 q) lev = pt) ∧ (e < to → ze_dg M ((T 10).1 e) lev ≠ pt)) := by
  refine ze_enter (cc := b_X_endOfPart) (maxL := 7) (ret := (some .int)) (by decide +kernel) rfl (Nat.le_of_ble_eq_true rfl) ?_
  rintro G rfl rfl rfl - C Rt
  refine ze_lv (lv' := [(0, .ref (ad 0)), (1, .ref (ad (4 + 3 * 10))), (2, .int (nI fr)), (3, .int (nI to)), (4, .int (nI lev)), (5, .int (nI pt))]) rfl ?_
  have loop : ∀ (r : Nat) (e : Nat), to - e = r → fr ≤ e → e ≤ to → (∀ q, fr ≤ q → q < e → ze_dg M ((T 10).1 q) lev = pt) → ze_V G 48 ad (ze_E (ze_i G) ad (M, T, hd, mv) ms) 0 0 3 [(6, .int (nI e)), (0, .ref (ad 0)), (1, .ref (ad (4 + 3 * 10))), (2, .int (nI fr)), (3, .int (nI to)), (4, .int (nI lev)), (5, .int (nI pt))] [] := by
    intro r
    induction r using Nat.strongRecOn with
    | ind r ih =>
      intro e hr g1 g2 g3
      refine ze_iload C d_X_endOfPart_3 0 rfl ?_
      refine ze_iload_n C d_X_endOfPart_5 4 rfl rfl ?_
      refine ze_icmp_geN 30 C d_X_endOfPart_6 (by decide) (by omega) (by omega) (fun h6 => ?_) (fun h6 => ?_)
      · refine ze_iload C d_X_endOfPart_30 0 rfl ?_
        exact ze_iret C Rt d_X_endOfPart_32 (⟨rfl, rfl, _, rfl, e, rfl, rfl, g1, g2, g3, fun z => absurd z (by omega)⟩)
      · refine ze_aload_n C d_X_endOfPart_9 1 rfl rfl ?_
        refine ze_aload_n C d_X_endOfPart_10 2 rfl rfl ?_
        refine ze_iload C d_X_endOfPart_11 0 rfl ?_
        refine ze_iald (k := 4 + 3 * 10) (i := e) C (by decide) (ze_E_k (i := 10) (by omega)) (by omega) (by decide) d_X_endOfPart_13 ?_
        refine ze_iload C d_X_endOfPart_14 5 rfl ?_
        refine ze_callV (st := []) C (c_X_digitOf (ze_l G) (ze_D G) (ze_i G) ad ms M T hd mv hM (((T 10).1) e) lev hl) (kv_X_162 (ze_rml (by decide) (by decide))) (by decide) ze_E_x rfl (Nat.le_of_ble_eq_true rfl) ⟨Nat.le_of_ble_eq_true rfl, Nat.le_of_ble_eq_true rfl⟩ d_X_endOfPart_16 ?_
        rintro _ _ _ _ ⟨rfl, rfl, _, rfl, rfl, rfl⟩
        refine ze_norm (c2 := 0) (s2 := 0) (st' := [.int (nI (ze_dg M (((T 10).1) e) lev))]) rfl rfl rfl ?_
        have hdg := ze_dg_lt M (((T 10).1) e) lev hM
        refine ze_iload C d_X_endOfPart_19 6 rfl ?_
        refine ze_icmp_neN 30 C d_X_endOfPart_21 (by decide) (by omega) (by omega) (fun h21 => ?_) (fun h21 => ?_)
        · refine ze_iload C d_X_endOfPart_30 0 rfl ?_
          exact ze_iret C Rt d_X_endOfPart_32 (⟨rfl, rfl, _, rfl, e, rfl, rfl, g1, g2, g3, fun _ => h21⟩)
        · refine ze_iinc (j := 0) (v := nI (e + 1)) (lv' := [(6, .int (nI (e + 1))), (0, .ref (ad 0)), (1, .ref (ad (4 + 3 * 10))), (2, .int (nI fr)), (3, .int (nI to)), (4, .int (nI lev)), (5, .int (nI pt))]) C d_X_endOfPart_24 rfl (nI_1 _) (by decide) rfl ?_
          refine ze_goto 3 C d_X_endOfPart_27 (by decide) ?_
          refine ze_sub [(6, .int (nI (e + 1))), (0, .ref (ad 0)), (1, .ref (ad (4 + 3 * 10))), (2, .int (nI fr)), (3, .int (nI to)), (4, .int (nI lev)), (5, .int (nI pt))] [0, 1, 2, 3, 4, 5, 6] rfl ?_
          exact ih (to - (e + 1)) (by omega) (e + 1) rfl (by omega) (by omega) (fun q q1 q2 => by by_cases hq : q = e; (subst hq; exact h21); exact g3 q q1 (by omega))
  refine ze_iload_n C d_X_endOfPart_0 2 rfl rfl ?_
  refine ze_istore (lv' := [(6, .int (nI fr)), (0, .ref (ad 0)), (1, .ref (ad (4 + 3 * 10))), (2, .int (nI fr)), (3, .int (nI to)), (4, .int (nI lev)), (5, .int (nI pt))]) C d_X_endOfPart_1 (by decide) rfl ?_
  exact loop _ fr rfl (Nat.le_refl _) hft (fun q q1 q2 => absurd q2 (by omega))

set_option maxRecDepth 100000 in
set_option maxHeartbeats 4000000 in
theorem c_X_partition_A (l : Launch) (D : va_G) (ids : Nat → ClassId) (ad : Nat → Nat) (ms : ze_MS) (M : Nat) (T : Nat → ze_T) (hd : Nat → Bool) (mv : Int64) (hM : 3 ≤ M ∧ M ≤ 6) (fr to lev : Nat) (hft : fr ≤ to) (hto : to ≤ 60) (hl : lev ≤ 3) (A : List ze_Row) (hA : ze_Hl (T 9).1 (T 9).2.1 fr A) (hAl : A.length = to - fr) : ze_MX l D ids ad ms y_X_partition ws_X_partition 4 (M, T, hd, mv) [.ref (ad 0), .ref (ad 30), .ref (ad (5 + 3 * 9)), .int (nI fr), .int (nI to), .int (nI lev)] (fun w x' => w = none ∧ ∃ T', x' = (M, T', hd, mv) ∧ (∀ z, z ≠ 9 → z ≠ 11 → T' z = T z) ∧ ze_Hl (T' 9).1 (T' 9).2.1 fr (ze_prt M lev (fun r => r.2) A (M - 1)) ∧ (∀ q, q < fr ∨ to ≤ q → (T' 9).1 q = (T 9).1 q ∧ (T' 9).2.1 q = (T 9).2.1 q)) := by
  refine ze_enter (cc := b_X_partition) (maxL := 8) (ret := none) (by decide +kernel) rfl (Nat.le_of_ble_eq_true rfl) ?_
  rintro G rfl rfl rfl - C Rt
  refine ze_lv (lv' := [(0, .ref (ad 0)), (1, .ref (ad 30)), (2, .ref (ad (5 + 3 * 9))), (3, .int (nI fr)), (4, .int (nI to)), (5, .int (nI lev))]) rfl ?_
  have loop : ∀ (r : Nat) (p : Nat) (T2 : Nat → ze_T), M - 1 - p = r → p ≤ M - 1 → (∀ z, z ≠ 11 → T2 z = T z) → ze_Hu (T2 11) (ze_prt M lev (fun r => r.2) A p) → ze_V G 48 ad (ze_E (ze_i G) ad (M, T2, hd, mv) ms) 0 0 10 [(6, .int (nI p)), (0, .ref (ad 0)), (1, .ref (ad 30)), (2, .ref (ad (5 + 3 * 9))), (3, .int (nI fr)), (4, .int (nI to)), (5, .int (nI lev))] [] := by
    intro r
    induction r using Nat.strongRecOn with
    | ind r ih =>
      intro p T2 hr g1 g2 g3
      refine ze_iload C d_X_partition_10 0 rfl ?_
      refine ze_aload_n C d_X_partition_12 1 rfl rfl ?_
      refine ze_getf C fl_X_18 (by decide) ze_E_x rfl d_X_partition_13 ?_
      refine ze_iconst (v := nI 1) C d_X_partition_16 (by decide) ?_
      refine ze_isubN C d_X_partition_17 (by omega) ?_
      refine ze_icmp_geN 79 C d_X_partition_18 (by decide) (by omega) (by omega) (fun h18 => ?_) (fun h18 => ?_)
      · rw [show p = M - 1 by omega] at g3
        have hpl := ze_prt_len (lev := lev) (f := fun r => r.2) (A := A) hM
        have hH := ze_Hu_H g3 (by omega)
        refine ze_aload_n C d_X_partition_79 1 rfl rfl ?_
        refine ze_getf C fl_X_43 (by decide) ze_E_x rfl d_X_partition_80 ?_
        refine ze_getf (k := 3 + 3 * 11) C fl_X_83 (by decide) (ze_E_t (i := 11) (by omega)) rfl d_X_partition_83 ?_
        refine ze_iconst (v := nI 0) C d_X_partition_86 (by decide) ?_
        refine ze_aload_n C d_X_partition_87 2 rfl rfl ?_
        refine ze_getf (k := 3 + 3 * 9) C fl_X_83 (by decide) (ze_E_t (i := 9) (by omega)) rfl d_X_partition_88 ?_
        refine ze_iload_n C d_X_partition_91 4 rfl rfl ?_
        refine ze_iload C d_X_partition_92 5 rfl ?_
        refine ze_iload_n C d_X_partition_94 4 rfl rfl ?_
        refine ze_isubN C d_X_partition_95 (by omega) ?_
        refine ze_eqE (ze_foc 9) ?_
        refine ze_copy (k0 := 4 + 3 * 11) (k1 := 4 + 3 * 9) (sp := 0) (dp := fr) (len := to - fr) C (List.mem_cons_of_mem _ zw_230) (List.mem_cons_of_mem _ zw_93) (List.mem_cons_of_mem _ zw_92) (List.mem_cons_of_mem _ zw_5) (by decide) (by decide) (ze_O_k (j := 11) (by decide) (by decide)) (ze_F_k (i := 9) (by decide)) (by omega) (by omega) (by decide) (by decide) (by decide) (Nat.le_of_ble_eq_true rfl) d_X_partition_96 ?_
        refine ze_eqE (ze_W_k (i := 9) (by decide)) ?_
        refine ze_genT (fun T3 eT3 => ?_)
        refine ze_aload_n C d_X_partition_99 1 rfl rfl ?_
        refine ze_getf C fl_X_43 (by decide) ze_E_x rfl d_X_partition_100 ?_
        refine ze_getf (k := 3 + 3 * 11) C fl_X_87 (by decide) (ze_E_t (i := 11) (by omega)) rfl d_X_partition_103 ?_
        refine ze_iconst (v := nI 0) C d_X_partition_106 (by decide) ?_
        refine ze_aload_n C d_X_partition_107 2 rfl rfl ?_
        refine ze_getf (k := 3 + 3 * 9) C fl_X_87 (by decide) (ze_E_t (i := 9) (by omega)) rfl d_X_partition_108 ?_
        refine ze_iload_n C d_X_partition_111 4 rfl rfl ?_
        refine ze_iload C d_X_partition_112 5 rfl ?_
        refine ze_iload_n C d_X_partition_114 4 rfl rfl ?_
        refine ze_isubN C d_X_partition_115 (by omega) ?_
        refine ze_eqE (ze_foc 9) ?_
        refine ze_copy (k0 := 5 + 3 * 11) (k1 := 5 + 3 * 9) (sp := 0) (dp := fr) (len := to - fr) C (List.mem_cons_of_mem _ zw_230) (List.mem_cons_of_mem _ zw_93) (List.mem_cons_of_mem _ zw_92) (List.mem_cons_of_mem _ zw_5) (by decide) (by decide) (ze_O_v (j := 11) (by decide) (by decide)) (ze_F_v (i := 9) (by decide)) (by omega) (by omega) (by decide) (by decide) (by decide) (Nat.le_of_ble_eq_true rfl) d_X_partition_116 ?_
        refine ze_eqE (ze_W_v (i := 9) (by decide)) ?_
        refine ze_genT (fun T4 eT4 => ?_)
        have s4 := ze_ups eT4
        rw [ze_upo eT3 11 (by decide), ze_ups eT3] at s4
        simp only at s4
        rw [g2 9 (by decide)] at s4
        have c1 := ze_Hl_cpy (f' := (T 9).1) (g' := (T 9).2.1) (sp := 0) (dp := fr) hH.2.2
        rw [hpl, hAl] at c1
        exact ze_vret C Rt d_X_partition_119 (⟨rfl, rfl, _, rfl, rfl, T4, rfl, fun z z1 z2 => (ze_upo eT4 z z1).trans ((ze_upo eT3 z z1).trans (g2 z z2)), by rw [s4]; exact c1, by rw [s4]; exact fun q hq => ⟨pk_cpy_out (by omega), pk_cpy_out (by omega)⟩⟩)
      · refine ze_iload_n C d_X_partition_21 4 rfl rfl ?_
        refine ze_istore (lv' := [(7, .int (nI fr)), (6, .int (nI p)), (0, .ref (ad 0)), (1, .ref (ad 30)), (2, .ref (ad (5 + 3 * 9))), (3, .int (nI fr)), (4, .int (nI to)), (5, .int (nI lev))]) C d_X_partition_22 (by decide) rfl ?_
        have inner : ∀ (r2 : Nat) (j : Nat) (T3 : Nat → ze_T), A.length - j = r2 → j ≤ A.length → (∀ z, z ≠ 11 → T3 z = T z) → ze_Hu (T3 11) (ze_prt M lev (fun r => r.2) A p ++ ze_pt M lev p (fun r => r.2) (A.take j)) → ze_V G 48 ad (ze_E (ze_i G) ad (M, T3, hd, mv) ms) 0 0 24 [(7, .int (nI (fr + j))), (6, .int (nI p)), (0, .ref (ad 0)), (1, .ref (ad 30)), (2, .ref (ad (5 + 3 * 9))), (3, .int (nI fr)), (4, .int (nI to)), (5, .int (nI lev))] [] := by
          intro r2
          induction r2 using Nat.strongRecOn with
          | ind r2 ih2 =>
            intro j T3 hr2 k1 k2 k3
            have hA3 : ze_Hl (T3 9).1 (T3 9).2.1 fr A := by rw [k2 9 (by decide)]; exact hA
            have hs3 := ze_Hu_le k3
            refine ze_iload C d_X_partition_24 0 rfl ?_
            refine ze_iload C d_X_partition_26 6 rfl ?_
            refine ze_icmp_geN 73 C d_X_partition_28 (by decide) (by omega) (by omega) (fun h28 => ?_) (fun h28 => ?_)
            · refine ze_iinc (j := 1) (v := nI (p + 1)) (lv' := [(6, .int (nI (p + 1))), (7, .int (nI (fr + j))), (0, .ref (ad 0)), (1, .ref (ad 30)), (2, .ref (ad (5 + 3 * 9))), (3, .int (nI fr)), (4, .int (nI to)), (5, .int (nI lev))]) C d_X_partition_73 rfl (nI_1 _) (by decide) rfl ?_
              refine ze_goto 10 C d_X_partition_76 (by decide) ?_
              refine ze_sub [(6, .int (nI (p + 1))), (0, .ref (ad 0)), (1, .ref (ad 30)), (2, .ref (ad (5 + 3 * 9))), (3, .int (nI fr)), (4, .int (nI to)), (5, .int (nI lev))] [0, 2, 3, 4, 5, 6, 7] rfl ?_
              rw [List.take_of_length_le (by omega)] at k3
              exact ih (M - 1 - (p + 1)) (by omega) (p + 1) T3 rfl (by omega) k2 (by rw [ze_prt_succ]; exact k3)
            · refine ze_aload_n C d_X_partition_31 2 rfl rfl ?_
              refine ze_aload_n C d_X_partition_32 4 rfl rfl ?_
              refine ze_iload C d_X_partition_33 0 rfl ?_
              refine ze_iald (k := 5 + 3 * 9) (i := fr + j) C (by decide) (ze_E_v (i := 9) (by omega)) (by omega) (by decide) d_X_partition_35 ?_
              refine ze_iload C d_X_partition_36 7 rfl ?_
              refine ze_callV (st := []) C (c_X_digitOf (ze_l G) (ze_D G) (ze_i G) ad ms M T3 hd mv hM (((T3 9).2.1) (fr + j)) lev hl) (kv_X_162 (ze_rml (by decide) (by decide))) (by decide) ze_E_x rfl (Nat.le_of_ble_eq_true rfl) ⟨Nat.le_of_ble_eq_true rfl, Nat.le_of_ble_eq_true rfl⟩ d_X_partition_38 ?_
              rintro _ _ _ _ ⟨rfl, rfl, _, rfl, rfl, rfl⟩
              refine ze_norm (c2 := 0) (s2 := 0) (st' := [.int (nI (ze_dg M (((T3 9).2.1) (fr + j)) lev))]) rfl rfl rfl ?_
              have hdg := ze_dg_lt M (((T3 9).2.1) (fr + j)) lev hM
              refine ze_iload C d_X_partition_41 1 rfl ?_
              refine ze_icmp_neN 67 C d_X_partition_43 (by decide) (by omega) (by omega) (fun h43 => ?_) (fun h43 => ?_)
              · refine ze_iinc (j := 0) (v := nI (fr + j + 1)) (lv' := [(7, .int (nI (fr + j + 1))), (6, .int (nI p)), (0, .ref (ad 0)), (1, .ref (ad 30)), (2, .ref (ad (5 + 3 * 9))), (3, .int (nI fr)), (4, .int (nI to)), (5, .int (nI lev))]) C d_X_partition_67 rfl (nI_1 _) (by decide) rfl ?_
                refine ze_goto 24 C d_X_partition_70 (by decide) ?_
                refine ze_sub [(7, .int (nI (fr + (j + 1)))), (6, .int (nI p)), (0, .ref (ad 0)), (1, .ref (ad 30)), (2, .ref (ad (5 + 3 * 9))), (3, .int (nI fr)), (4, .int (nI to)), (5, .int (nI lev))] [0, 1, 2, 3, 4, 5, 6, 7] rfl ?_
                exact ih2 (A.length - (j + 1)) (by omega) (j + 1) T3 rfl (by omega) k2 (by rw [ze_Hl_take hA3 (by omega), ze_pt_snoc, if_neg h43]; exact k3)
              · refine ze_aload_n C d_X_partition_46 2 rfl rfl ?_
                refine ze_getf C fl_X_43 (by decide) ze_E_x rfl d_X_partition_47 ?_
                refine ze_aload_n C d_X_partition_50 3 rfl rfl ?_
                refine ze_getf (k := 3 + 3 * 9) C fl_X_83 (by decide) (ze_E_t (i := 9) (by omega)) rfl d_X_partition_51 ?_
                refine ze_iload C d_X_partition_54 0 rfl ?_
                refine ze_iald (k := 4 + 3 * 9) (i := fr + j) C (by decide) (ze_E_k (i := 9) (by omega)) (by omega) (by decide) d_X_partition_56 ?_
                refine ze_aload_n C d_X_partition_57 3 rfl rfl ?_
                refine ze_getf (k := 3 + 3 * 9) C fl_X_87 (by decide) (ze_E_t (i := 9) (by omega)) rfl d_X_partition_58 ?_
                refine ze_iload C d_X_partition_61 0 rfl ?_
                refine ze_iald (k := 5 + 3 * 9) (i := fr + j) C (by decide) (ze_E_v (i := 9) (by omega)) (by omega) (by decide) d_X_partition_63 ?_
                refine ze_eqE (ze_foc 11) ?_
                refine ze_callV (st := []) C (c_T_append (ze_l G) (ze_D G) (ze_i G) ad ms M T3 hd mv 11 (by omega) (T3 11).1 (T3 11).2.1 (T3 11).2.2.1 (T3 11).2.2.2 (by omega) (((T3 9).1) (fr + j)) (((T3 9).2.1) (fr + j))) (kv_X_53 (ze_rml (by decide) (by decide))) (by decide) (ze_F_t (i := 11) (by omega)) rfl (Nat.le_of_ble_eq_true rfl) ⟨Nat.le_of_ble_eq_true rfl, Nat.le_of_ble_eq_true rfl⟩ d_X_partition_64 ?_
                rintro _ _ _ _ ⟨rfl, rfl, _, rfl, rfl, rfl⟩
                refine ze_genT (fun T4 eT4 => ?_)
                refine ze_norm (c2 := 0) (s2 := 0) (st' := []) rfl rfl rfl ?_
                refine ze_iinc (j := 0) (v := nI (fr + j + 1)) (lv' := [(7, .int (nI (fr + j + 1))), (6, .int (nI p)), (0, .ref (ad 0)), (1, .ref (ad 30)), (2, .ref (ad (5 + 3 * 9))), (3, .int (nI fr)), (4, .int (nI to)), (5, .int (nI lev))]) C d_X_partition_67 rfl (nI_1 _) (by decide) rfl ?_
                refine ze_goto 24 C d_X_partition_70 (by decide) ?_
                refine ze_sub [(7, .int (nI (fr + (j + 1)))), (6, .int (nI p)), (0, .ref (ad 0)), (1, .ref (ad 30)), (2, .ref (ad (5 + 3 * 9))), (3, .int (nI fr)), (4, .int (nI to)), (5, .int (nI lev))] [0, 1, 2, 3, 4, 5, 6, 7] rfl ?_
                exact ih2 (A.length - (j + 1)) (by omega) (j + 1) T4 rfl (by omega) (fun z hz => (ze_upo eT4 z hz).trans (k2 z hz)) (by rw [ze_Hl_take hA3 (by omega), ze_pt_snoc, if_pos h43, ← List.append_assoc]; exact ze_Hu_app k3 eT4)
        refine ze_sub [(7, .int (nI (fr + 0))), (6, .int (nI p)), (0, .ref (ad 0)), (1, .ref (ad 30)), (2, .ref (ad (5 + 3 * 9))), (3, .int (nI fr)), (4, .int (nI to)), (5, .int (nI lev))] [0, 1, 2, 3, 4, 5, 6, 7] rfl ?_
        exact inner _ 0 T2 rfl (Nat.zero_le _) g2 (by rw [List.take_zero, show ze_pt M lev p (fun r => r.2) [] = [] from rfl, List.append_nil]; exact g3)
  refine ze_aload_n C d_X_partition_0 0 rfl rfl ?_
  refine ze_getf C fl_X_43 (by decide) ze_E_x rfl d_X_partition_1 ?_
  refine ze_eqE (ze_foc 11) ?_
  refine ze_callV (st := []) C (c_T_clear (ze_l G) (ze_D G) (ze_i G) ad ms M T hd mv 11 (by omega) (T 11).1 (T 11).2.1 (T 11).2.2.1 (T 11).2.2.2 ) (kv_X_65 (ze_rml (by decide) (by decide))) (by decide) (ze_F_t (i := 11) (by omega)) rfl (Nat.le_of_ble_eq_true rfl) ⟨Nat.le_of_ble_eq_true rfl, Nat.le_of_ble_eq_true rfl⟩ d_X_partition_4 ?_
  rintro _ _ _ _ ⟨rfl, rfl, _, rfl, rfl, rfl⟩
  refine ze_genT (fun T1 eT1 => ?_)
  refine ze_norm (c2 := 0) (s2 := 0) (st' := []) rfl rfl rfl ?_
  refine ze_iconst (v := nI 0) C d_X_partition_7 (by decide) ?_
  refine ze_istore (lv' := [(6, .int (nI 0)), (0, .ref (ad 0)), (1, .ref (ad 30)), (2, .ref (ad (5 + 3 * 9))), (3, .int (nI fr)), (4, .int (nI to)), (5, .int (nI lev))]) C d_X_partition_8 (by decide) rfl ?_
  exact loop _ 0 T1 rfl (Nat.zero_le _) (ze_upo eT1) (ze_Hu_clr eT1)

set_option maxRecDepth 100000 in
set_option maxHeartbeats 4000000 in
theorem c_X_partition_B (l : Launch) (D : va_G) (ids : Nat → ClassId) (ad : Nat → Nat) (ms : ze_MS) (M : Nat) (T : Nat → ze_T) (hd : Nat → Bool) (mv : Int64) (hM : 3 ≤ M ∧ M ≤ 6) (fr to lev : Nat) (hft : fr ≤ to) (hto : to ≤ 60) (hl : lev ≤ 3) (A : List ze_Row) (hA : ze_Hl (T 10).1 (T 10).2.1 fr A) (hAl : A.length = to - fr) : ze_MX l D ids ad ms y_X_partition ws_X_partition 4 (M, T, hd, mv) [.ref (ad 0), .ref (ad 33), .ref (ad (4 + 3 * 10)), .int (nI fr), .int (nI to), .int (nI lev)] (fun w x' => w = none ∧ ∃ T', x' = (M, T', hd, mv) ∧ (∀ z, z ≠ 10 → z ≠ 11 → T' z = T z) ∧ ze_Hl (T' 10).1 (T' 10).2.1 fr (ze_prt M lev (fun r => r.1) A (M - 1)) ∧ (∀ q, q < fr ∨ to ≤ q → (T' 10).1 q = (T 10).1 q ∧ (T' 10).2.1 q = (T 10).2.1 q)) := by
  refine ze_enter (cc := b_X_partition) (maxL := 8) (ret := none) (by decide +kernel) rfl (Nat.le_of_ble_eq_true rfl) ?_
  rintro G rfl rfl rfl - C Rt
  refine ze_lv (lv' := [(0, .ref (ad 0)), (1, .ref (ad 33)), (2, .ref (ad (4 + 3 * 10))), (3, .int (nI fr)), (4, .int (nI to)), (5, .int (nI lev))]) rfl ?_
  have loop : ∀ (r : Nat) (p : Nat) (T2 : Nat → ze_T), M - 1 - p = r → p ≤ M - 1 → (∀ z, z ≠ 11 → T2 z = T z) → ze_Hu (T2 11) (ze_prt M lev (fun r => r.1) A p) → ze_V G 48 ad (ze_E (ze_i G) ad (M, T2, hd, mv) ms) 0 0 10 [(6, .int (nI p)), (0, .ref (ad 0)), (1, .ref (ad 33)), (2, .ref (ad (4 + 3 * 10))), (3, .int (nI fr)), (4, .int (nI to)), (5, .int (nI lev))] [] := by
    intro r
    induction r using Nat.strongRecOn with
    | ind r ih =>
      intro p T2 hr g1 g2 g3
      refine ze_iload C d_X_partition_10 0 rfl ?_
      refine ze_aload_n C d_X_partition_12 1 rfl rfl ?_
      refine ze_getf C fl_X_18 (by decide) ze_E_x rfl d_X_partition_13 ?_
      refine ze_iconst (v := nI 1) C d_X_partition_16 (by decide) ?_
      refine ze_isubN C d_X_partition_17 (by omega) ?_
      refine ze_icmp_geN 79 C d_X_partition_18 (by decide) (by omega) (by omega) (fun h18 => ?_) (fun h18 => ?_)
      · rw [show p = M - 1 by omega] at g3
        have hpl := ze_prt_len (lev := lev) (f := fun r => r.1) (A := A) hM
        have hH := ze_Hu_H g3 (by omega)
        refine ze_aload_n C d_X_partition_79 1 rfl rfl ?_
        refine ze_getf C fl_X_43 (by decide) ze_E_x rfl d_X_partition_80 ?_
        refine ze_getf (k := 3 + 3 * 11) C fl_X_83 (by decide) (ze_E_t (i := 11) (by omega)) rfl d_X_partition_83 ?_
        refine ze_iconst (v := nI 0) C d_X_partition_86 (by decide) ?_
        refine ze_aload_n C d_X_partition_87 2 rfl rfl ?_
        refine ze_getf (k := 3 + 3 * 10) C fl_X_83 (by decide) (ze_E_t (i := 10) (by omega)) rfl d_X_partition_88 ?_
        refine ze_iload_n C d_X_partition_91 4 rfl rfl ?_
        refine ze_iload C d_X_partition_92 5 rfl ?_
        refine ze_iload_n C d_X_partition_94 4 rfl rfl ?_
        refine ze_isubN C d_X_partition_95 (by omega) ?_
        refine ze_eqE (ze_foc 10) ?_
        refine ze_copy (k0 := 4 + 3 * 11) (k1 := 4 + 3 * 10) (sp := 0) (dp := fr) (len := to - fr) C (List.mem_cons_of_mem _ zw_230) (List.mem_cons_of_mem _ zw_93) (List.mem_cons_of_mem _ zw_92) (List.mem_cons_of_mem _ zw_5) (by decide) (by decide) (ze_O_k (j := 11) (by decide) (by decide)) (ze_F_k (i := 10) (by decide)) (by omega) (by omega) (by decide) (by decide) (by decide) (Nat.le_of_ble_eq_true rfl) d_X_partition_96 ?_
        refine ze_eqE (ze_W_k (i := 10) (by decide)) ?_
        refine ze_genT (fun T3 eT3 => ?_)
        refine ze_aload_n C d_X_partition_99 1 rfl rfl ?_
        refine ze_getf C fl_X_43 (by decide) ze_E_x rfl d_X_partition_100 ?_
        refine ze_getf (k := 3 + 3 * 11) C fl_X_87 (by decide) (ze_E_t (i := 11) (by omega)) rfl d_X_partition_103 ?_
        refine ze_iconst (v := nI 0) C d_X_partition_106 (by decide) ?_
        refine ze_aload_n C d_X_partition_107 2 rfl rfl ?_
        refine ze_getf (k := 3 + 3 * 10) C fl_X_87 (by decide) (ze_E_t (i := 10) (by omega)) rfl d_X_partition_108 ?_
        refine ze_iload_n C d_X_partition_111 4 rfl rfl ?_
        refine ze_iload C d_X_partition_112 5 rfl ?_
        refine ze_iload_n C d_X_partition_114 4 rfl rfl ?_
        refine ze_isubN C d_X_partition_115 (by omega) ?_
        refine ze_eqE (ze_foc 10) ?_
        refine ze_copy (k0 := 5 + 3 * 11) (k1 := 5 + 3 * 10) (sp := 0) (dp := fr) (len := to - fr) C (List.mem_cons_of_mem _ zw_230) (List.mem_cons_of_mem _ zw_93) (List.mem_cons_of_mem _ zw_92) (List.mem_cons_of_mem _ zw_5) (by decide) (by decide) (ze_O_v (j := 11) (by decide) (by decide)) (ze_F_v (i := 10) (by decide)) (by omega) (by omega) (by decide) (by decide) (by decide) (Nat.le_of_ble_eq_true rfl) d_X_partition_116 ?_
        refine ze_eqE (ze_W_v (i := 10) (by decide)) ?_
        refine ze_genT (fun T4 eT4 => ?_)
        have s4 := ze_ups eT4
        rw [ze_upo eT3 11 (by decide), ze_ups eT3] at s4
        simp only at s4
        rw [g2 10 (by decide)] at s4
        have c1 := ze_Hl_cpy (f' := (T 10).1) (g' := (T 10).2.1) (sp := 0) (dp := fr) hH.2.2
        rw [hpl, hAl] at c1
        exact ze_vret C Rt d_X_partition_119 (⟨rfl, rfl, _, rfl, rfl, T4, rfl, fun z z1 z2 => (ze_upo eT4 z z1).trans ((ze_upo eT3 z z1).trans (g2 z z2)), by rw [s4]; exact c1, by rw [s4]; exact fun q hq => ⟨pk_cpy_out (by omega), pk_cpy_out (by omega)⟩⟩)
      · refine ze_iload_n C d_X_partition_21 4 rfl rfl ?_
        refine ze_istore (lv' := [(7, .int (nI fr)), (6, .int (nI p)), (0, .ref (ad 0)), (1, .ref (ad 33)), (2, .ref (ad (4 + 3 * 10))), (3, .int (nI fr)), (4, .int (nI to)), (5, .int (nI lev))]) C d_X_partition_22 (by decide) rfl ?_
        have inner : ∀ (r2 : Nat) (j : Nat) (T3 : Nat → ze_T), A.length - j = r2 → j ≤ A.length → (∀ z, z ≠ 11 → T3 z = T z) → ze_Hu (T3 11) (ze_prt M lev (fun r => r.1) A p ++ ze_pt M lev p (fun r => r.1) (A.take j)) → ze_V G 48 ad (ze_E (ze_i G) ad (M, T3, hd, mv) ms) 0 0 24 [(7, .int (nI (fr + j))), (6, .int (nI p)), (0, .ref (ad 0)), (1, .ref (ad 33)), (2, .ref (ad (4 + 3 * 10))), (3, .int (nI fr)), (4, .int (nI to)), (5, .int (nI lev))] [] := by
          intro r2
          induction r2 using Nat.strongRecOn with
          | ind r2 ih2 =>
            intro j T3 hr2 k1 k2 k3
            have hA3 : ze_Hl (T3 10).1 (T3 10).2.1 fr A := by rw [k2 10 (by decide)]; exact hA
            have hs3 := ze_Hu_le k3
            refine ze_iload C d_X_partition_24 0 rfl ?_
            refine ze_iload C d_X_partition_26 6 rfl ?_
            refine ze_icmp_geN 73 C d_X_partition_28 (by decide) (by omega) (by omega) (fun h28 => ?_) (fun h28 => ?_)
            · refine ze_iinc (j := 1) (v := nI (p + 1)) (lv' := [(6, .int (nI (p + 1))), (7, .int (nI (fr + j))), (0, .ref (ad 0)), (1, .ref (ad 33)), (2, .ref (ad (4 + 3 * 10))), (3, .int (nI fr)), (4, .int (nI to)), (5, .int (nI lev))]) C d_X_partition_73 rfl (nI_1 _) (by decide) rfl ?_
              refine ze_goto 10 C d_X_partition_76 (by decide) ?_
              refine ze_sub [(6, .int (nI (p + 1))), (0, .ref (ad 0)), (1, .ref (ad 33)), (2, .ref (ad (4 + 3 * 10))), (3, .int (nI fr)), (4, .int (nI to)), (5, .int (nI lev))] [0, 2, 3, 4, 5, 6, 7] rfl ?_
              rw [List.take_of_length_le (by omega)] at k3
              exact ih (M - 1 - (p + 1)) (by omega) (p + 1) T3 rfl (by omega) k2 (by rw [ze_prt_succ]; exact k3)
            · refine ze_aload_n C d_X_partition_31 2 rfl rfl ?_
              refine ze_aload_n C d_X_partition_32 4 rfl rfl ?_
              refine ze_iload C d_X_partition_33 0 rfl ?_
              refine ze_iald (k := 4 + 3 * 10) (i := fr + j) C (by decide) (ze_E_k (i := 10) (by omega)) (by omega) (by decide) d_X_partition_35 ?_
              refine ze_iload C d_X_partition_36 7 rfl ?_
              refine ze_callV (st := []) C (c_X_digitOf (ze_l G) (ze_D G) (ze_i G) ad ms M T3 hd mv hM (((T3 10).1) (fr + j)) lev hl) (kv_X_162 (ze_rml (by decide) (by decide))) (by decide) ze_E_x rfl (Nat.le_of_ble_eq_true rfl) ⟨Nat.le_of_ble_eq_true rfl, Nat.le_of_ble_eq_true rfl⟩ d_X_partition_38 ?_
              rintro _ _ _ _ ⟨rfl, rfl, _, rfl, rfl, rfl⟩
              refine ze_norm (c2 := 0) (s2 := 0) (st' := [.int (nI (ze_dg M (((T3 10).1) (fr + j)) lev))]) rfl rfl rfl ?_
              have hdg := ze_dg_lt M (((T3 10).1) (fr + j)) lev hM
              refine ze_iload C d_X_partition_41 1 rfl ?_
              refine ze_icmp_neN 67 C d_X_partition_43 (by decide) (by omega) (by omega) (fun h43 => ?_) (fun h43 => ?_)
              · refine ze_iinc (j := 0) (v := nI (fr + j + 1)) (lv' := [(7, .int (nI (fr + j + 1))), (6, .int (nI p)), (0, .ref (ad 0)), (1, .ref (ad 33)), (2, .ref (ad (4 + 3 * 10))), (3, .int (nI fr)), (4, .int (nI to)), (5, .int (nI lev))]) C d_X_partition_67 rfl (nI_1 _) (by decide) rfl ?_
                refine ze_goto 24 C d_X_partition_70 (by decide) ?_
                refine ze_sub [(7, .int (nI (fr + (j + 1)))), (6, .int (nI p)), (0, .ref (ad 0)), (1, .ref (ad 33)), (2, .ref (ad (4 + 3 * 10))), (3, .int (nI fr)), (4, .int (nI to)), (5, .int (nI lev))] [0, 1, 2, 3, 4, 5, 6, 7] rfl ?_
                exact ih2 (A.length - (j + 1)) (by omega) (j + 1) T3 rfl (by omega) k2 (by rw [ze_Hl_take hA3 (by omega), ze_pt_snoc, if_neg h43]; exact k3)
              · refine ze_aload_n C d_X_partition_46 2 rfl rfl ?_
                refine ze_getf C fl_X_43 (by decide) ze_E_x rfl d_X_partition_47 ?_
                refine ze_aload_n C d_X_partition_50 3 rfl rfl ?_
                refine ze_getf (k := 3 + 3 * 10) C fl_X_83 (by decide) (ze_E_t (i := 10) (by omega)) rfl d_X_partition_51 ?_
                refine ze_iload C d_X_partition_54 0 rfl ?_
                refine ze_iald (k := 4 + 3 * 10) (i := fr + j) C (by decide) (ze_E_k (i := 10) (by omega)) (by omega) (by decide) d_X_partition_56 ?_
                refine ze_aload_n C d_X_partition_57 3 rfl rfl ?_
                refine ze_getf (k := 3 + 3 * 10) C fl_X_87 (by decide) (ze_E_t (i := 10) (by omega)) rfl d_X_partition_58 ?_
                refine ze_iload C d_X_partition_61 0 rfl ?_
                refine ze_iald (k := 5 + 3 * 10) (i := fr + j) C (by decide) (ze_E_v (i := 10) (by omega)) (by omega) (by decide) d_X_partition_63 ?_
                refine ze_eqE (ze_foc 11) ?_
                refine ze_callV (st := []) C (c_T_append (ze_l G) (ze_D G) (ze_i G) ad ms M T3 hd mv 11 (by omega) (T3 11).1 (T3 11).2.1 (T3 11).2.2.1 (T3 11).2.2.2 (by omega) (((T3 10).1) (fr + j)) (((T3 10).2.1) (fr + j))) (kv_X_53 (ze_rml (by decide) (by decide))) (by decide) (ze_F_t (i := 11) (by omega)) rfl (Nat.le_of_ble_eq_true rfl) ⟨Nat.le_of_ble_eq_true rfl, Nat.le_of_ble_eq_true rfl⟩ d_X_partition_64 ?_
                rintro _ _ _ _ ⟨rfl, rfl, _, rfl, rfl, rfl⟩
                refine ze_genT (fun T4 eT4 => ?_)
                refine ze_norm (c2 := 0) (s2 := 0) (st' := []) rfl rfl rfl ?_
                refine ze_iinc (j := 0) (v := nI (fr + j + 1)) (lv' := [(7, .int (nI (fr + j + 1))), (6, .int (nI p)), (0, .ref (ad 0)), (1, .ref (ad 33)), (2, .ref (ad (4 + 3 * 10))), (3, .int (nI fr)), (4, .int (nI to)), (5, .int (nI lev))]) C d_X_partition_67 rfl (nI_1 _) (by decide) rfl ?_
                refine ze_goto 24 C d_X_partition_70 (by decide) ?_
                refine ze_sub [(7, .int (nI (fr + (j + 1)))), (6, .int (nI p)), (0, .ref (ad 0)), (1, .ref (ad 33)), (2, .ref (ad (4 + 3 * 10))), (3, .int (nI fr)), (4, .int (nI to)), (5, .int (nI lev))] [0, 1, 2, 3, 4, 5, 6, 7] rfl ?_
                exact ih2 (A.length - (j + 1)) (by omega) (j + 1) T4 rfl (by omega) (fun z hz => (ze_upo eT4 z hz).trans (k2 z hz)) (by rw [ze_Hl_take hA3 (by omega), ze_pt_snoc, if_pos h43, ← List.append_assoc]; exact ze_Hu_app k3 eT4)
        refine ze_sub [(7, .int (nI (fr + 0))), (6, .int (nI p)), (0, .ref (ad 0)), (1, .ref (ad 33)), (2, .ref (ad (4 + 3 * 10))), (3, .int (nI fr)), (4, .int (nI to)), (5, .int (nI lev))] [0, 1, 2, 3, 4, 5, 6, 7] rfl ?_
        exact inner _ 0 T2 rfl (Nat.zero_le _) g2 (by rw [List.take_zero, show ze_pt M lev p (fun r => r.1) [] = [] from rfl, List.append_nil]; exact g3)
  refine ze_aload_n C d_X_partition_0 0 rfl rfl ?_
  refine ze_getf C fl_X_43 (by decide) ze_E_x rfl d_X_partition_1 ?_
  refine ze_eqE (ze_foc 11) ?_
  refine ze_callV (st := []) C (c_T_clear (ze_l G) (ze_D G) (ze_i G) ad ms M T hd mv 11 (by omega) (T 11).1 (T 11).2.1 (T 11).2.2.1 (T 11).2.2.2 ) (kv_X_65 (ze_rml (by decide) (by decide))) (by decide) (ze_F_t (i := 11) (by omega)) rfl (Nat.le_of_ble_eq_true rfl) ⟨Nat.le_of_ble_eq_true rfl, Nat.le_of_ble_eq_true rfl⟩ d_X_partition_4 ?_
  rintro _ _ _ _ ⟨rfl, rfl, _, rfl, rfl, rfl⟩
  refine ze_genT (fun T1 eT1 => ?_)
  refine ze_norm (c2 := 0) (s2 := 0) (st' := []) rfl rfl rfl ?_
  refine ze_iconst (v := nI 0) C d_X_partition_7 (by decide) ?_
  refine ze_istore (lv' := [(6, .int (nI 0)), (0, .ref (ad 0)), (1, .ref (ad 33)), (2, .ref (ad (4 + 3 * 10))), (3, .int (nI fr)), (4, .int (nI to)), (5, .int (nI lev))]) C d_X_partition_8 (by decide) rfl ?_
  exact loop _ 0 T1 rfl (Nat.zero_le _) (ze_upo eT1) (ze_Hu_clr eT1)

set_option maxRecDepth 100000 in
set_option maxHeartbeats 4000000 in
theorem c_X_joinWithChunk (l : Launch) (D : va_G) (ids : Nat → ClassId) (ad : Nat → Nat) (ms : ze_MS) (M : Nat) (T : Nat → ze_T) (hd : Nat → Bool) (mv : Int64) (af at_ bs be : Nat) (ha : af ≤ at_) (ha6 : at_ ≤ 60) (hb : bs ≤ be) (hb6 : be ≤ 60) (A B L : List ze_Row) (hA : ze_Hl (T 9).1 (T 9).2.1 af A) (hAl : A.length = at_ - af) (hB : ze_Hl (T 10).1 (T 10).2.1 bs B) (hBl : B.length = be - bs) (m : Nat) (hm8 : m < 8) (hm : ze_Hu (T m) L) : ze_MX l D ids ad ms y_X_joinWithChunk ws_X_joinWithChunk 3 (M, T, hd, mv) [.ref (ad 0), .int (nI af), .int (nI at_), .int (nI bs), .int (nI be), .ref (ad (3 + 3 * m))] (fun w x' => w = none ∧ ∃ T', x' = (M, T', hd, mv) ∧ (∀ z, z ≠ m → T' z = T z) ∧ ze_Hu (T' m) (L ++ ze_jr A B)) := by
  refine ze_enter (cc := b_X_joinWithChunk) (maxL := 8) (ret := none) (by decide +kernel) rfl (Nat.le_of_ble_eq_true rfl) ?_
  rintro G rfl rfl rfl - C Rt
  refine ze_lv (lv' := [(0, .ref (ad 0)), (1, .int (nI af)), (2, .int (nI at_)), (3, .int (nI bs)), (4, .int (nI be)), (5, .ref (ad (3 + 3 * m)))]) rfl ?_
  have loop : ∀ (r : Nat) (a : Nat) (T1 : Nat → ze_T), A.length - a = r → a ≤ A.length → (∀ z, z ≠ m → T1 z = T z) → ze_Hu (T1 m) (L ++ ze_jr (A.take a) B) → ze_V G 48 ad (ze_E (ze_i G) ad (M, T1, hd, mv) ms) 0 0 3 [(6, .int (nI (af + a))), (0, .ref (ad 0)), (1, .int (nI af)), (2, .int (nI at_)), (3, .int (nI bs)), (4, .int (nI be)), (5, .ref (ad (3 + 3 * m)))] [] := by
    intro r
    induction r using Nat.strongRecOn with
    | ind r ih =>
      intro a T1 hr g1 g2 g3
      refine ze_iload C d_X_joinWithChunk_3 0 rfl ?_
      refine ze_iload_n C d_X_joinWithChunk_5 3 rfl rfl ?_
      refine ze_icmp_geN 79 C d_X_joinWithChunk_6 (by decide) (by omega) (by omega) (fun h6 => ?_) (fun h6 => ?_)
      · exact ze_vret C Rt d_X_joinWithChunk_79 (⟨rfl, rfl, _, rfl, rfl, T1, rfl, g2, by rw [List.take_of_length_le (by omega)] at g3; exact g3⟩)
      · refine ze_iload_n C d_X_joinWithChunk_9 4 rfl rfl ?_
        refine ze_istore (lv' := [(7, .int (nI bs)), (6, .int (nI (af + a))), (0, .ref (ad 0)), (1, .int (nI af)), (2, .int (nI at_)), (3, .int (nI bs)), (4, .int (nI be)), (5, .ref (ad (3 + 3 * m)))]) C d_X_joinWithChunk_10 (by decide) rfl ?_
        have hAr := ze_Hl_row hA (p := a) (by omega)
        have inner : ∀ (r2 : Nat) (b : Nat) (T2 : Nat → ze_T), B.length - b = r2 → b ≤ B.length → (∀ z, z ≠ m → T2 z = T z) → ze_Hu (T2 m) (L ++ ze_jr (A.take a) B ++ ze_j1 ((T 9).1 (af + a), (T 9).2.1 (af + a)) (B.take b)) → ze_V G 48 ad (ze_E (ze_i G) ad (M, T2, hd, mv) ms) 0 0 12 [(7, .int (nI (bs + b))), (6, .int (nI (af + a))), (0, .ref (ad 0)), (1, .int (nI af)), (2, .int (nI at_)), (3, .int (nI bs)), (4, .int (nI be)), (5, .ref (ad (3 + 3 * m)))] [] := by
          intro r2
          induction r2 using Nat.strongRecOn with
          | ind r2 ih2 =>
            intro b T2 hr2 k1 k2 k3
            have hs3 := ze_Hu_le k3
            have e9 := k2 9 (by omega)
            have e10 := k2 10 (by omega)
            refine ze_iload C d_X_joinWithChunk_12 0 rfl ?_
            refine ze_iload C d_X_joinWithChunk_14 6 rfl ?_
            refine ze_icmp_geN 73 C d_X_joinWithChunk_16 (by decide) (by omega) (by omega) (fun h16 => ?_) (fun h16 => ?_)
            · refine ze_iinc (j := 1) (v := nI (af + a + 1)) (lv' := [(6, .int (nI (af + a + 1))), (7, .int (nI (bs + b))), (0, .ref (ad 0)), (1, .int (nI af)), (2, .int (nI at_)), (3, .int (nI bs)), (4, .int (nI be)), (5, .ref (ad (3 + 3 * m)))]) C d_X_joinWithChunk_73 rfl (nI_1 _) (by decide) rfl ?_
              refine ze_goto 3 C d_X_joinWithChunk_76 (by decide) ?_
              refine ze_sub [(6, .int (nI (af + (a + 1)))), (0, .ref (ad 0)), (1, .int (nI af)), (2, .int (nI at_)), (3, .int (nI bs)), (4, .int (nI be)), (5, .ref (ad (3 + 3 * m)))] [0, 2, 3, 4, 5, 6, 7] rfl ?_
              have k4 : B.take b = B := List.take_of_length_le (by omega)
              rw [k4] at k3
              exact ih (A.length - (a + 1)) (by omega) (a + 1) T2 rfl (by omega) k2 (by rw [ze_Hl_take hA (by omega), ze_jr_snoc, ← List.append_assoc]; exact k3)
            · refine ze_aload_n C d_X_joinWithChunk_19 2 rfl rfl ?_
              refine ze_getf C fl_X_37 (by decide) ze_E_x rfl d_X_joinWithChunk_20 ?_
              refine ze_getf (k := 3 + 3 * 9) C fl_X_87 (by decide) (ze_E_t (i := 9) (by omega)) rfl d_X_joinWithChunk_23 ?_
              refine ze_iload C d_X_joinWithChunk_26 1 rfl ?_
              refine ze_iald (k := 5 + 3 * 9) (i := af + a) C (by decide) (ze_E_v (i := 9) (by omega)) (by omega) (by decide) d_X_joinWithChunk_28 ?_
              refine ze_aload_n C d_X_joinWithChunk_29 2 rfl rfl ?_
              refine ze_getf C fl_X_40 (by decide) ze_E_x rfl d_X_joinWithChunk_30 ?_
              refine ze_getf (k := 3 + 3 * 10) C fl_X_83 (by decide) (ze_E_t (i := 10) (by omega)) rfl d_X_joinWithChunk_33 ?_
              refine ze_iload C d_X_joinWithChunk_36 0 rfl ?_
              refine ze_iald (k := 4 + 3 * 10) (i := bs + b) C (by decide) (ze_E_k (i := 10) (by omega)) (by omega) (by decide) d_X_joinWithChunk_38 ?_
              refine ze_icmp_ne 67 C d_X_joinWithChunk_39 (by decide) (fun h39 => ?_) (fun h39 => ?_)
              · refine ze_iinc (j := 0) (v := nI (bs + b + 1)) (lv' := [(7, .int (nI (bs + b + 1))), (6, .int (nI (af + a))), (0, .ref (ad 0)), (1, .int (nI af)), (2, .int (nI at_)), (3, .int (nI bs)), (4, .int (nI be)), (5, .ref (ad (3 + 3 * m)))]) C d_X_joinWithChunk_67 rfl (nI_1 _) (by decide) rfl ?_
                refine ze_goto 12 C d_X_joinWithChunk_70 (by decide) ?_
                refine ze_sub [(7, .int (nI (bs + (b + 1)))), (6, .int (nI (af + a))), (0, .ref (ad 0)), (1, .int (nI af)), (2, .int (nI at_)), (3, .int (nI bs)), (4, .int (nI be)), (5, .ref (ad (3 + 3 * m)))] [0, 1, 2, 3, 4, 5, 6, 7] rfl ?_
                rw [e9, e10] at h39
                exact ih2 (B.length - (b + 1)) (by omega) (b + 1) T2 rfl (by omega) k2 (by rw [ze_Hl_take hB (by omega), ze_j1_snoc, if_neg (fun z => h39 z.symm)]; exact k3)
              · refine ze_aload C d_X_joinWithChunk_42 7 rfl ?_
                refine ze_aload_n C d_X_joinWithChunk_44 2 rfl rfl ?_
                refine ze_getf C fl_X_37 (by decide) ze_E_x rfl d_X_joinWithChunk_45 ?_
                refine ze_getf (k := 3 + 3 * 9) C fl_X_83 (by decide) (ze_E_t (i := 9) (by omega)) rfl d_X_joinWithChunk_48 ?_
                refine ze_iload C d_X_joinWithChunk_51 1 rfl ?_
                refine ze_iald (k := 4 + 3 * 9) (i := af + a) C (by decide) (ze_E_k (i := 9) (by omega)) (by omega) (by decide) d_X_joinWithChunk_53 ?_
                refine ze_aload_n C d_X_joinWithChunk_54 2 rfl rfl ?_
                refine ze_getf C fl_X_40 (by decide) ze_E_x rfl d_X_joinWithChunk_55 ?_
                refine ze_getf (k := 3 + 3 * 10) C fl_X_87 (by decide) (ze_E_t (i := 10) (by omega)) rfl d_X_joinWithChunk_58 ?_
                refine ze_iload C d_X_joinWithChunk_61 0 rfl ?_
                refine ze_iald (k := 5 + 3 * 10) (i := bs + b) C (by decide) (ze_E_v (i := 10) (by omega)) (by omega) (by decide) d_X_joinWithChunk_63 ?_
                refine ze_eqE (ze_foc m) ?_
                refine ze_callV (st := []) C (c_T_append (ze_l G) (ze_D G) (ze_i G) ad ms M T2 hd mv m (by omega) (T2 m).1 (T2 m).2.1 (T2 m).2.2.1 (T2 m).2.2.2 (by omega) (((T2 9).1) (af + a)) (((T2 10).2.1) (bs + b))) (kv_X_53 (ze_rml (by decide) (by decide))) (by omega) (ze_F_t (i := m) (by omega)) rfl (Nat.le_of_ble_eq_true rfl) ⟨Nat.le_of_ble_eq_true rfl, Nat.le_of_ble_eq_true rfl⟩ d_X_joinWithChunk_64 ?_
                rintro _ _ _ _ ⟨rfl, rfl, _, rfl, rfl, rfl⟩
                refine ze_genT (fun T3 eT3 => ?_)
                refine ze_norm (c2 := 0) (s2 := 0) (st' := []) rfl rfl rfl ?_
                refine ze_iinc (j := 0) (v := nI (bs + b + 1)) (lv' := [(7, .int (nI (bs + b + 1))), (6, .int (nI (af + a))), (0, .ref (ad 0)), (1, .int (nI af)), (2, .int (nI at_)), (3, .int (nI bs)), (4, .int (nI be)), (5, .ref (ad (3 + 3 * m)))]) C d_X_joinWithChunk_67 rfl (nI_1 _) (by decide) rfl ?_
                refine ze_goto 12 C d_X_joinWithChunk_70 (by decide) ?_
                refine ze_sub [(7, .int (nI (bs + (b + 1)))), (6, .int (nI (af + a))), (0, .ref (ad 0)), (1, .int (nI af)), (2, .int (nI at_)), (3, .int (nI bs)), (4, .int (nI be)), (5, .ref (ad (3 + 3 * m)))] [0, 1, 2, 3, 4, 5, 6, 7] rfl ?_
                rw [e9, e10] at h39
                rw [e9, e10] at eT3
                exact ih2 (B.length - (b + 1)) (by omega) (b + 1) T3 rfl (by omega) (fun z hz => (ze_upo eT3 z hz).trans (k2 z hz)) (by rw [ze_Hl_take hB (by omega), ze_j1_snoc, if_pos h39.symm, ← List.append_assoc]; exact ze_Hu_app k3 eT3)
        refine ze_sub [(7, .int (nI (bs + 0))), (6, .int (nI (af + a))), (0, .ref (ad 0)), (1, .int (nI af)), (2, .int (nI at_)), (3, .int (nI bs)), (4, .int (nI be)), (5, .ref (ad (3 + 3 * m)))] [0, 1, 2, 3, 4, 5, 6, 7] rfl ?_
        exact inner _ 0 T1 rfl (Nat.zero_le _) g2 (by rw [List.take_zero, show ∀ r, ze_j1 r [] = [] from fun _ => rfl, List.append_nil]; exact g3)
  refine ze_iload_n C d_X_joinWithChunk_0 1 rfl rfl ?_
  refine ze_istore (lv' := [(6, .int (nI af)), (0, .ref (ad 0)), (1, .int (nI af)), (2, .int (nI at_)), (3, .int (nI bs)), (4, .int (nI be)), (5, .ref (ad (3 + 3 * m)))]) C d_X_joinWithChunk_1 (by decide) rfl ?_
  refine ze_sub [(6, .int (nI (af + 0))), (0, .ref (ad 0)), (1, .int (nI af)), (2, .int (nI at_)), (3, .int (nI bs)), (4, .int (nI be)), (5, .ref (ad (3 + 3 * m)))] [0, 1, 2, 3, 4, 5, 6] rfl ?_
  exact loop _ 0 T rfl (Nat.zero_le _) (fun _ _ => rfl) (by rw [List.take_zero, show ze_jr [] B = [] from rfl, List.append_nil]; exact hm)
