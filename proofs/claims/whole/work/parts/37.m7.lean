theorem ze_dig_neg {x : Int32} {d : Nat} (h0 : 0 < d) (hd : d < 1000) (h : ¬ (0 : Int32) ≤ x - x / nI d * nI d) : x - x / nI d * nI d + nI d = nI (ze_fm x d) := by
  have hl := ze_fm_lt x h0
  by_cases hx : x < 0
  · by_cases hz : x - x / nI d * nI d = 0
    · exact absurd (by rw [hz]; decide) h
    · exact ze_fm_neg h0 hd hx hz
  · rw [ze_fm_pos h0 hd hx] at h
    exact absurd (nI_pos' (by omega)) h
theorem ze_dig_pos {x : Int32} {d : Nat} (h0 : 0 < d) (hd : d < 1000) (h : (0 : Int32) ≤ x - x / nI d * nI d) : x - x / nI d * nI d = nI (ze_fm x d) := by
  have hl := ze_fm_lt x h0
  by_cases hx : x < 0
  · by_cases hz : x - x / nI d * nI d = 0
    · exact ze_fm_neg0 h0 hd hz
    · exfalso
      have e := ze_fm_neg h0 hd hx hz
      have e2 : x - x / nI d * nI d = nI (ze_fm x d) - nI d := by rw [← e, Int32.add_sub_cancel]
      rw [e2] at h
      exact absurd (pk_sneg (by omega) hl) (Int32.not_lt.mpr h)
  · exact ze_fm_pos h0 hd hx
/-- the value's digits are those of the path -/
def ze_here (M : Nat) (pt : List Nat) (v : Int32) : Bool := (List.range pt.length).all (fun d => ze_dg M v d == pt.getD d 0)
theorem ze_here_nil (M : Nat) (v : Int32) : ze_here M [] v = true := rfl
theorem ze_here_snoc (M : Nat) (pt : List Nat) (p : Nat) (v : Int32) : ze_here M (pt ++ [p]) v = (ze_here M pt v && (ze_dg M v pt.length == p)) := by
  unfold ze_here
  rw [List.length_append, List.length_singleton, List.range_succ, List.all_append]
  have e : ∀ d, d < pt.length → (pt ++ [p]).getD d 0 = pt.getD d 0 := fun d hd => by rw [List.getD_eq_getElem?_getD, List.getElem?_append_left hd, ← List.getD_eq_getElem?_getD]
  congr 1
  · rw [Bool.eq_iff_iff, List.all_eq_true, List.all_eq_true]
    constructor
    · intro h d hd
      have := h d hd
      rw [e d (List.mem_range.mp hd)] at this
      exact this
    · intro h d hd
      rw [e d (List.mem_range.mp hd)]
      exact h d hd
  · simp
theorem ze_here_at {M : Nat} {pt : List Nat} {v : Int32} {d : Nat} (h : ze_here M pt v = true) (hd : d < pt.length) : ze_dg M v d = pt.getD d 0 := by
  unfold ze_here at h
  rw [List.all_eq_true] at h
  simpa using h d (List.mem_range.mpr hd)
theorem ze_here_of {M : Nat} {pt : List Nat} {v : Int32} (h : ∀ d, d < pt.length → ze_dg M v d = pt.getD d 0) : ze_here M pt v = true := by
  unfold ze_here
  rw [List.all_eq_true]
  intro d hd
  simp only [beq_iff_eq]
  exact h d (List.mem_range.mp hd)
/-- the rows of the path -/
def ze_fl (M : Nat) (pt : List Nat) (f : ze_Row → Int32) (A : List ze_Row) : List ze_Row := A.filter (fun r => ze_here M pt (f r))
theorem ze_fl_nil (M : Nat) (f : ze_Row → Int32) (A : List ze_Row) : ze_fl M [] f A = A := by
  unfold ze_fl
  simp [ze_here_nil]
theorem ze_fl_snoc (M : Nat) (pt : List Nat) (p : Nat) (f : ze_Row → Int32) (A : List ze_Row) : ze_fl M (pt ++ [p]) f A = ze_pt M pt.length p f (ze_fl M pt f A) := by
  unfold ze_fl ze_pt
  rw [List.filter_filter]
  apply List.filter_congr
  intro r _
  rw [ze_here_snoc, Bool.and_comm]
  rfl
theorem ze_fl_take (M : Nat) (pt : List Nat) (f : ze_Row → Int32) (A : List ze_Row) (r : ze_Row) : ze_fl M pt f (A ++ [r]) = if ze_here M pt (f r) = true then ze_fl M pt f A ++ [r] else ze_fl M pt f A := by
  unfold ze_fl
  rw [List.filter_append]
  by_cases h : ze_here M pt (f r) = true
  · rw [if_pos h]; simp [h]
  · rw [if_neg h]; simp [h]
theorem ze_fl_len (M : Nat) (pt : List Nat) (f : ze_Row → Int32) (A : List ze_Row) : (ze_fl M pt f A).length ≤ A.length := List.length_filter_le _ _
/-- the path's array holds the path -/
def ze_ph (Ar : Nat → Nat → Int32) (pt : List Nat) : Prop := ∀ d, d < pt.length → Ar 7 d = nI (pt.getD d 0)
theorem ze_slice_snoc {α : Type} (F : List α) (x : α) (a w : Nat) : ((F ++ [x]).drop a).take w = if a ≤ F.length ∧ F.length < a + w then (F.drop a).take w ++ [x] else (F.drop a).take w := by
  by_cases h1 : a ≤ F.length
  · rw [List.drop_append_of_le_length h1]
    by_cases h2 : F.length < a + w
    · rw [if_pos ⟨h1, h2⟩, List.take_of_length_le (by simp; omega), List.take_of_length_le (l := F.drop a) (by simp; omega)]
    · rw [if_neg (fun z => h2 z.2), List.take_append_of_le_length (by simp; omega)]
  · rw [if_neg (fun z => h1 z.1), List.drop_eq_nil_of_le (by simp; omega), List.drop_eq_nil_of_le (by omega)]

set_option maxRecDepth 100000 in
set_option maxHeartbeats 4000000 in
theorem c_M_digit (l : Launch) (D : va_G) (ids : Nat → ClassId) (ad : Nat → Nat) (x : ze_XS) (M : Nat) (mv : Int64) (ty ma co le : Nat) (Ar : Nat → Nat → Int32) (hM : 3 ≤ M ∧ M ≤ 6) (v : Int32) (d : Nat) (hd : d ≤ 3) : ze_MM l D ids ad x y_M_digit ws_M_digit 1 (M, mv, ty, ma, co, le, Ar) [.ref (ad 39), .int v, .int (nI d)] (fun w ms' => w = some (.int (nI (ze_dg M v d))) ∧ ms' = (M, mv, ty, ma, co, le, Ar)) := by
  refine ze_enter (cc := b_M_digit) (maxL := 6) (ret := (some .int)) (by decide +kernel) rfl (Nat.le_of_ble_eq_true rfl) ?_
  rintro G rfl rfl rfl - C Rt
  refine ze_lv (lv' := [(0, .ref (ad 39)), (1, .int v), (2, .int (nI d))]) rfl ?_
  have hb3 : 0 < (M - 1) * (M - 1) * (M - 1) ∧ (M - 1) * (M - 1) * (M - 1) < 1000 := by rcases (show M = 3 ∨ M = 4 ∨ M = 5 ∨ M = 6 by omega) with rfl | rfl | rfl | rfl <;> decide
  have hfm := ze_fm_lt v hb3.1
  have loop : ∀ (r : Nat) (k q : Nat), d - k = r → k ≤ d → q = ze_fm v ((M - 1) * (M - 1) * (M - 1)) / (M - 1) ^ k → q < 1000 → ze_V G 48 ad (ze_E (ze_i G) ad x (M, mv, ty, ma, co, le, Ar)) 0 0 39 [(5, .int (nI k)), (4, .int (nI q)), (3, .int (nI (M - 1))), (0, .ref (ad 39)), (1, .int v), (2, .int (nI d))] [] := by
    intro r
    induction r using Nat.strongRecOn with
    | ind r ih =>
      intro k q hr g1 g2 g3
      refine ze_iload C d_M_digit_39 0 rfl ?_
      refine ze_iload_n C d_M_digit_41 5 rfl rfl ?_
      refine ze_icmp_geN 57 C d_M_digit_42 (by decide) (by omega) (by omega) (fun h42 => ?_) (fun h42 => ?_)
      · refine ze_iload C d_M_digit_57 1 rfl ?_
        refine ze_iload_n C d_M_digit_59 2 rfl rfl ?_
        refine ze_iremN C d_M_digit_60 (by omega) (by omega) (by omega) ?_
        exact ze_iret C Rt d_M_digit_61 (⟨rfl, rfl, _, rfl, by rw [g2, show k = d by omega]; rfl, rfl⟩)
      · refine ze_iload C d_M_digit_45 1 rfl ?_
        refine ze_iload_n C d_M_digit_47 2 rfl rfl ?_
        refine ze_idivN C d_M_digit_48 (by omega) (by omega) (by omega) ?_
        refine ze_istore (lv' := [(4, .int (nI (q / (M - 1)))), (5, .int (nI k)), (3, .int (nI (M - 1))), (0, .ref (ad 39)), (1, .int v), (2, .int (nI d))]) C d_M_digit_49 (by decide) rfl ?_
        refine ze_iinc (j := 1) (v := nI (k + 1)) (lv' := [(5, .int (nI (k + 1))), (4, .int (nI (q / (M - 1)))), (3, .int (nI (M - 1))), (0, .ref (ad 39)), (1, .int v), (2, .int (nI d))]) C d_M_digit_51 rfl (nI_1 _) (by decide) rfl ?_
        refine ze_goto 39 C d_M_digit_54 (by decide) ?_
        refine ze_sub [(5, .int (nI (k + 1))), (4, .int (nI (q / (M - 1)))), (3, .int (nI (M - 1))), (0, .ref (ad 39)), (1, .int v), (2, .int (nI d))] [0, 1, 2, 3, 4, 5] rfl ?_
        exact ih (d - (k + 1)) (by omega) (k + 1) _ rfl (by omega) (by rw [g2, Nat.div_div_eq_div_mul, Nat.pow_succ]) (Nat.lt_of_le_of_lt (Nat.div_le_self _ _) g3)
  refine ze_aload_n C d_M_digit_0 0 rfl rfl ?_
  refine ze_getf (k := 39) C fl_M_34 (by decide) ze_E_m rfl d_M_digit_1 ?_
  refine ze_iconst (v := nI 1) C d_M_digit_4 (by decide) ?_
  refine ze_isubN C d_M_digit_5 (by omega) ?_
  refine ze_istore_n (lv' := [(3, .int (nI (M - 1))), (0, .ref (ad 39)), (1, .int v), (2, .int (nI d))]) C d_M_digit_6 rfl (by decide) rfl ?_
  refine ze_iload_n C d_M_digit_7 2 rfl rfl ?_
  refine ze_iload_n C d_M_digit_8 0 rfl rfl ?_
  refine ze_iload_n C d_M_digit_9 0 rfl rfl ?_
  refine ze_imulN C d_M_digit_10 ?_
  refine ze_iload_n C d_M_digit_11 0 rfl rfl ?_
  refine ze_imulN C d_M_digit_12 ?_
  refine ze_irem C d_M_digit_13 (nI_ne0 hb3.1 (by omega)) ?_
  refine ze_istore (lv' := [(4, .int (v - v / (nI (((M - 1) * (M - 1)) * (M - 1))) * (nI (((M - 1) * (M - 1)) * (M - 1))))), (3, .int (nI (M - 1))), (0, .ref (ad 39)), (1, .int v), (2, .int (nI d))]) C d_M_digit_14 (by decide) rfl ?_
  refine ze_iload C d_M_digit_16 0 rfl ?_
  refine ze_if_ge 32 C d_M_digit_18 (by decide) (fun h18 => ?_) (fun h18 => ?_)
  · refine ze_iload C d_M_digit_32 0 rfl ?_
    refine ze_sub [(3, .int (nI (M - 1))), (0, .ref (ad 39)), (1, .int v), (2, .int (nI d))] [1, 2, 3, 4] rfl ?_
    rw [ze_dig_pos hb3.1 hb3.2 h18]
    refine ze_istore (lv' := [(4, .int (nI (ze_fm v ((M - 1) * (M - 1) * (M - 1))))), (3, .int (nI (M - 1))), (0, .ref (ad 39)), (1, .int v), (2, .int (nI d))]) C d_M_digit_34 (by decide) rfl ?_
    refine ze_iconst (v := nI 0) C d_M_digit_36 (by decide) ?_
    refine ze_istore (lv' := [(5, .int (nI 0)), (4, .int (nI (ze_fm v ((M - 1) * (M - 1) * (M - 1))))), (3, .int (nI (M - 1))), (0, .ref (ad 39)), (1, .int v), (2, .int (nI d))]) C d_M_digit_37 (by decide) rfl ?_
    exact loop _ 0 _ rfl (Nat.zero_le _) (by rw [Nat.pow_zero, Nat.div_one]) (by omega)
  · refine ze_iload C d_M_digit_21 0 rfl ?_
    refine ze_iload_n C d_M_digit_23 1 rfl rfl ?_
    refine ze_iload_n C d_M_digit_24 1 rfl rfl ?_
    refine ze_imulN C d_M_digit_25 ?_
    refine ze_iload_n C d_M_digit_26 1 rfl rfl ?_
    refine ze_imulN C d_M_digit_27 ?_
    refine ze_iadd C d_M_digit_28 ?_
    refine ze_goto 34 C d_M_digit_29 (by decide) ?_
    refine ze_sub [(3, .int (nI (M - 1))), (0, .ref (ad 39)), (1, .int v), (2, .int (nI d))] [1, 2, 3, 4] rfl ?_
    rw [ze_dig_neg hb3.1 hb3.2 h18]
    refine ze_istore (lv' := [(4, .int (nI (ze_fm v ((M - 1) * (M - 1) * (M - 1))))), (3, .int (nI (M - 1))), (0, .ref (ad 39)), (1, .int v), (2, .int (nI d))]) C d_M_digit_34 (by decide) rfl ?_
    refine ze_iconst (v := nI 0) C d_M_digit_36 (by decide) ?_
    refine ze_istore (lv' := [(5, .int (nI 0)), (4, .int (nI (ze_fm v ((M - 1) * (M - 1) * (M - 1))))), (3, .int (nI (M - 1))), (0, .ref (ad 39)), (1, .int v), (2, .int (nI d))]) C d_M_digit_37 (by decide) rfl ?_
    exact loop _ 0 _ rfl (Nat.zero_le _) (by rw [Nat.pow_zero, Nat.div_one]) (by omega)

set_option maxRecDepth 100000 in
set_option maxHeartbeats 4000000 in
theorem c_M_here (l : Launch) (D : va_G) (ids : Nat → ClassId) (ad : Nat → Nat) (x : ze_XS) (M : Nat) (mv : Int64) (ty ma co le : Nat) (Ar : Nat → Nat → Int32) (hM : 3 ≤ M ∧ M ≤ 6) (pt : List Nat) (hle : le = pt.length) (hpt : pt.length ≤ 3) (hpd : ∀ d, d < pt.length → pt.getD d 0 < 10) (hph : ze_ph Ar pt) (v : Int32) : ze_MM l D ids ad x y_M_here ws_M_here 2 (M, mv, ty, ma, co, le, Ar) [.ref (ad 39), .int v] (fun w ms' => w = some (.int (ze_bi (ze_here M pt v))) ∧ ms' = (M, mv, ty, ma, co, le, Ar)) := by
  refine ze_enter (cc := b_M_here) (maxL := 3) (ret := (some .boolean)) (by decide +kernel) rfl (Nat.le_of_ble_eq_true rfl) ?_
  rintro G rfl rfl rfl - C Rt
  refine ze_lv (lv' := [(0, .ref (ad 39)), (1, .int v)]) rfl ?_
  have loop : ∀ (r : Nat) (d : Nat), pt.length - d = r → d ≤ pt.length → (∀ q, q < d → ze_dg M v q = pt.getD q 0) → ze_V G 48 ad (ze_E (ze_i G) ad x (M, mv, ty, ma, co, le, Ar)) 0 0 2 [(2, .int (nI d)), (0, .ref (ad 39)), (1, .int v)] [] := by
    intro r
    induction r using Nat.strongRecOn with
    | ind r ih =>
      intro d hr g1 g2
      refine ze_iload_n C d_M_here_2 0 rfl rfl ?_
      refine ze_aload_n C d_M_here_3 1 rfl rfl ?_
      refine ze_getf (k := 39) C fl_M_98 (by decide) ze_E_m rfl d_M_here_4 ?_
      refine ze_icmp_geN 33 C d_M_here_7 (by decide) (by omega) (by omega) (fun h7 => ?_) (fun h7 => ?_)
      · refine ze_iconst (v := nI 1) C d_M_here_33 (by decide) ?_
        exact ze_zret C Rt (by decide) d_M_here_34 (⟨rfl, rfl, _, rfl, by rw [ze_here_of (fun q hq => g2 q (by omega))]; rfl, rfl⟩)
      · refine ze_aload_n C d_M_here_10 1 rfl rfl ?_
        refine ze_iload_n C d_M_here_11 2 rfl rfl ?_
        refine ze_iload_n C d_M_here_12 0 rfl rfl ?_
        refine ze_callV (st := []) C (c_M_digit (ze_l G) (ze_D G) (ze_i G) ad x M mv ty ma co le Ar hM v d (by omega)) (kv_M_101 (ze_rml (by decide) (by decide))) (by decide) ze_E_m rfl (Nat.le_of_ble_eq_true rfl) ⟨Nat.le_of_ble_eq_true rfl, Nat.le_of_ble_eq_true rfl⟩ d_M_here_13 ?_
        rintro _ _ _ _ ⟨rfl, rfl, _, rfl, rfl, rfl⟩
        refine ze_norm (c2 := 0) (s2 := 0) (st' := [.int (nI (ze_dg M v d))]) rfl rfl rfl ?_
        have hdg13 := ze_dg_lt M v d hM
        refine ze_aload_n C d_M_here_16 1 rfl rfl ?_
        refine ze_getf (k := 39) C fl_M_31 (by decide) ze_E_m rfl d_M_here_17 ?_
        refine ze_iload_n C d_M_here_20 0 rfl rfl ?_
        refine ze_iald (k := 40 + 7) (i := d) C (by decide) (ze_E_a (j := 7)) (by show _ < 3; omega) (by decide) d_M_here_21 ?_
        rw [hph d (by omega)]
        have hp10 := hpd d (by omega)
        refine ze_icmp_eqN 27 C d_M_here_22 (by decide) (by omega) (by omega) (fun h22 => ?_) (fun h22 => ?_)
        · refine ze_iinc (j := 0) (v := nI (d + 1)) (lv' := [(2, .int (nI (d + 1))), (0, .ref (ad 39)), (1, .int v)]) C d_M_here_27 rfl (nI_1 _) (by decide) rfl ?_
          refine ze_goto 2 C d_M_here_30 (by decide) ?_
          refine ze_sub [(2, .int (nI (d + 1))), (0, .ref (ad 39)), (1, .int v)] [0, 1, 2] rfl ?_
          exact ih (pt.length - (d + 1)) (by omega) (d + 1) rfl (by omega) (fun q hq => by by_cases e : q = d; (subst e; exact h22); exact g2 q (by omega))
        · refine ze_iconst (v := nI 0) C d_M_here_25 (by decide) ?_
          exact ze_zret C Rt (by decide) d_M_here_26 (⟨rfl, rfl, _, rfl, by rw [show ze_here M pt v = false from Bool.eq_false_iff.mpr (fun z => h22 (ze_here_at z (by omega)))]; rfl, rfl⟩)
  refine ze_iconst (v := nI 0) C d_M_here_0 (by decide) ?_
  refine ze_istore_n (lv' := [(2, .int (nI 0)), (0, .ref (ad 39)), (1, .int v)]) C d_M_here_1 rfl (by decide) rfl ?_
  exact loop _ 0 rfl (Nat.zero_le _) (fun q hq => absurd hq (by omega))

set_option maxRecDepth 100000 in
set_option maxHeartbeats 4000000 in
theorem c_M_many_A (l : Launch) (D : va_G) (ids : Nat → ClassId) (ad : Nat → Nat) (x : ze_XS) (M : Nat) (mv : Int64) (ty ma co le : Nat) (Ar : Nat → Nat → Int32) (hM : 3 ≤ M ∧ M ≤ 6) (L : List ze_Row) (s : Nat) (hs : s < 8) (hL : L.length ≤ 60) (hc : Ar 2 s = nI L.length) (hH : ze_Hl (Ar 3) (Ar 4) (60 * s) L) (pt : List Nat) (hle : le = pt.length) (hpt : pt.length ≤ 3) (hpd : ∀ d, d < pt.length → pt.getD d 0 < 10) (hph : ze_ph Ar pt) : ze_MM l D ids ad x y_M_many ws_M_many 3 (M, mv, ty, ma, co, le, Ar) [.ref (ad 39), .int (nI s), .int (ze_bi true), .int (-1)] (fun w ms' => w = some (.int (nI (ze_fl M pt (fun r => r.2) (L)).length)) ∧ ms' = (M, mv, ty, ma, co, le, Ar)) := by
  refine ze_enter (cc := b_M_many) (maxL := 7) (ret := (some .int)) (by decide +kernel) rfl (Nat.le_of_ble_eq_true rfl) ?_
  rintro G rfl rfl rfl - C Rt
  refine ze_lv (lv' := [(0, .ref (ad 39)), (1, .int (nI s)), (2, .int (ze_bi true)), (3, .int (-1))]) rfl ?_
  have loop : ∀ (r : Nat) (p n : Nat), L.length - p = r → p ≤ L.length → n = (ze_fl M pt (fun r => r.2) (L.take p)).length → n ≤ p → ze_V G 48 ad (ze_E (ze_i G) ad x (M, mv, ty, ma, co, le, Ar)) 0 0 9 [(5, .int (nI (60 * s + p))), (4, .int (nI n)), (0, .ref (ad 39)), (1, .int (nI s)), (2, .int (ze_bi true)), (3, .int (-1))] [] := by
    intro r
    induction r using Nat.strongRecOn with
    | ind r ih =>
      intro p n hr g1 g2 g3
      refine ze_iload C d_M_many_9 0 rfl ?_
      refine ze_bipush (v := nI 60) C d_M_many_11 (by decide) ?_
      refine ze_iload_n C d_M_many_13 3 rfl rfl ?_
      refine ze_imulN C d_M_many_14 ?_
      refine ze_aload_n C d_M_many_15 2 rfl rfl ?_
      refine ze_getf (k := 39) C fl_M_16 (by decide) ze_E_m rfl d_M_many_16 ?_
      refine ze_iload_n C d_M_many_19 3 rfl rfl ?_
      refine ze_iald (k := 40 + 2) (i := s) C (by decide) (ze_E_a (j := 2)) (by show _ < 8; omega) (by decide) d_M_many_20 ?_
      rw [hc]
      refine ze_iaddN C d_M_many_21 ?_
      refine ze_icmp_geN 91 C d_M_many_22 (by decide) (by omega) (by omega) (fun h22 => ?_) (fun h22 => ?_)
      · refine ze_iload C d_M_many_91 1 rfl ?_
        exact ze_iret C Rt d_M_many_93 (⟨rfl, rfl, _, rfl, by rw [g2, show L.take p = L from List.take_of_length_le (by omega)], rfl⟩)
      · refine ze_iload_n C d_M_many_25 4 rfl rfl ?_
        refine ze_if_eq 39 C d_M_many_26 (by decide) (fun h26 => absurd h26 (by decide)) (fun h26 => ?_)
        refine ze_aload_n C d_M_many_29 2 rfl rfl ?_
        refine ze_getf (k := 39) C fl_M_22 (by decide) ze_E_m rfl d_M_many_30 ?_
        refine ze_iload C d_M_many_33 0 rfl ?_
        refine ze_iald (k := 40 + 4) (i := 60 * s + p) C (by decide) (ze_E_a (j := 4)) (by show _ < 480; omega) (by decide) d_M_many_35 ?_
        refine ze_goto 46 C d_M_many_36 (by decide) ?_
        refine ze_istore (lv' := [(6, .int (Ar 4 (60 * s + p))), (5, .int (nI (60 * s + p))), (4, .int (nI n)), (0, .ref (ad 39)), (1, .int (nI s)), (2, .int (ze_bi true)), (3, .int (-1))]) C d_M_many_46 (by decide) rfl ?_
        refine ze_iload C d_M_many_48 2 rfl ?_
        refine ze_aload_n C d_M_many_50 3 rfl rfl ?_
        refine ze_iload C d_M_many_51 0 rfl ?_
        refine ze_callV (st := [.int (nI n)]) C (c_M_here (ze_l G) (ze_D G) (ze_i G) ad x M mv ty ma co le Ar hM pt hle hpt hpd hph (Ar 4 (60 * s + p))) (kv_M_104 (ze_rml (by decide) (by decide))) (by decide) ze_E_m rfl (Nat.le_of_ble_eq_true rfl) ⟨Nat.le_of_ble_eq_true rfl, Nat.le_of_ble_eq_true rfl⟩ d_M_many_53 ?_
        rintro _ _ _ _ ⟨rfl, rfl, _, rfl, rfl, rfl⟩
        refine ze_norm (c2 := 0) (s2 := 0) (st' := [.int (ze_bi (ze_here M pt (Ar 4 (60 * s + p)))), .int (nI n)]) rfl rfl rfl ?_
        refine ze_if_eq 81 C d_M_many_56 (by decide) (fun h56 => ?_) (fun h56 => ?_)
        · refine ze_iconst (v := nI 0) C d_M_many_81 (by decide) ?_
          refine ze_iaddN C d_M_many_82 ?_
          refine ze_istore (lv' := [(4, .int (nI (n + 0))), (6, .int (Ar 4 (60 * s + p))), (5, .int (nI (60 * s + p))), (0, .ref (ad 39)), (1, .int (nI s)), (2, .int (ze_bi true)), (3, .int (-1))]) C d_M_many_83 (by decide) rfl ?_
          refine ze_iinc (j := 2) (v := nI (60 * s + p + 1)) (lv' := [(5, .int (nI (60 * s + p + 1))), (4, .int (nI (n + 0))), (6, .int (Ar 4 (60 * s + p))), (0, .ref (ad 39)), (1, .int (nI s)), (2, .int (ze_bi true)), (3, .int (-1))]) C d_M_many_85 rfl (nI_1 _) (by decide) rfl ?_
          refine ze_goto 9 C d_M_many_88 (by decide) ?_
          refine ze_sub [(5, .int (nI (60 * s + (p + 1)))), (4, .int (nI (n + 0))), (0, .ref (ad 39)), (1, .int (nI s)), (2, .int (ze_bi true)), (3, .int (-1))] [0, 1, 3, 4, 5, 6] rfl ?_
          exact ih (L.length - (p + 1)) (by omega) (p + 1) _ rfl (by omega) (by rw [ze_Hl_take hH (by omega), ze_fl_take, if_neg (by simp only; rw [ze_bi0.mp h56]; decide)]; exact g2) (by omega)
        · refine ze_iload_n C d_M_many_59 6 rfl rfl ?_
          refine ze_if_lt 77 C d_M_many_60 (by decide) (fun h60 => ?_) (fun h60 => absurd h60 (by decide))
          refine ze_iconst (v := nI 1) C d_M_many_77 (by decide) ?_
          refine ze_goto 82 C d_M_many_78 (by decide) ?_
          refine ze_iaddN C d_M_many_82 ?_
          refine ze_istore (lv' := [(4, .int (nI (n + 1))), (6, .int (Ar 4 (60 * s + p))), (5, .int (nI (60 * s + p))), (0, .ref (ad 39)), (1, .int (nI s)), (2, .int (ze_bi true)), (3, .int (-1))]) C d_M_many_83 (by decide) rfl ?_
          refine ze_iinc (j := 2) (v := nI (60 * s + p + 1)) (lv' := [(5, .int (nI (60 * s + p + 1))), (4, .int (nI (n + 1))), (6, .int (Ar 4 (60 * s + p))), (0, .ref (ad 39)), (1, .int (nI s)), (2, .int (ze_bi true)), (3, .int (-1))]) C d_M_many_85 rfl (nI_1 _) (by decide) rfl ?_
          refine ze_goto 9 C d_M_many_88 (by decide) ?_
          refine ze_sub [(5, .int (nI (60 * s + (p + 1)))), (4, .int (nI (n + 1))), (0, .ref (ad 39)), (1, .int (nI s)), (2, .int (ze_bi true)), (3, .int (-1))] [0, 1, 3, 4, 5, 6] rfl ?_
          exact ih (L.length - (p + 1)) (by omega) (p + 1) _ rfl (by omega) (by rw [ze_Hl_take hH (by omega), ze_fl_take, if_pos (ze_bi1 h56), List.length_append, ← g2]; rfl) (by omega)
  refine ze_iconst (v := nI 0) C d_M_many_0 (by decide) ?_
  refine ze_istore (lv' := [(4, .int (nI 0)), (0, .ref (ad 39)), (1, .int (nI s)), (2, .int (ze_bi true)), (3, .int (-1))]) C d_M_many_1 (by decide) rfl ?_
  refine ze_bipush (v := nI 60) C d_M_many_3 (by decide) ?_
  refine ze_iload_n C d_M_many_5 2 rfl rfl ?_
  refine ze_imulN C d_M_many_6 ?_
  refine ze_istore (lv' := [(5, .int (nI (60 * s))), (4, .int (nI 0)), (0, .ref (ad 39)), (1, .int (nI s)), (2, .int (ze_bi true)), (3, .int (-1))]) C d_M_many_7 (by decide) rfl ?_
  refine ze_sub [(5, .int (nI (60 * s + 0))), (4, .int (nI 0)), (0, .ref (ad 39)), (1, .int (nI s)), (2, .int (ze_bi true)), (3, .int (-1))] [0, 1, 2, 3, 4, 5] rfl ?_
  exact loop _ 0 0 rfl (Nat.zero_le _) rfl (Nat.le_refl _)

set_option maxRecDepth 100000 in
set_option maxHeartbeats 4000000 in
theorem c_M_many_Ap (l : Launch) (D : va_G) (ids : Nat → ClassId) (ad : Nat → Nat) (x : ze_XS) (M : Nat) (mv : Int64) (ty ma co le : Nat) (Ar : Nat → Nat → Int32) (hM : 3 ≤ M ∧ M ≤ 6) (L : List ze_Row) (s : Nat) (hs : s < 8) (hL : L.length ≤ 60) (hc : Ar 2 s = nI L.length) (hH : ze_Hl (Ar 3) (Ar 4) (60 * s) L) (pt : List Nat) (hle : le = pt.length) (hpt : pt.length ≤ 3) (hpd : ∀ d, d < pt.length → pt.getD d 0 < 10) (hph : ze_ph Ar pt) (pq : Nat) (hpq : pq < 10) : ze_MM l D ids ad x y_M_many ws_M_many 3 (M, mv, ty, ma, co, le, Ar) [.ref (ad 39), .int (nI s), .int (ze_bi true), .int (nI pq)] (fun w ms' => w = some (.int (nI (ze_pt M pt.length pq (fun r => r.2) (ze_fl M pt (fun r => r.2) (L))).length)) ∧ ms' = (M, mv, ty, ma, co, le, Ar)) := by
  refine ze_enter (cc := b_M_many) (maxL := 7) (ret := (some .int)) (by decide +kernel) rfl (Nat.le_of_ble_eq_true rfl) ?_
  rintro G rfl rfl rfl - C Rt
  refine ze_lv (lv' := [(0, .ref (ad 39)), (1, .int (nI s)), (2, .int (ze_bi true)), (3, .int (nI pq))]) rfl ?_
  have loop : ∀ (r : Nat) (p n : Nat), L.length - p = r → p ≤ L.length → n = (ze_pt M pt.length pq (fun r => r.2) (ze_fl M pt (fun r => r.2) (L.take p))).length → n ≤ p → ze_V G 48 ad (ze_E (ze_i G) ad x (M, mv, ty, ma, co, le, Ar)) 0 0 9 [(5, .int (nI (60 * s + p))), (4, .int (nI n)), (0, .ref (ad 39)), (1, .int (nI s)), (2, .int (ze_bi true)), (3, .int (nI pq))] [] := by
    intro r
    induction r using Nat.strongRecOn with
    | ind r ih =>
      intro p n hr g1 g2 g3
      refine ze_iload C d_M_many_9 0 rfl ?_
      refine ze_bipush (v := nI 60) C d_M_many_11 (by decide) ?_
      refine ze_iload_n C d_M_many_13 3 rfl rfl ?_
      refine ze_imulN C d_M_many_14 ?_
      refine ze_aload_n C d_M_many_15 2 rfl rfl ?_
      refine ze_getf (k := 39) C fl_M_16 (by decide) ze_E_m rfl d_M_many_16 ?_
      refine ze_iload_n C d_M_many_19 3 rfl rfl ?_
      refine ze_iald (k := 40 + 2) (i := s) C (by decide) (ze_E_a (j := 2)) (by show _ < 8; omega) (by decide) d_M_many_20 ?_
      rw [hc]
      refine ze_iaddN C d_M_many_21 ?_
      refine ze_icmp_geN 91 C d_M_many_22 (by decide) (by omega) (by omega) (fun h22 => ?_) (fun h22 => ?_)
      · refine ze_iload C d_M_many_91 1 rfl ?_
        exact ze_iret C Rt d_M_many_93 (⟨rfl, rfl, _, rfl, by rw [g2, show L.take p = L from List.take_of_length_le (by omega)], rfl⟩)
      · refine ze_iload_n C d_M_many_25 4 rfl rfl ?_
        refine ze_if_eq 39 C d_M_many_26 (by decide) (fun h26 => absurd h26 (by decide)) (fun h26 => ?_)
        refine ze_aload_n C d_M_many_29 2 rfl rfl ?_
        refine ze_getf (k := 39) C fl_M_22 (by decide) ze_E_m rfl d_M_many_30 ?_
        refine ze_iload C d_M_many_33 0 rfl ?_
        refine ze_iald (k := 40 + 4) (i := 60 * s + p) C (by decide) (ze_E_a (j := 4)) (by show _ < 480; omega) (by decide) d_M_many_35 ?_
        refine ze_goto 46 C d_M_many_36 (by decide) ?_
        refine ze_istore (lv' := [(6, .int (Ar 4 (60 * s + p))), (5, .int (nI (60 * s + p))), (4, .int (nI n)), (0, .ref (ad 39)), (1, .int (nI s)), (2, .int (ze_bi true)), (3, .int (nI pq))]) C d_M_many_46 (by decide) rfl ?_
        refine ze_iload C d_M_many_48 2 rfl ?_
        refine ze_aload_n C d_M_many_50 3 rfl rfl ?_
        refine ze_iload C d_M_many_51 0 rfl ?_
        refine ze_callV (st := [.int (nI n)]) C (c_M_here (ze_l G) (ze_D G) (ze_i G) ad x M mv ty ma co le Ar hM pt hle hpt hpd hph (Ar 4 (60 * s + p))) (kv_M_104 (ze_rml (by decide) (by decide))) (by decide) ze_E_m rfl (Nat.le_of_ble_eq_true rfl) ⟨Nat.le_of_ble_eq_true rfl, Nat.le_of_ble_eq_true rfl⟩ d_M_many_53 ?_
        rintro _ _ _ _ ⟨rfl, rfl, _, rfl, rfl, rfl⟩
        refine ze_norm (c2 := 0) (s2 := 0) (st' := [.int (ze_bi (ze_here M pt (Ar 4 (60 * s + p)))), .int (nI n)]) rfl rfl rfl ?_
        refine ze_if_eq 81 C d_M_many_56 (by decide) (fun h56 => ?_) (fun h56 => ?_)
        · refine ze_iconst (v := nI 0) C d_M_many_81 (by decide) ?_
          refine ze_iaddN C d_M_many_82 ?_
          refine ze_istore (lv' := [(4, .int (nI (n + 0))), (6, .int (Ar 4 (60 * s + p))), (5, .int (nI (60 * s + p))), (0, .ref (ad 39)), (1, .int (nI s)), (2, .int (ze_bi true)), (3, .int (nI pq))]) C d_M_many_83 (by decide) rfl ?_
          refine ze_iinc (j := 2) (v := nI (60 * s + p + 1)) (lv' := [(5, .int (nI (60 * s + p + 1))), (4, .int (nI (n + 0))), (6, .int (Ar 4 (60 * s + p))), (0, .ref (ad 39)), (1, .int (nI s)), (2, .int (ze_bi true)), (3, .int (nI pq))]) C d_M_many_85 rfl (nI_1 _) (by decide) rfl ?_
          refine ze_goto 9 C d_M_many_88 (by decide) ?_
          refine ze_sub [(5, .int (nI (60 * s + (p + 1)))), (4, .int (nI (n + 0))), (0, .ref (ad 39)), (1, .int (nI s)), (2, .int (ze_bi true)), (3, .int (nI pq))] [0, 1, 3, 4, 5, 6] rfl ?_
          exact ih (L.length - (p + 1)) (by omega) (p + 1) _ rfl (by omega) (by rw [ze_Hl_take hH (by omega), ze_fl_take, if_neg (by simp only; rw [ze_bi0.mp h56]; decide)]; exact g2) (by omega)
        · refine ze_iload_n C d_M_many_59 6 rfl rfl ?_
          refine ze_if_ltN 77 C d_M_many_60 (by decide) (by omega) (fun h60 => absurd h60 (by omega)) (fun h60 => ?_)
          refine ze_aload_n C d_M_many_63 3 rfl rfl ?_
          refine ze_iload C d_M_many_64 0 rfl ?_
          refine ze_aload_n C d_M_many_66 3 rfl rfl ?_
          refine ze_getf (k := 39) C fl_M_98 (by decide) ze_E_m rfl d_M_many_67 ?_
          refine ze_callV (st := [.int (nI n)]) C (c_M_digit (ze_l G) (ze_D G) (ze_i G) ad x M mv ty ma co le Ar hM (Ar 4 (60 * s + p)) le (by omega)) (kv_M_101 (ze_rml (by decide) (by decide))) (by decide) ze_E_m rfl (Nat.le_of_ble_eq_true rfl) ⟨Nat.le_of_ble_eq_true rfl, Nat.le_of_ble_eq_true rfl⟩ d_M_many_70 ?_
          rintro _ _ _ _ ⟨rfl, rfl, _, rfl, rfl, rfl⟩
          refine ze_norm (c2 := 0) (s2 := 0) (st' := [.int (nI (ze_dg M (Ar 4 (60 * s + p)) le)), .int (nI n)]) rfl rfl rfl ?_
          have hdg70 := ze_dg_lt M (Ar 4 (60 * s + p)) le hM
          refine ze_iload_n C d_M_many_73 6 rfl rfl ?_
          refine ze_icmp_neN 81 C d_M_many_74 (by decide) (by omega) (by omega) (fun h74 => ?_) (fun h74 => ?_)
          · refine ze_iconst (v := nI 0) C d_M_many_81 (by decide) ?_
            refine ze_iaddN C d_M_many_82 ?_
            refine ze_istore (lv' := [(4, .int (nI (n + 0))), (6, .int (Ar 4 (60 * s + p))), (5, .int (nI (60 * s + p))), (0, .ref (ad 39)), (1, .int (nI s)), (2, .int (ze_bi true)), (3, .int (nI pq))]) C d_M_many_83 (by decide) rfl ?_
            refine ze_iinc (j := 2) (v := nI (60 * s + p + 1)) (lv' := [(5, .int (nI (60 * s + p + 1))), (4, .int (nI (n + 0))), (6, .int (Ar 4 (60 * s + p))), (0, .ref (ad 39)), (1, .int (nI s)), (2, .int (ze_bi true)), (3, .int (nI pq))]) C d_M_many_85 rfl (nI_1 _) (by decide) rfl ?_
            refine ze_goto 9 C d_M_many_88 (by decide) ?_
            refine ze_sub [(5, .int (nI (60 * s + (p + 1)))), (4, .int (nI (n + 0))), (0, .ref (ad 39)), (1, .int (nI s)), (2, .int (ze_bi true)), (3, .int (nI pq))] [0, 1, 3, 4, 5, 6] rfl ?_
            rw [hle] at h74
            exact ih (L.length - (p + 1)) (by omega) (p + 1) _ rfl (by omega) (by rw [ze_Hl_take hH (by omega), ze_fl_take, if_pos (ze_bi1 h56), ze_pt_snoc, if_neg h74]; exact g2) (by omega)
          · refine ze_iconst (v := nI 1) C d_M_many_77 (by decide) ?_
            refine ze_goto 82 C d_M_many_78 (by decide) ?_
            refine ze_iaddN C d_M_many_82 ?_
            refine ze_istore (lv' := [(4, .int (nI (n + 1))), (6, .int (Ar 4 (60 * s + p))), (5, .int (nI (60 * s + p))), (0, .ref (ad 39)), (1, .int (nI s)), (2, .int (ze_bi true)), (3, .int (nI pq))]) C d_M_many_83 (by decide) rfl ?_
            refine ze_iinc (j := 2) (v := nI (60 * s + p + 1)) (lv' := [(5, .int (nI (60 * s + p + 1))), (4, .int (nI (n + 1))), (6, .int (Ar 4 (60 * s + p))), (0, .ref (ad 39)), (1, .int (nI s)), (2, .int (ze_bi true)), (3, .int (nI pq))]) C d_M_many_85 rfl (nI_1 _) (by decide) rfl ?_
            refine ze_goto 9 C d_M_many_88 (by decide) ?_
            refine ze_sub [(5, .int (nI (60 * s + (p + 1)))), (4, .int (nI (n + 1))), (0, .ref (ad 39)), (1, .int (nI s)), (2, .int (ze_bi true)), (3, .int (nI pq))] [0, 1, 3, 4, 5, 6] rfl ?_
            rw [hle] at h74
            exact ih (L.length - (p + 1)) (by omega) (p + 1) _ rfl (by omega) (by rw [ze_Hl_take hH (by omega), ze_fl_take, if_pos (ze_bi1 h56), ze_pt_snoc, if_pos h74, List.length_append, ← g2]; rfl) (by omega)
  refine ze_iconst (v := nI 0) C d_M_many_0 (by decide) ?_
  refine ze_istore (lv' := [(4, .int (nI 0)), (0, .ref (ad 39)), (1, .int (nI s)), (2, .int (ze_bi true)), (3, .int (nI pq))]) C d_M_many_1 (by decide) rfl ?_
  refine ze_bipush (v := nI 60) C d_M_many_3 (by decide) ?_
  refine ze_iload_n C d_M_many_5 2 rfl rfl ?_
  refine ze_imulN C d_M_many_6 ?_
  refine ze_istore (lv' := [(5, .int (nI (60 * s))), (4, .int (nI 0)), (0, .ref (ad 39)), (1, .int (nI s)), (2, .int (ze_bi true)), (3, .int (nI pq))]) C d_M_many_7 (by decide) rfl ?_
  refine ze_sub [(5, .int (nI (60 * s + 0))), (4, .int (nI 0)), (0, .ref (ad 39)), (1, .int (nI s)), (2, .int (ze_bi true)), (3, .int (nI pq))] [0, 1, 2, 3, 4, 5] rfl ?_
  exact loop _ 0 0 rfl (Nat.zero_le _) rfl (Nat.le_refl _)

set_option maxRecDepth 100000 in
set_option maxHeartbeats 4000000 in
theorem c_M_many_B (l : Launch) (D : va_G) (ids : Nat → ClassId) (ad : Nat → Nat) (x : ze_XS) (M : Nat) (mv : Int64) (ty ma co le : Nat) (Ar : Nat → Nat → Int32) (hM : 3 ≤ M ∧ M ≤ 6) (L : List ze_Row) (s : Nat) (hs : s < 8) (hL : L.length ≤ 60) (hc : Ar 2 s = nI L.length) (hH : ze_Hl (Ar 3) (Ar 4) (60 * s) L) (pt : List Nat) (hle : le = pt.length) (hpt : pt.length ≤ 3) (hpd : ∀ d, d < pt.length → pt.getD d 0 < 10) (hph : ze_ph Ar pt) : ze_MM l D ids ad x y_M_many ws_M_many 3 (M, mv, ty, ma, co, le, Ar) [.ref (ad 39), .int (nI s), .int (ze_bi false), .int (-1)] (fun w ms' => w = some (.int (nI (ze_fl M pt (fun r => r.1) (L)).length)) ∧ ms' = (M, mv, ty, ma, co, le, Ar)) := by
  refine ze_enter (cc := b_M_many) (maxL := 7) (ret := (some .int)) (by decide +kernel) rfl (Nat.le_of_ble_eq_true rfl) ?_
  rintro G rfl rfl rfl - C Rt
  refine ze_lv (lv' := [(0, .ref (ad 39)), (1, .int (nI s)), (2, .int (ze_bi false)), (3, .int (-1))]) rfl ?_
  have loop : ∀ (r : Nat) (p n : Nat), L.length - p = r → p ≤ L.length → n = (ze_fl M pt (fun r => r.1) (L.take p)).length → n ≤ p → ze_V G 48 ad (ze_E (ze_i G) ad x (M, mv, ty, ma, co, le, Ar)) 0 0 9 [(5, .int (nI (60 * s + p))), (4, .int (nI n)), (0, .ref (ad 39)), (1, .int (nI s)), (2, .int (ze_bi false)), (3, .int (-1))] [] := by
    intro r
    induction r using Nat.strongRecOn with
    | ind r ih =>
      intro p n hr g1 g2 g3
      refine ze_iload C d_M_many_9 0 rfl ?_
      refine ze_bipush (v := nI 60) C d_M_many_11 (by decide) ?_
      refine ze_iload_n C d_M_many_13 3 rfl rfl ?_
      refine ze_imulN C d_M_many_14 ?_
      refine ze_aload_n C d_M_many_15 2 rfl rfl ?_
      refine ze_getf (k := 39) C fl_M_16 (by decide) ze_E_m rfl d_M_many_16 ?_
      refine ze_iload_n C d_M_many_19 3 rfl rfl ?_
      refine ze_iald (k := 40 + 2) (i := s) C (by decide) (ze_E_a (j := 2)) (by show _ < 8; omega) (by decide) d_M_many_20 ?_
      rw [hc]
      refine ze_iaddN C d_M_many_21 ?_
      refine ze_icmp_geN 91 C d_M_many_22 (by decide) (by omega) (by omega) (fun h22 => ?_) (fun h22 => ?_)
      · refine ze_iload C d_M_many_91 1 rfl ?_
        exact ze_iret C Rt d_M_many_93 (⟨rfl, rfl, _, rfl, by rw [g2, show L.take p = L from List.take_of_length_le (by omega)], rfl⟩)
      · refine ze_iload_n C d_M_many_25 4 rfl rfl ?_
        refine ze_if_eq 39 C d_M_many_26 (by decide) (fun h26 => ?_) (fun h26 => absurd h26 (by decide))
        refine ze_aload_n C d_M_many_39 2 rfl rfl ?_
        refine ze_getf (k := 39) C fl_M_19 (by decide) ze_E_m rfl d_M_many_40 ?_
        refine ze_iload C d_M_many_43 0 rfl ?_
        refine ze_iald (k := 40 + 3) (i := 60 * s + p) C (by decide) (ze_E_a (j := 3)) (by show _ < 480; omega) (by decide) d_M_many_45 ?_
        refine ze_istore (lv' := [(6, .int (Ar 3 (60 * s + p))), (5, .int (nI (60 * s + p))), (4, .int (nI n)), (0, .ref (ad 39)), (1, .int (nI s)), (2, .int (ze_bi false)), (3, .int (-1))]) C d_M_many_46 (by decide) rfl ?_
        refine ze_iload C d_M_many_48 2 rfl ?_
        refine ze_aload_n C d_M_many_50 3 rfl rfl ?_
        refine ze_iload C d_M_many_51 0 rfl ?_
        refine ze_callV (st := [.int (nI n)]) C (c_M_here (ze_l G) (ze_D G) (ze_i G) ad x M mv ty ma co le Ar hM pt hle hpt hpd hph (Ar 3 (60 * s + p))) (kv_M_104 (ze_rml (by decide) (by decide))) (by decide) ze_E_m rfl (Nat.le_of_ble_eq_true rfl) ⟨Nat.le_of_ble_eq_true rfl, Nat.le_of_ble_eq_true rfl⟩ d_M_many_53 ?_
        rintro _ _ _ _ ⟨rfl, rfl, _, rfl, rfl, rfl⟩
        refine ze_norm (c2 := 0) (s2 := 0) (st' := [.int (ze_bi (ze_here M pt (Ar 3 (60 * s + p)))), .int (nI n)]) rfl rfl rfl ?_
        refine ze_if_eq 81 C d_M_many_56 (by decide) (fun h56 => ?_) (fun h56 => ?_)
        · refine ze_iconst (v := nI 0) C d_M_many_81 (by decide) ?_
          refine ze_iaddN C d_M_many_82 ?_
          refine ze_istore (lv' := [(4, .int (nI (n + 0))), (6, .int (Ar 3 (60 * s + p))), (5, .int (nI (60 * s + p))), (0, .ref (ad 39)), (1, .int (nI s)), (2, .int (ze_bi false)), (3, .int (-1))]) C d_M_many_83 (by decide) rfl ?_
          refine ze_iinc (j := 2) (v := nI (60 * s + p + 1)) (lv' := [(5, .int (nI (60 * s + p + 1))), (4, .int (nI (n + 0))), (6, .int (Ar 3 (60 * s + p))), (0, .ref (ad 39)), (1, .int (nI s)), (2, .int (ze_bi false)), (3, .int (-1))]) C d_M_many_85 rfl (nI_1 _) (by decide) rfl ?_
          refine ze_goto 9 C d_M_many_88 (by decide) ?_
          refine ze_sub [(5, .int (nI (60 * s + (p + 1)))), (4, .int (nI (n + 0))), (0, .ref (ad 39)), (1, .int (nI s)), (2, .int (ze_bi false)), (3, .int (-1))] [0, 1, 3, 4, 5, 6] rfl ?_
          exact ih (L.length - (p + 1)) (by omega) (p + 1) _ rfl (by omega) (by rw [ze_Hl_take hH (by omega), ze_fl_take, if_neg (by simp only; rw [ze_bi0.mp h56]; decide)]; exact g2) (by omega)
        · refine ze_iload_n C d_M_many_59 6 rfl rfl ?_
          refine ze_if_lt 77 C d_M_many_60 (by decide) (fun h60 => ?_) (fun h60 => absurd h60 (by decide))
          refine ze_iconst (v := nI 1) C d_M_many_77 (by decide) ?_
          refine ze_goto 82 C d_M_many_78 (by decide) ?_
          refine ze_iaddN C d_M_many_82 ?_
          refine ze_istore (lv' := [(4, .int (nI (n + 1))), (6, .int (Ar 3 (60 * s + p))), (5, .int (nI (60 * s + p))), (0, .ref (ad 39)), (1, .int (nI s)), (2, .int (ze_bi false)), (3, .int (-1))]) C d_M_many_83 (by decide) rfl ?_
          refine ze_iinc (j := 2) (v := nI (60 * s + p + 1)) (lv' := [(5, .int (nI (60 * s + p + 1))), (4, .int (nI (n + 1))), (6, .int (Ar 3 (60 * s + p))), (0, .ref (ad 39)), (1, .int (nI s)), (2, .int (ze_bi false)), (3, .int (-1))]) C d_M_many_85 rfl (nI_1 _) (by decide) rfl ?_
          refine ze_goto 9 C d_M_many_88 (by decide) ?_
          refine ze_sub [(5, .int (nI (60 * s + (p + 1)))), (4, .int (nI (n + 1))), (0, .ref (ad 39)), (1, .int (nI s)), (2, .int (ze_bi false)), (3, .int (-1))] [0, 1, 3, 4, 5, 6] rfl ?_
          exact ih (L.length - (p + 1)) (by omega) (p + 1) _ rfl (by omega) (by rw [ze_Hl_take hH (by omega), ze_fl_take, if_pos (ze_bi1 h56), List.length_append, ← g2]; rfl) (by omega)
  refine ze_iconst (v := nI 0) C d_M_many_0 (by decide) ?_
  refine ze_istore (lv' := [(4, .int (nI 0)), (0, .ref (ad 39)), (1, .int (nI s)), (2, .int (ze_bi false)), (3, .int (-1))]) C d_M_many_1 (by decide) rfl ?_
  refine ze_bipush (v := nI 60) C d_M_many_3 (by decide) ?_
  refine ze_iload_n C d_M_many_5 2 rfl rfl ?_
  refine ze_imulN C d_M_many_6 ?_
  refine ze_istore (lv' := [(5, .int (nI (60 * s))), (4, .int (nI 0)), (0, .ref (ad 39)), (1, .int (nI s)), (2, .int (ze_bi false)), (3, .int (-1))]) C d_M_many_7 (by decide) rfl ?_
  refine ze_sub [(5, .int (nI (60 * s + 0))), (4, .int (nI 0)), (0, .ref (ad 39)), (1, .int (nI s)), (2, .int (ze_bi false)), (3, .int (-1))] [0, 1, 2, 3, 4, 5] rfl ?_
  exact loop _ 0 0 rfl (Nat.zero_le _) rfl (Nat.le_refl _)

set_option maxRecDepth 100000 in
set_option maxHeartbeats 4000000 in
theorem c_M_many_Bp (l : Launch) (D : va_G) (ids : Nat → ClassId) (ad : Nat → Nat) (x : ze_XS) (M : Nat) (mv : Int64) (ty ma co le : Nat) (Ar : Nat → Nat → Int32) (hM : 3 ≤ M ∧ M ≤ 6) (L : List ze_Row) (s : Nat) (hs : s < 8) (hL : L.length ≤ 60) (hc : Ar 2 s = nI L.length) (hH : ze_Hl (Ar 3) (Ar 4) (60 * s) L) (pt : List Nat) (hle : le = pt.length) (hpt : pt.length ≤ 3) (hpd : ∀ d, d < pt.length → pt.getD d 0 < 10) (hph : ze_ph Ar pt) (pq : Nat) (hpq : pq < 10) : ze_MM l D ids ad x y_M_many ws_M_many 3 (M, mv, ty, ma, co, le, Ar) [.ref (ad 39), .int (nI s), .int (ze_bi false), .int (nI pq)] (fun w ms' => w = some (.int (nI (ze_pt M pt.length pq (fun r => r.1) (ze_fl M pt (fun r => r.1) (L))).length)) ∧ ms' = (M, mv, ty, ma, co, le, Ar)) := by
  refine ze_enter (cc := b_M_many) (maxL := 7) (ret := (some .int)) (by decide +kernel) rfl (Nat.le_of_ble_eq_true rfl) ?_
  rintro G rfl rfl rfl - C Rt
  refine ze_lv (lv' := [(0, .ref (ad 39)), (1, .int (nI s)), (2, .int (ze_bi false)), (3, .int (nI pq))]) rfl ?_
  have loop : ∀ (r : Nat) (p n : Nat), L.length - p = r → p ≤ L.length → n = (ze_pt M pt.length pq (fun r => r.1) (ze_fl M pt (fun r => r.1) (L.take p))).length → n ≤ p → ze_V G 48 ad (ze_E (ze_i G) ad x (M, mv, ty, ma, co, le, Ar)) 0 0 9 [(5, .int (nI (60 * s + p))), (4, .int (nI n)), (0, .ref (ad 39)), (1, .int (nI s)), (2, .int (ze_bi false)), (3, .int (nI pq))] [] := by
    intro r
    induction r using Nat.strongRecOn with
    | ind r ih =>
      intro p n hr g1 g2 g3
      refine ze_iload C d_M_many_9 0 rfl ?_
      refine ze_bipush (v := nI 60) C d_M_many_11 (by decide) ?_
      refine ze_iload_n C d_M_many_13 3 rfl rfl ?_
      refine ze_imulN C d_M_many_14 ?_
      refine ze_aload_n C d_M_many_15 2 rfl rfl ?_
      refine ze_getf (k := 39) C fl_M_16 (by decide) ze_E_m rfl d_M_many_16 ?_
      refine ze_iload_n C d_M_many_19 3 rfl rfl ?_
      refine ze_iald (k := 40 + 2) (i := s) C (by decide) (ze_E_a (j := 2)) (by show _ < 8; omega) (by decide) d_M_many_20 ?_
      rw [hc]
      refine ze_iaddN C d_M_many_21 ?_
      refine ze_icmp_geN 91 C d_M_many_22 (by decide) (by omega) (by omega) (fun h22 => ?_) (fun h22 => ?_)
      · refine ze_iload C d_M_many_91 1 rfl ?_
        exact ze_iret C Rt d_M_many_93 (⟨rfl, rfl, _, rfl, by rw [g2, show L.take p = L from List.take_of_length_le (by omega)], rfl⟩)
      · refine ze_iload_n C d_M_many_25 4 rfl rfl ?_
        refine ze_if_eq 39 C d_M_many_26 (by decide) (fun h26 => ?_) (fun h26 => absurd h26 (by decide))
        refine ze_aload_n C d_M_many_39 2 rfl rfl ?_
        refine ze_getf (k := 39) C fl_M_19 (by decide) ze_E_m rfl d_M_many_40 ?_
        refine ze_iload C d_M_many_43 0 rfl ?_
        refine ze_iald (k := 40 + 3) (i := 60 * s + p) C (by decide) (ze_E_a (j := 3)) (by show _ < 480; omega) (by decide) d_M_many_45 ?_
        refine ze_istore (lv' := [(6, .int (Ar 3 (60 * s + p))), (5, .int (nI (60 * s + p))), (4, .int (nI n)), (0, .ref (ad 39)), (1, .int (nI s)), (2, .int (ze_bi false)), (3, .int (nI pq))]) C d_M_many_46 (by decide) rfl ?_
        refine ze_iload C d_M_many_48 2 rfl ?_
        refine ze_aload_n C d_M_many_50 3 rfl rfl ?_
        refine ze_iload C d_M_many_51 0 rfl ?_
        refine ze_callV (st := [.int (nI n)]) C (c_M_here (ze_l G) (ze_D G) (ze_i G) ad x M mv ty ma co le Ar hM pt hle hpt hpd hph (Ar 3 (60 * s + p))) (kv_M_104 (ze_rml (by decide) (by decide))) (by decide) ze_E_m rfl (Nat.le_of_ble_eq_true rfl) ⟨Nat.le_of_ble_eq_true rfl, Nat.le_of_ble_eq_true rfl⟩ d_M_many_53 ?_
        rintro _ _ _ _ ⟨rfl, rfl, _, rfl, rfl, rfl⟩
        refine ze_norm (c2 := 0) (s2 := 0) (st' := [.int (ze_bi (ze_here M pt (Ar 3 (60 * s + p)))), .int (nI n)]) rfl rfl rfl ?_
        refine ze_if_eq 81 C d_M_many_56 (by decide) (fun h56 => ?_) (fun h56 => ?_)
        · refine ze_iconst (v := nI 0) C d_M_many_81 (by decide) ?_
          refine ze_iaddN C d_M_many_82 ?_
          refine ze_istore (lv' := [(4, .int (nI (n + 0))), (6, .int (Ar 3 (60 * s + p))), (5, .int (nI (60 * s + p))), (0, .ref (ad 39)), (1, .int (nI s)), (2, .int (ze_bi false)), (3, .int (nI pq))]) C d_M_many_83 (by decide) rfl ?_
          refine ze_iinc (j := 2) (v := nI (60 * s + p + 1)) (lv' := [(5, .int (nI (60 * s + p + 1))), (4, .int (nI (n + 0))), (6, .int (Ar 3 (60 * s + p))), (0, .ref (ad 39)), (1, .int (nI s)), (2, .int (ze_bi false)), (3, .int (nI pq))]) C d_M_many_85 rfl (nI_1 _) (by decide) rfl ?_
          refine ze_goto 9 C d_M_many_88 (by decide) ?_
          refine ze_sub [(5, .int (nI (60 * s + (p + 1)))), (4, .int (nI (n + 0))), (0, .ref (ad 39)), (1, .int (nI s)), (2, .int (ze_bi false)), (3, .int (nI pq))] [0, 1, 3, 4, 5, 6] rfl ?_
          exact ih (L.length - (p + 1)) (by omega) (p + 1) _ rfl (by omega) (by rw [ze_Hl_take hH (by omega), ze_fl_take, if_neg (by simp only; rw [ze_bi0.mp h56]; decide)]; exact g2) (by omega)
        · refine ze_iload_n C d_M_many_59 6 rfl rfl ?_
          refine ze_if_ltN 77 C d_M_many_60 (by decide) (by omega) (fun h60 => absurd h60 (by omega)) (fun h60 => ?_)
          refine ze_aload_n C d_M_many_63 3 rfl rfl ?_
          refine ze_iload C d_M_many_64 0 rfl ?_
          refine ze_aload_n C d_M_many_66 3 rfl rfl ?_
          refine ze_getf (k := 39) C fl_M_98 (by decide) ze_E_m rfl d_M_many_67 ?_
          refine ze_callV (st := [.int (nI n)]) C (c_M_digit (ze_l G) (ze_D G) (ze_i G) ad x M mv ty ma co le Ar hM (Ar 3 (60 * s + p)) le (by omega)) (kv_M_101 (ze_rml (by decide) (by decide))) (by decide) ze_E_m rfl (Nat.le_of_ble_eq_true rfl) ⟨Nat.le_of_ble_eq_true rfl, Nat.le_of_ble_eq_true rfl⟩ d_M_many_70 ?_
          rintro _ _ _ _ ⟨rfl, rfl, _, rfl, rfl, rfl⟩
          refine ze_norm (c2 := 0) (s2 := 0) (st' := [.int (nI (ze_dg M (Ar 3 (60 * s + p)) le)), .int (nI n)]) rfl rfl rfl ?_
          have hdg70 := ze_dg_lt M (Ar 3 (60 * s + p)) le hM
          refine ze_iload_n C d_M_many_73 6 rfl rfl ?_
          refine ze_icmp_neN 81 C d_M_many_74 (by decide) (by omega) (by omega) (fun h74 => ?_) (fun h74 => ?_)
          · refine ze_iconst (v := nI 0) C d_M_many_81 (by decide) ?_
            refine ze_iaddN C d_M_many_82 ?_
            refine ze_istore (lv' := [(4, .int (nI (n + 0))), (6, .int (Ar 3 (60 * s + p))), (5, .int (nI (60 * s + p))), (0, .ref (ad 39)), (1, .int (nI s)), (2, .int (ze_bi false)), (3, .int (nI pq))]) C d_M_many_83 (by decide) rfl ?_
            refine ze_iinc (j := 2) (v := nI (60 * s + p + 1)) (lv' := [(5, .int (nI (60 * s + p + 1))), (4, .int (nI (n + 0))), (6, .int (Ar 3 (60 * s + p))), (0, .ref (ad 39)), (1, .int (nI s)), (2, .int (ze_bi false)), (3, .int (nI pq))]) C d_M_many_85 rfl (nI_1 _) (by decide) rfl ?_
            refine ze_goto 9 C d_M_many_88 (by decide) ?_
            refine ze_sub [(5, .int (nI (60 * s + (p + 1)))), (4, .int (nI (n + 0))), (0, .ref (ad 39)), (1, .int (nI s)), (2, .int (ze_bi false)), (3, .int (nI pq))] [0, 1, 3, 4, 5, 6] rfl ?_
            rw [hle] at h74
            exact ih (L.length - (p + 1)) (by omega) (p + 1) _ rfl (by omega) (by rw [ze_Hl_take hH (by omega), ze_fl_take, if_pos (ze_bi1 h56), ze_pt_snoc, if_neg h74]; exact g2) (by omega)
          · refine ze_iconst (v := nI 1) C d_M_many_77 (by decide) ?_
            refine ze_goto 82 C d_M_many_78 (by decide) ?_
            refine ze_iaddN C d_M_many_82 ?_
            refine ze_istore (lv' := [(4, .int (nI (n + 1))), (6, .int (Ar 3 (60 * s + p))), (5, .int (nI (60 * s + p))), (0, .ref (ad 39)), (1, .int (nI s)), (2, .int (ze_bi false)), (3, .int (nI pq))]) C d_M_many_83 (by decide) rfl ?_
            refine ze_iinc (j := 2) (v := nI (60 * s + p + 1)) (lv' := [(5, .int (nI (60 * s + p + 1))), (4, .int (nI (n + 1))), (6, .int (Ar 3 (60 * s + p))), (0, .ref (ad 39)), (1, .int (nI s)), (2, .int (ze_bi false)), (3, .int (nI pq))]) C d_M_many_85 rfl (nI_1 _) (by decide) rfl ?_
            refine ze_goto 9 C d_M_many_88 (by decide) ?_
            refine ze_sub [(5, .int (nI (60 * s + (p + 1)))), (4, .int (nI (n + 1))), (0, .ref (ad 39)), (1, .int (nI s)), (2, .int (ze_bi false)), (3, .int (nI pq))] [0, 1, 3, 4, 5, 6] rfl ?_
            rw [hle] at h74
            exact ih (L.length - (p + 1)) (by omega) (p + 1) _ rfl (by omega) (by rw [ze_Hl_take hH (by omega), ze_fl_take, if_pos (ze_bi1 h56), ze_pt_snoc, if_pos h74, List.length_append, ← g2]; rfl) (by omega)
  refine ze_iconst (v := nI 0) C d_M_many_0 (by decide) ?_
  refine ze_istore (lv' := [(4, .int (nI 0)), (0, .ref (ad 39)), (1, .int (nI s)), (2, .int (ze_bi false)), (3, .int (nI pq))]) C d_M_many_1 (by decide) rfl ?_
  refine ze_bipush (v := nI 60) C d_M_many_3 (by decide) ?_
  refine ze_iload_n C d_M_many_5 2 rfl rfl ?_
  refine ze_imulN C d_M_many_6 ?_
  refine ze_istore (lv' := [(5, .int (nI (60 * s))), (4, .int (nI 0)), (0, .ref (ad 39)), (1, .int (nI s)), (2, .int (ze_bi false)), (3, .int (nI pq))]) C d_M_many_7 (by decide) rfl ?_
  refine ze_sub [(5, .int (nI (60 * s + 0))), (4, .int (nI 0)), (0, .ref (ad 39)), (1, .int (nI s)), (2, .int (ze_bi false)), (3, .int (nI pq))] [0, 1, 2, 3, 4, 5] rfl ?_
  exact loop _ 0 0 rfl (Nat.zero_le _) rfl (Nat.le_refl _)
