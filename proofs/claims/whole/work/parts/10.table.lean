def ze_cmp (x y : Int32) : Int32 := if x < y then -1 else if x = y then 0 else 1
set_option maxRecDepth 100000 in
set_option maxHeartbeats 4000000 in
theorem c_I_compare (l : Launch) (D : va_G) (ids : Nat → ClassId) (n : Nat) (ad : Nat → Nat) (E : Nat → va_E) (x y : Int32) : ze_M l D ids y_I_compare ws_I_compare (ze_rm 1) 0 0 n ad E [.int x, .int y] (ze_p0 n ad E (fun v => v = some (.int (ze_cmp x y)))) := by
  refine ze_enter (cc := b_I_compare) (maxL := 2) (ret := (some .int)) (by decide +kernel) rfl (Nat.le_of_ble_eq_true rfl) ?_
  rintro G rfl rfl rfl - C Rt
  refine ze_lv (lv' := [(0, .int x), (1, .int y)]) rfl ?_
  refine ze_iload_n C d_I_compare_0 0 rfl rfl ?_
  refine ze_iload_n C d_I_compare_1 1 rfl rfl ?_
  refine ze_icmp_ge 9 C d_I_compare_2 (by decide) (fun h2 => ?_) (fun h2 => ?_)
  · refine ze_iload_n C d_I_compare_9 0 rfl rfl ?_
    refine ze_iload_n C d_I_compare_10 1 rfl rfl ?_
    refine ze_icmp_ne 18 C d_I_compare_11 (by decide) (fun h11 => ?_) (fun h11 => ?_)
    · refine ze_iconst (v := nI 1) C d_I_compare_18 (by decide) ?_
      exact ze_iret C Rt d_I_compare_19 (⟨rfl, rfl, rfl, by simp only [ze_cmp]; first | rw [if_pos (by first | assumption | exact Int32.not_le.mp (by assumption))] | (rw [if_neg (by first | assumption | exact Int32.not_lt.mpr (by assumption)), if_pos (by first | assumption | (rename_i hh; exact Decidable.not_not.mp hh))]; rfl) | (rw [if_neg (by first | assumption | exact Int32.not_lt.mpr (by assumption)), if_neg (by assumption)]; rfl)⟩)
    · refine ze_iconst (v := nI 0) C d_I_compare_14 (by decide) ?_
      refine ze_goto 19 C d_I_compare_15 (by decide) ?_
      exact ze_iret C Rt d_I_compare_19 (⟨rfl, rfl, rfl, by simp only [ze_cmp]; first | rw [if_pos (by first | assumption | exact Int32.not_le.mp (by assumption))] | (rw [if_neg (by first | assumption | exact Int32.not_lt.mpr (by assumption)), if_pos (by first | assumption | (rename_i hh; exact Decidable.not_not.mp hh))]; rfl) | (rw [if_neg (by first | assumption | exact Int32.not_lt.mpr (by assumption)), if_neg (by assumption)]; rfl)⟩)
  · refine ze_iconst (v := -1) C d_I_compare_5 (by decide) ?_
    refine ze_goto 19 C d_I_compare_6 (by decide) ?_
    exact ze_iret C Rt d_I_compare_19 (⟨rfl, rfl, rfl, by simp only [ze_cmp]; first | rw [if_pos (by first | assumption | exact Int32.not_le.mp (by assumption))] | (rw [if_neg (by first | assumption | exact Int32.not_lt.mpr (by assumption)), if_pos (by first | assumption | (rename_i hh; exact Decidable.not_not.mp hh))]; rfl) | (rw [if_neg (by first | assumption | exact Int32.not_lt.mpr (by assumption)), if_neg (by assumption)]; rfl)⟩)

set_option maxRecDepth 100000 in
set_option maxHeartbeats 4000000 in
theorem c_J_max (l : Launch) (D : va_G) (ids : Nat → ClassId) (n : Nat) (ad : Nat → Nat) (E : Nat → va_E) (x y : Int32) : ze_M l D ids y_J_max ws_J_max (ze_rm 1) 0 0 n ad E [.int x, .int y] (ze_p0 n ad E (fun v => v = some (.int (if x < y then y else x)))) := by
  refine ze_enter (cc := b_J_max) (maxL := 2) (ret := (some .int)) (by decide +kernel) rfl (Nat.le_of_ble_eq_true rfl) ?_
  rintro G rfl rfl rfl - C Rt
  refine ze_lv (lv' := [(0, .int x), (1, .int y)]) rfl ?_
  refine ze_iload_n C d_J_max_0 0 rfl rfl ?_
  refine ze_iload_n C d_J_max_1 1 rfl rfl ?_
  refine ze_icmp_lt 9 C d_J_max_2 (by decide) (fun h2 => ?_) (fun h2 => ?_)
  · refine ze_iload_n C d_J_max_9 1 rfl rfl ?_
    exact ze_iret C Rt d_J_max_10 (⟨rfl, rfl, rfl, by first | rw [if_pos (by assumption)] | rw [if_neg (by assumption)]⟩)
  · refine ze_iload_n C d_J_max_5 0 rfl rfl ?_
    refine ze_goto 10 C d_J_max_6 (by decide) ?_
    exact ze_iret C Rt d_J_max_10 (⟨rfl, rfl, rfl, by first | rw [if_pos (by assumption)] | rw [if_neg (by assumption)]⟩)

set_option maxRecDepth 100000 in
set_option maxHeartbeats 4000000 in
theorem c_J_min (l : Launch) (D : va_G) (ids : Nat → ClassId) (n : Nat) (ad : Nat → Nat) (E : Nat → va_E) (x y : Int32) : ze_M l D ids y_J_min ws_J_min (ze_rm 1) 0 0 n ad E [.int x, .int y] (ze_p0 n ad E (fun v => v = some (.int (if y < x then y else x)))) := by
  refine ze_enter (cc := b_J_min) (maxL := 2) (ret := (some .int)) (by decide +kernel) rfl (Nat.le_of_ble_eq_true rfl) ?_
  rintro G rfl rfl rfl - C Rt
  refine ze_lv (lv' := [(0, .int x), (1, .int y)]) rfl ?_
  refine ze_iload_n C d_J_min_0 0 rfl rfl ?_
  refine ze_iload_n C d_J_min_1 1 rfl rfl ?_
  refine ze_icmp_gt 9 C d_J_min_2 (by decide) (fun h2 => ?_) (fun h2 => ?_)
  · refine ze_iload_n C d_J_min_9 1 rfl rfl ?_
    exact ze_iret C Rt d_J_min_10 (⟨rfl, rfl, rfl, by first | rw [if_pos (by assumption)] | rw [if_neg (by assumption)]⟩)
  · refine ze_iload_n C d_J_min_5 0 rfl rfl ?_
    refine ze_goto 10 C d_J_min_6 (by decide) ?_
    exact ze_iret C Rt d_J_min_10 (⟨rfl, rfl, rfl, by first | rw [if_pos (by assumption)] | rw [if_neg (by assumption)]⟩)

set_option maxRecDepth 100000 in
set_option maxHeartbeats 4000000 in
theorem c_T_clear (l : Launch) (D : va_G) (ids : Nat → ClassId) (ad : Nat → Nat) (ms : ze_MS) (M : Nat) (T : Nat → ze_T) (hd : Nat → Bool) (mv : Int64) (i : Nat) (hi : i < 12) (f g : Nat → Int32) (c : Nat) (o : Bool)  : ze_MX l D ids ad ms y_T_clear ws_T_clear 1 (M, va_up T i (f, g, c, o), hd, mv) [.ref (ad (3 + 3 * i))] (fun v x' => v = none ∧ x' = (M, va_up T i (f, g, 0, false), hd, mv)) := by
  refine ze_enter (cc := b_T_clear) (maxL := 1) (ret := none) (by decide +kernel) rfl (Nat.le_of_ble_eq_true rfl) ?_
  rintro G rfl rfl rfl - C Rt
  refine ze_lv (lv' := [(0, .ref (ad (3 + 3 * i)))]) rfl ?_
  refine ze_aload_n C d_T_clear_0 0 rfl rfl ?_
  refine ze_iconst (v := nI 0) C d_T_clear_1 (by decide) ?_
  refine ze_putf (k := 3 + 3 * i) C fp_T_18 (by omega) (ze_F_t (i := i) hi) rfl rfl (Nat.le_of_ble_eq_true rfl) d_T_clear_2 ?_
  refine ze_eqE (ze_W_t (i := i) (c' := 0) (o' := o) hi) ?_
  refine ze_aload_n C d_T_clear_5 0 rfl rfl ?_
  refine ze_iconst (v := ze_bi false) C d_T_clear_6 (by decide) ?_
  refine ze_putf (k := 3 + 3 * i) C fp_T_22 (by omega) (ze_F_t (i := i) hi) rfl rfl (Nat.le_of_ble_eq_true rfl) d_T_clear_7 ?_
  refine ze_eqE (ze_W_t (i := i) (c' := 0) (o' := false) hi) ?_
  exact ze_vret C Rt d_T_clear_10 (⟨rfl, rfl, _, rfl, rfl, rfl⟩)

set_option maxRecDepth 100000 in
set_option maxHeartbeats 4000000 in
theorem c_T_append (l : Launch) (D : va_G) (ids : Nat → ClassId) (ad : Nat → Nat) (ms : ze_MS) (M : Nat) (T : Nat → ze_T) (hd : Nat → Bool) (mv : Int64) (i : Nat) (hi : i < 12) (f g : Nat → Int32) (c : Nat) (o : Bool) (hc : c ≤ 60) (key value : Int32) : ze_MX l D ids ad ms y_T_append ws_T_append 1 (M, va_up T i (f, g, c, o), hd, mv) [.ref (ad (3 + 3 * i)), .int key, .int value] (fun v x' => v = none ∧ x' = (M, va_up T i (if c < 60 then (upd f c key, upd g c value, c + 1, o) else (f, g, c, true)), hd, mv)) := by
  refine ze_enter (cc := b_T_append) (maxL := 3) (ret := none) (by decide +kernel) rfl (Nat.le_of_ble_eq_true rfl) ?_
  rintro G rfl rfl rfl - C Rt
  refine ze_lv (lv' := [(0, .ref (ad (3 + 3 * i))), (1, .int key), (2, .int value)]) rfl ?_
  refine ze_aload_n C d_T_append_0 0 rfl rfl ?_
  refine ze_getf (k := 3 + 3 * i) C fl_T_18 (by omega) (ze_F_t (i := i) hi) rfl d_T_append_1 ?_
  refine ze_bipush (v := nI 60) C d_T_append_4 (by decide) ?_
  refine ze_icmp_ltN 15 C d_T_append_6 (by decide) (by omega) (by omega) (fun h6 => ?_) (fun h6 => ?_)
  · refine ze_aload_n C d_T_append_15 0 rfl rfl ?_
    refine ze_getf (k := 3 + 3 * i) C fl_T_9 (by omega) (ze_F_t (i := i) hi) rfl d_T_append_16 ?_
    refine ze_aload_n C d_T_append_19 0 rfl rfl ?_
    refine ze_getf (k := 3 + 3 * i) C fl_T_18 (by omega) (ze_F_t (i := i) hi) rfl d_T_append_20 ?_
    refine ze_iload_n C d_T_append_23 1 rfl rfl ?_
    refine ze_iast (k := 4 + 3 * i) (i := c) C (by omega) (ze_F_k (i := i) hi) (by omega) (by decide) d_T_append_24 ?_
    refine ze_eqE (ze_W_k (i := i) hi) ?_
    refine ze_aload_n C d_T_append_25 0 rfl rfl ?_
    refine ze_getf (k := 3 + 3 * i) C fl_T_15 (by omega) (ze_F_t (i := i) hi) rfl d_T_append_26 ?_
    refine ze_aload_n C d_T_append_29 0 rfl rfl ?_
    refine ze_getf (k := 3 + 3 * i) C fl_T_18 (by omega) (ze_F_t (i := i) hi) rfl d_T_append_30 ?_
    refine ze_iload_n C d_T_append_33 2 rfl rfl ?_
    refine ze_iast (k := 5 + 3 * i) (i := c) C (by omega) (ze_F_v (i := i) hi) (by omega) (by decide) d_T_append_34 ?_
    refine ze_eqE (ze_W_v (i := i) hi) ?_
    refine ze_aload_n C d_T_append_35 0 rfl rfl ?_
    refine ze_dup C d_T_append_36 rfl ?_
    refine ze_getf (k := 3 + 3 * i) C fl_T_18 (by omega) (ze_F_t (i := i) hi) rfl d_T_append_37 ?_
    refine ze_iconst (v := nI 1) C d_T_append_40 (by decide) ?_
    refine ze_iaddN C d_T_append_41 ?_
    refine ze_putf (k := 3 + 3 * i) C fp_T_18 (by omega) (ze_F_t (i := i) hi) rfl rfl (Nat.le_of_ble_eq_true rfl) d_T_append_42 ?_
    refine ze_eqE (ze_W_t (i := i) (c' := c + 1) (o' := o) hi) ?_
    exact ze_vret C Rt d_T_append_45 (⟨rfl, rfl, _, rfl, rfl, by rw [if_pos (by omega)]⟩)
  · refine ze_aload_n C d_T_append_9 0 rfl rfl ?_
    refine ze_iconst (v := ze_bi true) C d_T_append_10 (by decide) ?_
    refine ze_putf (k := 3 + 3 * i) C fp_T_22 (by omega) (ze_F_t (i := i) hi) rfl rfl (Nat.le_of_ble_eq_true rfl) d_T_append_11 ?_
    refine ze_eqE (ze_W_t (i := i) (c' := c) (o' := true) hi) ?_
    exact ze_vret C Rt d_T_append_14 (⟨rfl, rfl, _, rfl, rfl, by rw [if_neg (by omega)]⟩)

set_option maxRecDepth 100000 in
set_option maxHeartbeats 4000000 in
theorem c_T_placeOfKey (l : Launch) (D : va_G) (ids : Nat → ClassId) (ad : Nat → Nat) (ms : ze_MS) (M : Nat) (T : Nat → ze_T) (hd : Nat → Bool) (mv : Int64) (i : Nat) (hi : i < 12) (f g : Nat → Int32) (c : Nat) (o : Bool) (hc : c ≤ 60) (key : Int32) (start : Nat) (hs : start ≤ 60) : ze_MX l D ids ad ms y_T_placeOfKey ws_T_placeOfKey 1 (M, va_up T i (f, g, c, o), hd, mv) [.ref (ad (3 + 3 * i)), .int key, .int (nI start)] (fun v x' => ∃ p, v = some (.int (nI p)) ∧ x' = (M, va_up T i (f, g, c, o), hd, mv) ∧ start ≤ p ∧ (p ≤ c ∨ p = start) ∧ (∀ q, start ≤ q → q < p → f q ≠ key) ∧ (p < c → f p = key)) := by
  refine ze_enter (cc := b_T_placeOfKey) (maxL := 4) (ret := (some .int)) (by decide +kernel) rfl (Nat.le_of_ble_eq_true rfl) ?_
  rintro G rfl rfl rfl - C Rt
  refine ze_lv (lv' := [(0, .ref (ad (3 + 3 * i))), (1, .int key), (2, .int (nI start))]) rfl ?_
  have loop : ∀ (r p : Nat), c - p = r → start ≤ p → (p ≤ c ∨ p = start) → (∀ q, start ≤ q → q < p → f q ≠ key) → ze_V G 48 ad (ze_E (ze_i G) ad (M, va_up T i (f, g, c, o), hd, mv) ms) 0 0 2 [(3, .int (nI p)), (0, .ref (ad (3 + 3 * i))), (1, .int key), (2, .int (nI start))] [] := by
    intro r
    induction r using Nat.strongRecOn with
    | ind r ih =>
      intro p hr h1 h2 h3
      refine ze_iload_n C d_T_placeOfKey_2 0 rfl rfl ?_
      refine ze_aload_n C d_T_placeOfKey_3 1 rfl rfl ?_
      refine ze_getf (k := 3 + 3 * i) C fl_T_18 (by omega) (ze_F_t (i := i) hi) rfl d_T_placeOfKey_4 ?_
      refine ze_icmp_geN 26 C d_T_placeOfKey_7 (by decide) (by omega) (by omega) (fun h7 => ?_) (fun h7 => ?_)
      · refine ze_iload_n C d_T_placeOfKey_26 0 rfl rfl ?_
        exact ze_iret C Rt d_T_placeOfKey_27 (⟨rfl, rfl, _, rfl, p, rfl, rfl, h1, h2, h3, fun hp => absurd hp (by omega)⟩)
      · refine ze_aload_n C d_T_placeOfKey_10 1 rfl rfl ?_
        refine ze_getf (k := 3 + 3 * i) C fl_T_9 (by omega) (ze_F_t (i := i) hi) rfl d_T_placeOfKey_11 ?_
        refine ze_iload_n C d_T_placeOfKey_14 0 rfl rfl ?_
        refine ze_iald (k := 4 + 3 * i) (i := p) C (by omega) (ze_F_k (i := i) hi) (by omega) (by decide) d_T_placeOfKey_15 ?_
        refine ze_iload_n C d_T_placeOfKey_16 2 rfl rfl ?_
        refine ze_icmp_eq 26 C d_T_placeOfKey_17 (by decide) (fun h17 => ?_) (fun h17 => ?_)
        · refine ze_iload_n C d_T_placeOfKey_26 0 rfl rfl ?_
          exact ze_iret C Rt d_T_placeOfKey_27 (⟨rfl, rfl, _, rfl, p, rfl, rfl, h1, h2, h3, fun _ => h17⟩)
        · refine ze_iinc (j := 0) (v := nI (p + 1)) (lv' := [(3, .int (nI (p + 1))), (0, .ref (ad (3 + 3 * i))), (1, .int key), (2, .int (nI start))]) C d_T_placeOfKey_20 rfl (nI_1 _) (by decide) rfl ?_
          refine ze_goto 2 C d_T_placeOfKey_23 (by decide) ?_
          refine ze_sub [(3, .int (nI (p + 1))), (0, .ref (ad (3 + 3 * i))), (1, .int key), (2, .int (nI start))] [0, 1, 2, 3] rfl ?_
          refine ih (c - (p + 1)) (by omega) (p + 1) rfl (by omega) (by omega) (fun q q1 q2 => ?_)
          by_cases hq : q = p
          · subst hq; exact h17
          · exact h3 q q1 (by omega)
  refine ze_iload_n C d_T_placeOfKey_0 2 rfl rfl ?_
  refine ze_istore_n (lv' := [(3, .int (nI start)), (0, .ref (ad (3 + 3 * i))), (1, .int key), (2, .int (nI start))]) C d_T_placeOfKey_1 rfl (by decide) rfl ?_
  exact loop _ start rfl (Nat.le_refl _) (Or.inr rfl) (fun q q1 q2 => absurd q2 (by omega))

set_option maxRecDepth 100000 in
set_option maxHeartbeats 4000000 in
theorem c_T_repeatsFrom (l : Launch) (D : va_G) (ids : Nat → ClassId) (ad : Nat → Nat) (ms : ze_MS) (M : Nat) (T : Nat → ze_T) (hd : Nat → Bool) (mv : Int64) (i : Nat) (hi : i < 12) (f g : Nat → Int32) (c : Nat) (o : Bool) (L : List ze_Row) (hH : ze_H (f, g, c, o) L) (hc : c ≤ 60) (start : Nat) (hs : start ≤ c) (key value : Int32) : ze_MX l D ids ad ms y_T_repeatsFrom ws_T_repeatsFrom 1 (M, va_up T i (f, g, c, o), hd, mv) [.ref (ad (3 + 3 * i)), .int (nI start), .int key, .int value] (fun v x' => v = some (.int (nI (ze_rep (key, value) (L.drop start)))) ∧ x' = (M, va_up T i (f, g, c, o), hd, mv)) := by
  refine ze_enter (cc := b_T_repeatsFrom) (maxL := 5) (ret := (some .int)) (by decide +kernel) rfl (Nat.le_of_ble_eq_true rfl) ?_
  rintro G rfl rfl rfl - C Rt
  refine ze_lv (lv' := [(0, .ref (ad (3 + 3 * i))), (1, .int (nI start)), (2, .int key), (3, .int value)]) rfl ?_
  have loop : ∀ (r p : Nat), c - p = r → start ≤ p → p ≤ c → ze_rep (key, value) (L.drop start) = (p - start) + ze_rep (key, value) (L.drop p) → ze_V G 48 ad (ze_E (ze_i G) ad (M, va_up T i (f, g, c, o), hd, mv) ms) 0 0 3 [(4, .int (nI p)), (0, .ref (ad (3 + 3 * i))), (1, .int (nI start)), (2, .int key), (3, .int value)] [] := by
    intro r
    induction r using Nat.strongRecOn with
    | ind r ih =>
      intro p hr h1 h2 h3
      have hrow : p < c → L[p]? = some (f p, g p) := fun hp => ze_H_row hH (by have := hH.1; simp only at this; omega)
      have hdrop : p < c → L.drop p = (f p, g p) :: L.drop (p + 1) := fun hp => by
        obtain ⟨hl, he⟩ := List.getElem?_eq_some_iff.mp (hrow hp)
        rw [List.drop_eq_getElem_cons hl, he]
      refine ze_iload C d_T_repeatsFrom_3 0 rfl ?_
      refine ze_aload_n C d_T_repeatsFrom_5 1 rfl rfl ?_
      refine ze_getf (k := 3 + 3 * i) C fl_T_18 (by omega) (ze_F_t (i := i) hi) rfl d_T_repeatsFrom_6 ?_
      refine ze_icmp_geN 40 C d_T_repeatsFrom_9 (by decide) (by omega) (by omega) (fun h9 => ?_) (fun h9 => ?_)
      · refine ze_iload C d_T_repeatsFrom_40 0 rfl ?_
        refine ze_iload_n C d_T_repeatsFrom_42 2 rfl rfl ?_
        refine ze_isubN C d_T_repeatsFrom_43 (by omega) ?_
        exact ze_iret C Rt d_T_repeatsFrom_44 (⟨rfl, rfl, _, rfl, by rw [h3, List.drop_eq_nil_of_le (by have := hH.1; simp only at this; omega)]; simp only [ze_rep]; rw [Nat.add_zero], rfl⟩)
      · refine ze_aload_n C d_T_repeatsFrom_12 1 rfl rfl ?_
        refine ze_getf (k := 3 + 3 * i) C fl_T_9 (by omega) (ze_F_t (i := i) hi) rfl d_T_repeatsFrom_13 ?_
        refine ze_iload C d_T_repeatsFrom_16 0 rfl ?_
        refine ze_iald (k := 4 + 3 * i) (i := p) C (by omega) (ze_F_k (i := i) hi) (by omega) (by decide) d_T_repeatsFrom_18 ?_
        refine ze_iload_n C d_T_repeatsFrom_19 3 rfl rfl ?_
        refine ze_icmp_ne 40 C d_T_repeatsFrom_20 (by decide) (fun h20 => ?_) (fun h20 => ?_)
        · refine ze_iload C d_T_repeatsFrom_40 0 rfl ?_
          refine ze_iload_n C d_T_repeatsFrom_42 2 rfl rfl ?_
          refine ze_isubN C d_T_repeatsFrom_43 (by omega) ?_
          exact ze_iret C Rt d_T_repeatsFrom_44 (⟨rfl, rfl, _, rfl, by rw [h3, hdrop (by omega)]; simp only [ze_rep, Prod.mk.injEq, h20, false_and, if_false]; rw [Nat.add_zero], rfl⟩)
        · refine ze_aload_n C d_T_repeatsFrom_23 1 rfl rfl ?_
          refine ze_getf (k := 3 + 3 * i) C fl_T_15 (by omega) (ze_F_t (i := i) hi) rfl d_T_repeatsFrom_24 ?_
          refine ze_iload C d_T_repeatsFrom_27 0 rfl ?_
          refine ze_iald (k := 5 + 3 * i) (i := p) C (by omega) (ze_F_v (i := i) hi) (by omega) (by decide) d_T_repeatsFrom_29 ?_
          refine ze_iload_n C d_T_repeatsFrom_30 4 rfl rfl ?_
          refine ze_icmp_ne 40 C d_T_repeatsFrom_31 (by decide) (fun h31 => ?_) (fun h31 => ?_)
          · refine ze_iload C d_T_repeatsFrom_40 0 rfl ?_
            refine ze_iload_n C d_T_repeatsFrom_42 2 rfl rfl ?_
            refine ze_isubN C d_T_repeatsFrom_43 (by omega) ?_
            exact ze_iret C Rt d_T_repeatsFrom_44 (⟨rfl, rfl, _, rfl, by rw [h3, hdrop (by omega)]; simp only [ze_rep, Prod.mk.injEq, h31, and_false, if_false]; rw [Nat.add_zero], rfl⟩)
          · refine ze_iinc (j := 0) (v := nI (p + 1)) (lv' := [(4, .int (nI (p + 1))), (0, .ref (ad (3 + 3 * i))), (1, .int (nI start)), (2, .int key), (3, .int value)]) C d_T_repeatsFrom_34 rfl (nI_1 _) (by decide) rfl ?_
            refine ze_goto 3 C d_T_repeatsFrom_37 (by decide) ?_
            refine ze_sub [(4, .int (nI (p + 1))), (0, .ref (ad (3 + 3 * i))), (1, .int (nI start)), (2, .int key), (3, .int value)] [0, 1, 2, 3, 4] rfl ?_
            refine ih (c - (p + 1)) (by omega) (p + 1) rfl (by omega) (by omega) ?_
            rw [h3, hdrop h9]
            simp only [ze_rep, h20, h31, if_true]
            omega
  refine ze_iload_n C d_T_repeatsFrom_0 1 rfl rfl ?_
  refine ze_istore (lv' := [(4, .int (nI start)), (0, .ref (ad (3 + 3 * i))), (1, .int (nI start)), (2, .int key), (3, .int value)]) C d_T_repeatsFrom_1 (by decide) rfl ?_
  exact loop _ start rfl (Nat.le_refl _) hs (by omega)

theorem ze_cmp_lt {x y : Int32} : ze_cmp x y < 0 ↔ x.toInt < y.toInt := by
  unfold ze_cmp
  split
  · rename_i h; rw [Int32.lt_iff_toInt_lt] at h; simp [h]
  · rename_i h; rw [Int32.lt_iff_toInt_lt] at h
    split <;> simp [h]
theorem ze_cmp_eq {x y : Int32} : ze_cmp x y = 0 ↔ x.toInt = y.toInt := by
  unfold ze_cmp
  split
  · rename_i h; rw [Int32.lt_iff_toInt_lt] at h
    simp; omega
  · split
    · rename_i h; simp [h]
    · rename_i h; rw [← Int32.toInt_inj] at h; simp [h]
theorem ze_cmp_le {x y : Int32} : ze_cmp x y ≤ 0 ↔ ¬ y.toInt < x.toInt := by
  have h1 := ze_cmp_lt (x := x) (y := y)
  have h2 := ze_cmp_eq (x := x) (y := y)
  rw [Int32.le_iff_toInt_le]
  rw [Int32.lt_iff_toInt_lt] at h1
  rw [← Int32.toInt_inj] at h2
  simp only [show (0 : Int32).toInt = 0 from rfl] at h1 h2 ⊢
  omega
theorem ze_lt_iff' (o : Nat) (a b : ze_Row) : (ze_lt o a b = true) = ((o = 0 ∧ a.1.toInt < b.1.toInt) ∨ (o = 1 ∧ a.2.toInt < b.2.toInt) ∨ (o ≠ 0 ∧ o ≠ 1 ∧ (a.1.toInt < b.1.toInt ∨ (a.1.toInt = b.1.toInt ∧ a.2.toInt < b.2.toInt)))) := propext (ze_lt_iff o a b)

set_option maxRecDepth 100000 in
set_option maxHeartbeats 4000000 in
theorem c_X_compareRows (l : Launch) (D : va_G) (ids : Nat → ClassId) (n : Nat) (ad : Nat → Nat) (E : Nat → va_E) (o : Nat) (ho : o ≤ 2) (k v k2 v2 : Int32) : ze_M l D ids y_X_compareRows ws_X_compareRows (ze_rm 2) 0 0 n ad E [.int (nI o), .int k, .int v, .int k2, .int v2] (ze_p0 n ad E (fun w => ∃ r, w = some (.int r) ∧ (r < 0 ↔ ze_lt o (k, v) (k2, v2) = true) ∧ (r ≤ 0 ↔ ze_lt o (k2, v2) (k, v) = false))) := by
  refine ze_enter (cc := b_X_compareRows) (maxL := 6) (ret := (some .int)) (by decide +kernel) rfl (Nat.le_of_ble_eq_true rfl) ?_
  rintro G rfl rfl rfl - C Rt
  refine ze_lv (lv' := [(0, .int (nI o)), (1, .int k), (2, .int v), (3, .int k2), (4, .int v2)]) rfl ?_
  refine ze_iload_n C d_X_compareRows_0 0 rfl rfl ?_
  refine ze_iconst (v := nI 1) C d_X_compareRows_1 (by decide) ?_
  refine ze_icmp_neN 12 C d_X_compareRows_2 (by decide) (by omega) (by omega) (fun h2 => ?_) (fun h2 => ?_)
  · refine ze_iload_n C d_X_compareRows_12 1 rfl rfl ?_
    refine ze_iload_n C d_X_compareRows_13 3 rfl rfl ?_
    refine ze_callS (st := []) C (c_I_compare (ze_l G) (ze_D G) (ze_i G) n ad E k k2) (ks_X_174 (ze_rml (by decide) (by decide))) rfl (Nat.le_of_ble_eq_true rfl) ⟨Nat.le_of_ble_eq_true rfl, Nat.le_of_ble_eq_true rfl⟩ d_X_compareRows_14 ?_
    rintro _ _ _ _ ⟨rfl, rfl, rfl, rfl⟩
    refine ze_norm (c2 := 0) (s2 := 0) (st' := [.int (ze_cmp k k2)]) rfl rfl rfl ?_
    refine ze_istore (lv' := [(5, .int (ze_cmp k k2)), (0, .int (nI o)), (1, .int k), (2, .int v), (3, .int k2), (4, .int v2)]) C d_X_compareRows_17 (by decide) rfl ?_
    refine ze_iload_n C d_X_compareRows_19 1 rfl rfl ?_
    refine ze_if_eqN 28 C d_X_compareRows_20 (by decide) (by omega) (fun h20 => ?_) (fun h20 => ?_)
    · refine ze_iload C d_X_compareRows_28 0 rfl ?_
      exact ze_iret C Rt d_X_compareRows_30 (⟨rfl, rfl, rfl, _, rfl, by rw [ze_cmp_lt, ze_lt_iff]; simp only; omega, by rw [ze_cmp_le, ← Bool.not_eq_true, ze_lt_iff]; simp only; omega⟩)
    · refine ze_iload C d_X_compareRows_23 0 rfl ?_
      refine ze_if_eq 31 C d_X_compareRows_25 (by decide) (fun h25 => ?_) (fun h25 => ?_)
      · rw [ze_cmp_eq] at h25
        refine ze_iload_n C d_X_compareRows_31 3 rfl rfl ?_
        refine ze_iload C d_X_compareRows_32 5 rfl ?_
        refine ze_callS (st := []) C (c_I_compare (ze_l G) (ze_D G) (ze_i G) n ad E v v2) (ks_X_174 (ze_rml (by decide) (by decide))) rfl (Nat.le_of_ble_eq_true rfl) ⟨Nat.le_of_ble_eq_true rfl, Nat.le_of_ble_eq_true rfl⟩ d_X_compareRows_34 ?_
        rintro _ _ _ _ ⟨rfl, rfl, rfl, rfl⟩
        refine ze_norm (c2 := 0) (s2 := 0) (st' := [.int (ze_cmp v v2)]) rfl rfl rfl ?_
        exact ze_iret C Rt d_X_compareRows_37 (⟨rfl, rfl, rfl, _, rfl, by rw [ze_cmp_lt, ze_lt_iff]; simp only; omega, by rw [ze_cmp_le, ← Bool.not_eq_true, ze_lt_iff]; simp only; omega⟩)
      · rw [ze_cmp_eq] at h25
        refine ze_iload C d_X_compareRows_28 0 rfl ?_
        exact ze_iret C Rt d_X_compareRows_30 (⟨rfl, rfl, rfl, _, rfl, by rw [ze_cmp_lt, ze_lt_iff]; simp only; omega, by rw [ze_cmp_le, ← Bool.not_eq_true, ze_lt_iff]; simp only; omega⟩)
  · refine ze_iload_n C d_X_compareRows_5 2 rfl rfl ?_
    refine ze_iload C d_X_compareRows_6 4 rfl ?_
    refine ze_callS (st := []) C (c_I_compare (ze_l G) (ze_D G) (ze_i G) n ad E v v2) (ks_X_174 (ze_rml (by decide) (by decide))) rfl (Nat.le_of_ble_eq_true rfl) ⟨Nat.le_of_ble_eq_true rfl, Nat.le_of_ble_eq_true rfl⟩ d_X_compareRows_8 ?_
    rintro _ _ _ _ ⟨rfl, rfl, rfl, rfl⟩
    refine ze_norm (c2 := 0) (s2 := 0) (st' := [.int (ze_cmp v v2)]) rfl rfl rfl ?_
    exact ze_iret C Rt d_X_compareRows_11 (⟨rfl, rfl, rfl, _, rfl, by rw [ze_cmp_lt, ze_lt_iff]; simp only; omega, by rw [ze_cmp_le, ← Bool.not_eq_true, ze_lt_iff]; simp only; omega⟩)
