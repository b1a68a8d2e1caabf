set_option maxRecDepth 100000 in
set_option maxHeartbeats 4000000 in
theorem c_M_size (l : Launch) (D : va_G) (ids : Nat → ClassId) (n : Nat) (ad : Nat → Nat) (E : Nat → va_E) (a : Nat) (ha : a < 100000) : ze_M l D ids y_M_size ws_M_size (ze_rm 1) 0 0 n ad E [.int (nI a)] (ze_p0 n ad E (fun v => v = some (.int (nI (ze_sz a))))) := by
  refine ze_enter (cc := b_M_size) (maxL := 1) (ret := (some .int)) (by decide +kernel) rfl (Nat.le_of_ble_eq_true rfl) ?_
  rintro G rfl rfl rfl - C Rt
  refine ze_lv (lv' := [(0, .int (nI a))]) rfl ?_
  refine ze_iload_n C d_M_size_0 0 rfl rfl ?_
  refine ze_iconst (v := nI 3) C d_M_size_1 (by decide) ?_
  refine ze_iaddN C d_M_size_2 ?_
  refine ze_iconst (v := nI 4) C d_M_size_3 (by decide) ?_
  refine ze_idivN C d_M_size_4 (by omega) (by omega) (by omega) ?_
  exact ze_iret C Rt d_M_size_5 (⟨rfl, rfl, rfl, rfl⟩)

set_option maxRecDepth 100000 in
set_option maxHeartbeats 4000000 in
theorem c_M_slot (l : Launch) (D : va_G) (ids : Nat → ClassId) (n : Nat) (ad : Nat → Nat) (E : Nat → va_E) (s : Int32) : ze_M l D ids y_M_slot ws_M_slot (ze_rm 1) 0 0 n ad E [.int s] (ze_p0 n ad E (fun v => v = some (.int (ze_bi (ze_isS s))))) := by
  refine ze_enter (cc := b_M_slot) (maxL := 1) (ret := (some .boolean)) (by decide +kernel) rfl (Nat.le_of_ble_eq_true rfl) ?_
  rintro G rfl rfl rfl - C Rt
  refine ze_lv (lv' := [(0, .int s)]) rfl ?_
  refine ze_iload_n C d_M_slot_0 0 rfl rfl ?_
  refine ze_if_lt 14 C d_M_slot_1 (by decide) (fun h1 => ?_) (fun h1 => ?_)
  · refine ze_iconst (v := nI 0) C d_M_slot_14 (by decide) ?_
    exact ze_zret C Rt (by decide) d_M_slot_15 (⟨rfl, rfl, rfl, by rw [ze_isS_f1 h1]; rfl⟩)
  · refine ze_iload_n C d_M_slot_4 0 rfl rfl ?_
    refine ze_bipush (v := nI 8) C d_M_slot_5 (by decide) ?_
    refine ze_icmp_ge 14 C d_M_slot_7 (by decide) (fun h7 => ?_) (fun h7 => ?_)
    · refine ze_iconst (v := nI 0) C d_M_slot_14 (by decide) ?_
      exact ze_zret C Rt (by decide) d_M_slot_15 (⟨rfl, rfl, rfl, by rw [ze_isS_f2 h7]; rfl⟩)
    · refine ze_iconst (v := nI 1) C d_M_slot_10 (by decide) ?_
      refine ze_goto 15 C d_M_slot_11 (by decide) ?_
      exact ze_zret C Rt (by decide) d_M_slot_15 (⟨rfl, rfl, rfl, by rw [ze_isS_t h1 h7]; rfl⟩)

def ze_cp (k v l w : Int32) : Int32 := if k ≠ l then (if k < l then -1 else 1) else if v ≠ w then (if v < w then -1 else 1) else 0
theorem ze_cp_lt {k v l w : Int32} : ze_cp k v l w < 0 ↔ ze_lt 2 (k, v) (l, w) = true := by
  rw [ze_lt_iff]
  unfold ze_cp
  by_cases h1 : k = l
  · subst h1
    rw [if_neg (by simp)]
    by_cases h2 : v = w
    · subst h2; simp
    · rw [if_pos h2]
      by_cases h3 : v < w
      · rw [if_pos h3]; rw [Int32.lt_iff_toInt_lt] at h3; simp [h3]
      · rw [if_neg h3]; rw [Int32.lt_iff_toInt_lt] at h3; simp [h3]
  · rw [if_pos h1]
    have h4 : ¬ k.toInt = l.toInt := fun z => h1 (Int32.toInt_inj.mp z)
    by_cases h3 : k < l
    · rw [if_pos h3]; rw [Int32.lt_iff_toInt_lt] at h3; simp [h3]
    · rw [if_neg h3]; rw [Int32.lt_iff_toInt_lt] at h3; simp [h3, h4]
theorem ze_cp_eq {k v l w : Int32} : ze_cp k v l w = 0 ↔ k = l ∧ v = w := by
  unfold ze_cp
  by_cases h1 : k = l
  · subst h1
    rw [if_neg (by simp)]
    by_cases h2 : v = w
    · subst h2; simp
    · rw [if_pos h2]
      by_cases h3 : v < w
      · rw [if_pos h3]; simp [h2]
      · rw [if_neg h3]; simp [h2]
  · rw [if_pos h1]
    by_cases h3 : k < l
    · rw [if_pos h3]; simp [h1]
    · rw [if_neg h3]; simp [h1]

set_option maxRecDepth 100000 in
set_option maxHeartbeats 4000000 in
theorem c_M_compare (ll : Launch) (D : va_G) (ids : Nat → ClassId) (n : Nat) (ad : Nat → Nat) (E : Nat → va_E) (k v l w : Int32) : ze_M ll D ids y_M_compare ws_M_compare (ze_rm 1) 0 0 n ad E [.int k, .int v, .int l, .int w] (ze_p0 n ad E (fun w9 => w9 = some (.int (ze_cp k v l w)))) := by
  refine ze_enter (cc := b_M_compare) (maxL := 4) (ret := (some .int)) (by decide +kernel) rfl (Nat.le_of_ble_eq_true rfl) ?_
  rintro G rfl rfl rfl - C Rt
  refine ze_lv (lv' := [(0, .int k), (1, .int v), (2, .int l), (3, .int w)]) rfl ?_
  refine ze_iload_n C d_M_compare_0 0 rfl rfl ?_
  refine ze_iload_n C d_M_compare_1 2 rfl rfl ?_
  refine ze_icmp_eq 18 C d_M_compare_2 (by decide) (fun h2 => ?_) (fun h2 => ?_)
  · refine ze_iload_n C d_M_compare_18 1 rfl rfl ?_
    refine ze_iload_n C d_M_compare_19 3 rfl rfl ?_
    refine ze_icmp_eq 36 C d_M_compare_20 (by decide) (fun h20 => ?_) (fun h20 => ?_)
    · refine ze_iconst (v := nI 0) C d_M_compare_36 (by decide) ?_
      exact ze_iret C Rt d_M_compare_37 (⟨rfl, rfl, rfl, by unfold ze_cp; rw [if_neg (fun z => z h2), if_neg (fun z => z h20)]; rfl⟩)
    · refine ze_iload_n C d_M_compare_23 1 rfl rfl ?_
      refine ze_iload_n C d_M_compare_24 3 rfl rfl ?_
      refine ze_icmp_ge 32 C d_M_compare_25 (by decide) (fun h25 => ?_) (fun h25 => ?_)
      · refine ze_iconst (v := nI 1) C d_M_compare_32 (by decide) ?_
        refine ze_goto 37 C d_M_compare_33 (by decide) ?_
        exact ze_iret C Rt d_M_compare_37 (⟨rfl, rfl, rfl, by unfold ze_cp; rw [if_neg (fun z => z h2), if_pos h20, if_neg (Int32.not_lt.mpr h25)]; rfl⟩)
      · refine ze_iconst (v := -1) C d_M_compare_28 (by decide) ?_
        refine ze_goto 37 C d_M_compare_29 (by decide) ?_
        exact ze_iret C Rt d_M_compare_37 (⟨rfl, rfl, rfl, by unfold ze_cp; rw [if_neg (fun z => z h2), if_pos h20, if_pos (Int32.not_le.mp h25)]⟩)
  · refine ze_iload_n C d_M_compare_5 0 rfl rfl ?_
    refine ze_iload_n C d_M_compare_6 2 rfl rfl ?_
    refine ze_icmp_ge 14 C d_M_compare_7 (by decide) (fun h7 => ?_) (fun h7 => ?_)
    · refine ze_iconst (v := nI 1) C d_M_compare_14 (by decide) ?_
      refine ze_goto 37 C d_M_compare_15 (by decide) ?_
      exact ze_iret C Rt d_M_compare_37 (⟨rfl, rfl, rfl, by unfold ze_cp; rw [if_pos h2, if_neg (Int32.not_lt.mpr h7)]; rfl⟩)
    · refine ze_iconst (v := -1) C d_M_compare_10 (by decide) ?_
      refine ze_goto 37 C d_M_compare_11 (by decide) ?_
      exact ze_iret C Rt d_M_compare_37 (⟨rfl, rfl, rfl, by unfold ze_cp; rw [if_pos h2, if_pos (Int32.not_le.mp h7)]⟩)

set_option maxRecDepth 100000 in
set_option maxHeartbeats 4000000 in
theorem c_M_make (l : Launch) (D : va_G) (ids : Nat → ClassId) (ad : Nat → Nat) (x : ze_XS) (M : Nat) (mv : Int64) (ty ma co le : Nat) (Ar : Nat → Nat → Int32) (L : List ze_Row) (hk : ze_Mk Ar ma L) (hma : ma < 100000) (key value : Int32) : ze_MM l D ids ad x y_M_make ws_M_make 1 (M, mv, ty, ma, co, le, Ar) [.ref (ad 39), .int key, .int value] (fun v ms' => v = none ∧ ∃ A', ms' = (M, mv, ty, ma + 1, co, le, A') ∧ ze_Mk A' (ma + 1) (L ++ [(key, value)]) ∧ ∀ z, z ≠ 5 → z ≠ 6 → A' z = Ar z) := by
  refine ze_enter (cc := b_M_make) (maxL := 3) (ret := none) (by decide +kernel) rfl (Nat.le_of_ble_eq_true rfl) ?_
  rintro G rfl rfl rfl - C Rt
  refine ze_lv (lv' := [(0, .ref (ad 39)), (1, .int key), (2, .int value)]) rfl ?_
  refine ze_aload_n C d_M_make_0 0 rfl rfl ?_
  refine ze_getf (k := 39) C fl_M_55 (by decide) ze_E_m rfl d_M_make_1 ?_
  refine ze_bipush (v := nI 60) C d_M_make_4 (by decide) ?_
  refine ze_icmp_geN 29 C d_M_make_6 (by decide) (by omega) (by omega) (fun h6 => ?_) (fun h6 => ?_)
  · refine ze_aload_n C d_M_make_29 0 rfl rfl ?_
    refine ze_dup C d_M_make_30 rfl ?_
    refine ze_getf (k := 39) C fl_M_55 (by decide) ze_E_m rfl d_M_make_31 ?_
    refine ze_iconst (v := nI 1) C d_M_make_34 (by decide) ?_
    refine ze_iaddN C d_M_make_35 ?_
    refine ze_putf (k := 39) C fp_M_55 (by decide) ze_E_m rfl rfl (Nat.le_of_ble_eq_true rfl) d_M_make_36 ?_
    refine ze_eqE (ze_up_m (ms' := (M, mv, ty, ma + 1, co, le, Ar)) rfl rfl) ?_
    exact ze_vret C Rt d_M_make_39 (⟨rfl, rfl, _, rfl, rfl, Ar, rfl, ze_Mk_full hk (by omega), fun _ _ _ => rfl⟩)
  · refine ze_aload_n C d_M_make_9 0 rfl rfl ?_
    refine ze_getf (k := 39) C fl_M_25 (by decide) ze_E_m rfl d_M_make_10 ?_
    refine ze_aload_n C d_M_make_13 0 rfl rfl ?_
    refine ze_getf (k := 39) C fl_M_55 (by decide) ze_E_m rfl d_M_make_14 ?_
    refine ze_iload_n C d_M_make_17 1 rfl rfl ?_
    refine ze_iast (k := 40 + 5) (i := ma) C (by decide) (ze_E_a (j := 5)) (by show _ < 60; omega) (by decide) d_M_make_18 ?_
    refine ze_eqE (ze_up_a (j := 5)) ?_
    refine ze_genA (fun A1 eA1 => ?_)
    refine ze_aload_n C d_M_make_19 0 rfl rfl ?_
    refine ze_getf (k := 39) C fl_M_28 (by decide) ze_E_m rfl d_M_make_20 ?_
    refine ze_aload_n C d_M_make_23 0 rfl rfl ?_
    refine ze_getf (k := 39) C fl_M_55 (by decide) ze_E_m rfl d_M_make_24 ?_
    refine ze_iload_n C d_M_make_27 2 rfl rfl ?_
    refine ze_iast (k := 40 + 6) (i := ma) C (by decide) (ze_E_a (j := 6)) (by show _ < 60; omega) (by decide) d_M_make_28 ?_
    refine ze_eqE (ze_up_a (j := 6)) ?_
    refine ze_genA (fun A2 eA2 => ?_)
    refine ze_aload_n C d_M_make_29 0 rfl rfl ?_
    refine ze_dup C d_M_make_30 rfl ?_
    refine ze_getf (k := 39) C fl_M_55 (by decide) ze_E_m rfl d_M_make_31 ?_
    refine ze_iconst (v := nI 1) C d_M_make_34 (by decide) ?_
    refine ze_iaddN C d_M_make_35 ?_
    refine ze_putf (k := 39) C fp_M_55 (by decide) ze_E_m rfl rfl (Nat.le_of_ble_eq_true rfl) d_M_make_36 ?_
    refine ze_eqE (ze_up_m (ms' := (M, mv, ty, ma + 1, co, le, A2)) rfl rfl) ?_
    exact ze_vret C Rt d_M_make_39 (⟨rfl, rfl, _, rfl, rfl, A2, rfl, ze_Mk_snoc hk (by omega) (by rw [ze_ao eA2 5 (by decide), ze_au eA1]) (by rw [ze_au eA2, ze_ao eA1 6 (by decide)]), fun z z1 z2 => (ze_ao eA2 z z2).trans (ze_ao eA1 z z1)⟩)

set_option maxRecDepth 100000 in
set_option maxHeartbeats 4000000 in
theorem c_M_put (l : Launch) (D : va_G) (ids : Nat → ClassId) (ad : Nat → Nat) (x : ze_XS) (M : Nat) (mv : Int64) (ma co le : Nat) (Ar : Nat → Nat → Int32) (inp : List ze_Row) (sl : Nat → Option (List ze_Row)) (hR : ze_rA Ar inp sl) (hM : 3 ≤ M ∧ M ≤ 6) (k vv : Int32) : ze_MM l D ids ad x y_M_put ws_M_put 20 (M, mv, inp.length, ma, co, le, Ar) [.ref (ad 39), .int k, .int vv] (fun v ms' => v = some (.int (sp_put (inp, sl, mv, M) k vv).1) ∧ ze_rM ms' (sp_put (inp, sl, mv, M) k vv).2) := by
  refine ze_enter (cc := b_M_put) (maxL := 3) (ret := (some .boolean)) (by decide +kernel) rfl (Nat.le_of_ble_eq_true rfl) ?_
  rintro G rfl rfl rfl - C Rt
  refine ze_lv (lv' := [(0, .ref (ad 39)), (1, .int k), (2, .int vv)]) rfl ?_
  have hin := hR.1
  refine ze_aload_n C d_M_put_0 0 rfl rfl ?_
  refine ze_getf (k := 39) C fl_M_44 (by decide) ze_E_m rfl d_M_put_1 ?_
  refine ze_bipush (v := nI 60) C d_M_put_4 (by decide) ?_
  refine ze_icmp_neN 11 C d_M_put_6 (by decide) (by omega) (by omega) (fun h6 => ?_) (fun h6 => ?_)
  · refine ze_aload_n C d_M_put_11 0 rfl rfl ?_
    refine ze_getf (k := 39) C fl_M_7 (by decide) ze_E_m rfl d_M_put_12 ?_
    refine ze_aload_n C d_M_put_15 0 rfl rfl ?_
    refine ze_getf (k := 39) C fl_M_44 (by decide) ze_E_m rfl d_M_put_16 ?_
    refine ze_iload_n C d_M_put_19 1 rfl rfl ?_
    refine ze_iast (k := 40 + 0) (i := inp.length) C (by decide) (ze_E_a (j := 0)) (by show _ < 60; omega) (by decide) d_M_put_20 ?_
    refine ze_eqE (ze_up_a (j := 0)) ?_
    refine ze_genA (fun A1 eA1 => ?_)
    refine ze_aload_n C d_M_put_21 0 rfl rfl ?_
    refine ze_getf (k := 39) C fl_M_13 (by decide) ze_E_m rfl d_M_put_22 ?_
    refine ze_aload_n C d_M_put_25 0 rfl rfl ?_
    refine ze_getf (k := 39) C fl_M_44 (by decide) ze_E_m rfl d_M_put_26 ?_
    refine ze_iload_n C d_M_put_29 2 rfl rfl ?_
    refine ze_iast (k := 40 + 1) (i := inp.length) C (by decide) (ze_E_a (j := 1)) (by show _ < 60; omega) (by decide) d_M_put_30 ?_
    refine ze_eqE (ze_up_a (j := 1)) ?_
    refine ze_genA (fun A2 eA2 => ?_)
    refine ze_aload_n C d_M_put_31 0 rfl rfl ?_
    refine ze_dup C d_M_put_32 rfl ?_
    refine ze_getf (k := 39) C fl_M_44 (by decide) ze_E_m rfl d_M_put_33 ?_
    refine ze_iconst (v := nI 1) C d_M_put_36 (by decide) ?_
    refine ze_iaddN C d_M_put_37 ?_
    refine ze_putf (k := 39) C fp_M_44 (by decide) ze_E_m rfl rfl (Nat.le_of_ble_eq_true rfl) d_M_put_38 ?_
    refine ze_eqE (ze_up_m (ms' := (M, mv, inp.length + 1, ma, co, le, A2)) rfl rfl) ?_
    refine ze_iconst (v := nI 1) C d_M_put_41 (by decide) ?_
    exact ze_zret C Rt (by decide) d_M_put_42 (⟨rfl, rfl, _, rfl, by rw [sp_put, if_neg h6]; rfl, by rw [sp_put, if_neg h6]; exact ⟨ma, co, le, A2, by simp, ze_rA_in hR (by simp; omega) (by rw [ze_ao eA2 0 (by decide), ze_au eA1, ze_au eA2, ze_ao eA1 1 (by decide)]; have h7 := ze_Hl_snoc (r := (k, vv)) hR.2.1; rw [Nat.zero_add] at h7; exact h7) (fun z z1 z2 => (ze_ao eA2 z z2).trans (ze_ao eA1 z z1)), hM.1, hM.2⟩⟩)
  · refine ze_iconst (v := nI 0) C d_M_put_9 (by decide) ?_
    exact ze_zret C Rt (by decide) d_M_put_10 (⟨rfl, rfl, _, rfl, by rw [sp_put, if_pos h6]; rfl, by rw [sp_put, if_pos h6]; exact ⟨ma, co, le, Ar, rfl, hR, hM.1, hM.2⟩⟩)

set_option maxRecDepth 100000 in
set_option maxHeartbeats 4000000 in
theorem c_M_transfers (l : Launch) (D : va_G) (ids : Nat → ClassId) (ad : Nat → Nat) (x : ze_XS) (M : Nat) (mv : Int64) (ma co le : Nat) (Ar : Nat → Nat → Int32) (inp : List ze_Row) (sl : Nat → Option (List ze_Row)) (hR : ze_rA Ar inp sl) (hM : 3 ≤ M ∧ M ≤ 6)  : ze_MM l D ids ad x y_M_transfers ws_M_transfers 20 (M, mv, inp.length, ma, co, le, Ar) [.ref (ad 39)] (fun v ms' => v = some (.long mv) ∧ ze_rM ms' (inp, sl, mv, M)) := by
  refine ze_enter (cc := b_M_transfers) (maxL := 1) (ret := (some .long)) (by decide +kernel) rfl (Nat.le_of_ble_eq_true rfl) ?_
  rintro G rfl rfl rfl - C Rt
  refine ze_lv (lv' := [(0, .ref (ad 39))]) rfl ?_
  have hin := hR.1
  refine ze_aload_n C d_M_transfers_0 0 rfl rfl ?_
  refine ze_getf (k := 39) C fl_M_51 (by decide) ze_E_m rfl d_M_transfers_1 ?_
  exact ze_lret C Rt d_M_transfers_4 (⟨rfl, rfl, _, rfl, rfl, ⟨ma, co, le, Ar, rfl, hR, hM.1, hM.2⟩⟩)

set_option maxRecDepth 100000 in
set_option maxHeartbeats 4000000 in
theorem c_M_drop (l : Launch) (D : va_G) (ids : Nat → ClassId) (ad : Nat → Nat) (x : ze_XS) (M : Nat) (mv : Int64) (ma co le : Nat) (Ar : Nat → Nat → Int32) (inp : List ze_Row) (sl : Nat → Option (List ze_Row)) (hR : ze_rA Ar inp sl) (hM : 3 ≤ M ∧ M ≤ 6) (s : Int32) : ze_MM l D ids ad x y_M_drop ws_M_drop 20 (M, mv, inp.length, ma, co, le, Ar) [.ref (ad 39), .int s] (fun v ms' => v = some (.int (sp_drop (inp, sl, mv, M) s).1) ∧ ze_rM ms' (sp_drop (inp, sl, mv, M) s).2) := by
  refine ze_enter (cc := b_M_drop) (maxL := 3) (ret := (some .int)) (by decide +kernel) rfl (Nat.le_of_ble_eq_true rfl) ?_
  rintro G rfl rfl rfl - C Rt
  refine ze_lv (lv' := [(0, .ref (ad 39)), (1, .int s)]) rfl ?_
  have hin := hR.1
  refine ze_iload_n C d_M_drop_0 1 rfl rfl ?_
  refine ze_callS (st := []) C (c_M_slot (ze_l G) (ze_D G) (ze_i G) _ _ _ s) (ks_M_47 (ze_rml (by decide) (by decide))) rfl (Nat.le_of_ble_eq_true rfl) ⟨Nat.le_of_ble_eq_true rfl, Nat.le_of_ble_eq_true rfl⟩ d_M_drop_1 ?_
  rintro _ _ _ _ ⟨rfl, rfl, rfl, rfl⟩
  refine ze_norm (c2 := 0) (s2 := 0) (st' := [.int (ze_bi (ze_isS s))]) rfl rfl rfl ?_
  refine ze_if_ne 9 C d_M_drop_4 (by decide) (fun h4 => ?_) (fun h4 => ?_)
  · obtain ⟨j, hj, rfl⟩ := ze_isS_nI (ze_bi1 h4)
    have hnj := ze_n_nI (j := j) (by omega)
    refine ze_aload_n C d_M_drop_9 0 rfl rfl ?_
    refine ze_getf (k := 39) C fl_M_16 (by decide) ze_E_m rfl d_M_drop_10 ?_
    refine ze_iload_n C d_M_drop_13 1 rfl rfl ?_
    refine ze_iald (k := 40 + 2) (i := j) C (by decide) (ze_E_a (j := 2)) (by show _ < 8; omega) (by decide) d_M_drop_14 ?_
    refine ze_if_ge 21 C d_M_drop_15 (by decide) (fun h15 => ?_) (fun h15 => ?_)
    · obtain ⟨L, hL, hL1, hL2, -⟩ := ze_rA_pos hR hj (Int32.not_lt.mpr h15)
      have hsp : sp_drop (inp, sl, mv, M) (nI j) = (nI L.length, (inp, va_up sl j none, mv, M)) := by rw [sp_drop, if_neg (by rw [ze_isS_j hj]; decide)]; simp only [hnj, hL]
      refine ze_aload_n C d_M_drop_21 0 rfl rfl ?_
      refine ze_getf (k := 39) C fl_M_16 (by decide) ze_E_m rfl d_M_drop_22 ?_
      refine ze_iload_n C d_M_drop_25 1 rfl rfl ?_
      refine ze_iald (k := 40 + 2) (i := j) C (by decide) (ze_E_a (j := 2)) (by show _ < 8; omega) (by decide) d_M_drop_26 ?_
      refine ze_istore_n (lv' := [(2, .int (Ar 2 j)), (0, .ref (ad 39)), (1, .int (nI j))]) C d_M_drop_27 rfl (by decide) rfl ?_
      refine ze_aload_n C d_M_drop_28 1 rfl rfl ?_
      refine ze_getf (k := 39) C fl_M_16 (by decide) ze_E_m rfl d_M_drop_29 ?_
      refine ze_iload_n C d_M_drop_32 2 rfl rfl ?_
      refine ze_iconst (v := -1) C d_M_drop_33 (by decide) ?_
      refine ze_iast (k := 40 + 2) (i := j) C (by decide) (ze_E_a (j := 2)) (by show _ < 8; omega) (by decide) d_M_drop_34 ?_
      refine ze_eqE (ze_up_a (j := 2)) ?_
      refine ze_genA (fun A1 eA1 => ?_)
      refine ze_iload_n C d_M_drop_35 0 rfl rfl ?_
      exact ze_iret C Rt d_M_drop_36 (⟨rfl, rfl, _, rfl, by rw [hsp, hL2], by rw [hsp]; exact ⟨ma, co, le, A1, rfl, ze_rA_drop hR eA1, hM.1, hM.2⟩⟩)
    · have hoff := ze_rA_neg hR hj (Int32.not_le.mp h15)
      have hsp : sp_drop (inp, sl, mv, M) (nI j) = (-2, (inp, sl, mv, M)) := by rw [sp_drop, if_neg (by rw [ze_isS_j hj]; decide)]; simp only [hnj, hoff]
      refine ze_bipush (v := -2) C d_M_drop_18 (by decide) ?_
      exact ze_iret C Rt d_M_drop_20 (⟨rfl, rfl, _, rfl, by rw [hsp], by rw [hsp]; exact ⟨ma, co, le, Ar, rfl, hR, hM.1, hM.2⟩⟩)
  · refine ze_iconst (v := -1) C d_M_drop_7 (by decide) ?_
    exact ze_iret C Rt d_M_drop_8 (⟨rfl, rfl, _, rfl, by rw [sp_drop, if_pos (ze_bi0.mp h4)], by rw [sp_drop, if_pos (ze_bi0.mp h4)]; exact ⟨ma, co, le, Ar, rfl, hR, hM.1, hM.2⟩⟩)

theorem ze_rows_A {Ar : Nat → Nat → Int32} {inp : List ze_Row} {sl : Nat → Option (List ze_Row)} {mv : Int64} {M j : Nat} (hR : ze_rA Ar inp sl) (hj : j < 8) : sp_rows (inp, sl, mv, M) (nI j) = Ar 2 j := by
  rw [sp_rows, if_neg (by rw [ze_isS_j hj]; decide)]
  simp only [ze_n_nI (Nat.lt_trans hj (by decide : 8 < 2 ^ 31))]
  cases e : sl j with
  | none => exact (hR.2.2.1 j hj e).symm
  | some L => exact (hR.2.2.2 j hj L e).2.1.symm

set_option maxRecDepth 100000 in
set_option maxHeartbeats 4000000 in
theorem c_M_rows (l : Launch) (D : va_G) (ids : Nat → ClassId) (ad : Nat → Nat) (x : ze_XS) (M : Nat) (mv : Int64) (ma co le : Nat) (Ar : Nat → Nat → Int32) (inp : List ze_Row) (sl : Nat → Option (List ze_Row)) (hR : ze_rA Ar inp sl) (hM : 3 ≤ M ∧ M ≤ 6) (s : Int32) : ze_MM l D ids ad x y_M_rows ws_M_rows 20 (M, mv, inp.length, ma, co, le, Ar) [.ref (ad 39), .int s] (fun v ms' => v = some (.int (sp_rows (inp, sl, mv, M) s)) ∧ ze_rM ms' (inp, sl, mv, M)) := by
  refine ze_enter (cc := b_M_rows) (maxL := 2) (ret := (some .int)) (by decide +kernel) rfl (Nat.le_of_ble_eq_true rfl) ?_
  rintro G rfl rfl rfl - C Rt
  refine ze_lv (lv' := [(0, .ref (ad 39)), (1, .int s)]) rfl ?_
  have hin := hR.1
  refine ze_iload_n C d_M_rows_0 1 rfl rfl ?_
  refine ze_callS (st := []) C (c_M_slot (ze_l G) (ze_D G) (ze_i G) _ _ _ s) (ks_M_47 (ze_rml (by decide) (by decide))) rfl (Nat.le_of_ble_eq_true rfl) ⟨Nat.le_of_ble_eq_true rfl, Nat.le_of_ble_eq_true rfl⟩ d_M_rows_1 ?_
  rintro _ _ _ _ ⟨rfl, rfl, rfl, rfl⟩
  refine ze_norm (c2 := 0) (s2 := 0) (st' := [.int (ze_bi (ze_isS s))]) rfl rfl rfl ?_
  refine ze_if_eq 16 C d_M_rows_4 (by decide) (fun h4 => ?_) (fun h4 => ?_)
  · refine ze_iconst (v := -1) C d_M_rows_16 (by decide) ?_
    exact ze_iret C Rt d_M_rows_17 (⟨rfl, rfl, _, rfl, by rw [sp_rows, if_pos (ze_bi0.mp h4)], ⟨ma, co, le, Ar, rfl, hR, hM.1, hM.2⟩⟩)
  · obtain ⟨j, hj, rfl⟩ := ze_isS_nI (ze_bi1 h4)
    refine ze_aload_n C d_M_rows_7 0 rfl rfl ?_
    refine ze_getf (k := 39) C fl_M_16 (by decide) ze_E_m rfl d_M_rows_8 ?_
    refine ze_iload_n C d_M_rows_11 1 rfl rfl ?_
    refine ze_iald (k := 40 + 2) (i := j) C (by decide) (ze_E_a (j := 2)) (by show _ < 8; omega) (by decide) d_M_rows_12 ?_
    refine ze_goto 17 C d_M_rows_13 (by decide) ?_
    exact ze_iret C Rt d_M_rows_17 (⟨rfl, rfl, _, rfl, by rw [ze_rows_A hR hj], ⟨ma, co, le, Ar, rfl, hR, hM.1, hM.2⟩⟩)

theorem ze_at_A {f : ze_Row → Int32} {Ar : Nat → Nat → Int32} {inp : List ze_Row} {sl : Nat → Option (List ze_Row)} {mv : Int64} {M j : Nat} {p : Int32} (hR : ze_rA Ar inp sl) (hj : j < 8) : (p < 0 → sp_at f (inp, sl, mv, M) (nI j) p = 0) ∧ (Ar 2 j ≤ p → ¬ p < 0 → sp_at f (inp, sl, mv, M) (nI j) p = 0) ∧ (¬ p < 0 → ¬ Ar 2 j ≤ p → ∃ q, q < 60 ∧ p = nI q ∧ sp_at f (inp, sl, mv, M) (nI j) p = f (Ar 3 (60 * j + q), Ar 4 (60 * j + q))) := by
  have hz : (0 : Int32).toInt = 0 := rfl
  unfold sp_at
  rw [if_neg (by rw [ze_isS_j hj]; decide)]
  simp only [ze_n_nI (Nat.lt_trans hj (by decide : 8 < 2 ^ 31))]
  cases e : sl j with
  | none =>
    refine ⟨fun _ => rfl, fun _ _ => rfl, fun h1 h2 => ?_⟩
    rw [hR.2.2.1 j hj e] at h2
    rw [Int32.lt_iff_toInt_lt, hz] at h1
    rw [Int32.le_iff_toInt_le, show (-1 : Int32).toInt = -1 from rfl] at h2
    omega
  | some L =>
    obtain ⟨l1, l2, l3⟩ := hR.2.2.2 j hj L e
    rw [l2]
    simp only
    refine ⟨fun h => ?_, fun h h0 => ?_, fun h0 h => ?_⟩
    · rw [Int32.lt_iff_toInt_lt, hz] at h
      rw [if_pos h]
    · rw [Int32.lt_iff_toInt_lt, hz] at h0
      rw [Int32.le_iff_toInt_le, nI_toInt (by omega)] at h
      rw [if_neg h0, List.getElem?_eq_none (by omega)]
    · obtain ⟨q, hq, rfl⟩ := nI_of h0
      rw [nI_leI (by omega) hq] at h
      refine ⟨q, by omega, rfl, ?_⟩
      rw [nI_toInt hq, if_neg (by omega), Int.toNat_natCast, ze_Hl_row l3 (by omega)]

set_option maxRecDepth 100000 in
set_option maxHeartbeats 4000000 in
theorem c_M_key (l : Launch) (D : va_G) (ids : Nat → ClassId) (ad : Nat → Nat) (x : ze_XS) (M : Nat) (mv : Int64) (ma co le : Nat) (Ar : Nat → Nat → Int32) (inp : List ze_Row) (sl : Nat → Option (List ze_Row)) (hR : ze_rA Ar inp sl) (hM : 3 ≤ M ∧ M ≤ 6) (s p : Int32) : ze_MM l D ids ad x y_M_key ws_M_key 20 (M, mv, inp.length, ma, co, le, Ar) [.ref (ad 39), .int s, .int p] (fun v ms' => v = some (.int (sp_at (fun r => r.1) (inp, sl, mv, M) s p)) ∧ ze_rM ms' (inp, sl, mv, M)) := by
  refine ze_enter (cc := b_M_key) (maxL := 3) (ret := (some .int)) (by decide +kernel) rfl (Nat.le_of_ble_eq_true rfl) ?_
  rintro G rfl rfl rfl - C Rt
  refine ze_lv (lv' := [(0, .ref (ad 39)), (1, .int s), (2, .int p)]) rfl ?_
  have hin := hR.1
  refine ze_iload_n C d_M_key_0 1 rfl rfl ?_
  refine ze_callS (st := []) C (c_M_slot (ze_l G) (ze_D G) (ze_i G) _ _ _ s) (ks_M_47 (ze_rml (by decide) (by decide))) rfl (Nat.le_of_ble_eq_true rfl) ⟨Nat.le_of_ble_eq_true rfl, Nat.le_of_ble_eq_true rfl⟩ d_M_key_1 ?_
  rintro _ _ _ _ ⟨rfl, rfl, rfl, rfl⟩
  refine ze_norm (c2 := 0) (s2 := 0) (st' := [.int (ze_bi (ze_isS s))]) rfl rfl rfl ?_
  refine ze_if_eq 35 C d_M_key_4 (by decide) (fun h4 => ?_) (fun h4 => ?_)
  · refine ze_iconst (v := nI 0) C d_M_key_35 (by decide) ?_
    exact ze_iret C Rt d_M_key_36 (⟨rfl, rfl, _, rfl, by rw [sp_at, if_pos (ze_bi0.mp h4)]; rfl, ⟨ma, co, le, Ar, rfl, hR, hM.1, hM.2⟩⟩)
  · obtain ⟨j, hj, rfl⟩ := ze_isS_nI (ze_bi1 h4)
    refine ze_iload_n C d_M_key_7 2 rfl rfl ?_
    refine ze_if_lt 35 C d_M_key_8 (by decide) (fun h8 => ?_) (fun h8 => ?_)
    · refine ze_iconst (v := nI 0) C d_M_key_35 (by decide) ?_
      exact ze_iret C Rt d_M_key_36 (⟨rfl, rfl, _, rfl, by rw [(ze_at_A (f := fun r => r.1) (mv := mv) (M := M) (p := p) hR hj).1 h8]; rfl, ⟨ma, co, le, Ar, rfl, hR, hM.1, hM.2⟩⟩)
    · refine ze_iload_n C d_M_key_11 2 rfl rfl ?_
      refine ze_aload_n C d_M_key_12 0 rfl rfl ?_
      refine ze_getf (k := 39) C fl_M_16 (by decide) ze_E_m rfl d_M_key_13 ?_
      refine ze_iload_n C d_M_key_16 1 rfl rfl ?_
      refine ze_iald (k := 40 + 2) (i := j) C (by decide) (ze_E_a (j := 2)) (by show _ < 8; omega) (by decide) d_M_key_17 ?_
      refine ze_icmp_ge 35 C d_M_key_18 (by decide) (fun h18 => ?_) (fun h18 => ?_)
      · refine ze_iconst (v := nI 0) C d_M_key_35 (by decide) ?_
        exact ze_iret C Rt d_M_key_36 (⟨rfl, rfl, _, rfl, by rw [(ze_at_A (f := fun r => r.1) (mv := mv) (M := M) (p := p) hR hj).2.1 h18 h8]; rfl, ⟨ma, co, le, Ar, rfl, hR, hM.1, hM.2⟩⟩)
      · obtain ⟨q, hq, rfl, hsp⟩ := (ze_at_A (f := fun r => r.1) (mv := mv) (M := M) (p := p) hR hj).2.2 h8 h18
        refine ze_aload_n C d_M_key_21 0 rfl rfl ?_
        refine ze_getf (k := 39) C fl_M_19 (by decide) ze_E_m rfl d_M_key_22 ?_
        refine ze_bipush (v := nI 60) C d_M_key_25 (by decide) ?_
        refine ze_iload_n C d_M_key_27 1 rfl rfl ?_
        refine ze_imulN C d_M_key_28 ?_
        refine ze_iload_n C d_M_key_29 2 rfl rfl ?_
        refine ze_iaddN C d_M_key_30 ?_
        refine ze_iald (k := 40 + 3) (i := 60 * j + q) C (by decide) (ze_E_a (j := 3)) (by show _ < 480; omega) (by decide) d_M_key_31 ?_
        refine ze_goto 36 C d_M_key_32 (by decide) ?_
        exact ze_iret C Rt d_M_key_36 (⟨rfl, rfl, _, rfl, by rw [hsp], ⟨ma, co, le, Ar, rfl, hR, hM.1, hM.2⟩⟩)

set_option maxRecDepth 100000 in
set_option maxHeartbeats 4000000 in
theorem c_M_value (l : Launch) (D : va_G) (ids : Nat → ClassId) (ad : Nat → Nat) (x : ze_XS) (M : Nat) (mv : Int64) (ma co le : Nat) (Ar : Nat → Nat → Int32) (inp : List ze_Row) (sl : Nat → Option (List ze_Row)) (hR : ze_rA Ar inp sl) (hM : 3 ≤ M ∧ M ≤ 6) (s p : Int32) : ze_MM l D ids ad x y_M_value ws_M_value 20 (M, mv, inp.length, ma, co, le, Ar) [.ref (ad 39), .int s, .int p] (fun v ms' => v = some (.int (sp_at (fun r => r.2) (inp, sl, mv, M) s p)) ∧ ze_rM ms' (inp, sl, mv, M)) := by
  refine ze_enter (cc := b_M_value) (maxL := 3) (ret := (some .int)) (by decide +kernel) rfl (Nat.le_of_ble_eq_true rfl) ?_
  rintro G rfl rfl rfl - C Rt
  refine ze_lv (lv' := [(0, .ref (ad 39)), (1, .int s), (2, .int p)]) rfl ?_
  have hin := hR.1
  refine ze_iload_n C d_M_value_0 1 rfl rfl ?_
  refine ze_callS (st := []) C (c_M_slot (ze_l G) (ze_D G) (ze_i G) _ _ _ s) (ks_M_47 (ze_rml (by decide) (by decide))) rfl (Nat.le_of_ble_eq_true rfl) ⟨Nat.le_of_ble_eq_true rfl, Nat.le_of_ble_eq_true rfl⟩ d_M_value_1 ?_
  rintro _ _ _ _ ⟨rfl, rfl, rfl, rfl⟩
  refine ze_norm (c2 := 0) (s2 := 0) (st' := [.int (ze_bi (ze_isS s))]) rfl rfl rfl ?_
  refine ze_if_eq 35 C d_M_value_4 (by decide) (fun h4 => ?_) (fun h4 => ?_)
  · refine ze_iconst (v := nI 0) C d_M_value_35 (by decide) ?_
    exact ze_iret C Rt d_M_value_36 (⟨rfl, rfl, _, rfl, by rw [sp_at, if_pos (ze_bi0.mp h4)]; rfl, ⟨ma, co, le, Ar, rfl, hR, hM.1, hM.2⟩⟩)
  · obtain ⟨j, hj, rfl⟩ := ze_isS_nI (ze_bi1 h4)
    refine ze_iload_n C d_M_value_7 2 rfl rfl ?_
    refine ze_if_lt 35 C d_M_value_8 (by decide) (fun h8 => ?_) (fun h8 => ?_)
    · refine ze_iconst (v := nI 0) C d_M_value_35 (by decide) ?_
      exact ze_iret C Rt d_M_value_36 (⟨rfl, rfl, _, rfl, by rw [(ze_at_A (f := fun r => r.2) (mv := mv) (M := M) (p := p) hR hj).1 h8]; rfl, ⟨ma, co, le, Ar, rfl, hR, hM.1, hM.2⟩⟩)
    · refine ze_iload_n C d_M_value_11 2 rfl rfl ?_
      refine ze_aload_n C d_M_value_12 0 rfl rfl ?_
      refine ze_getf (k := 39) C fl_M_16 (by decide) ze_E_m rfl d_M_value_13 ?_
      refine ze_iload_n C d_M_value_16 1 rfl rfl ?_
      refine ze_iald (k := 40 + 2) (i := j) C (by decide) (ze_E_a (j := 2)) (by show _ < 8; omega) (by decide) d_M_value_17 ?_
      refine ze_icmp_ge 35 C d_M_value_18 (by decide) (fun h18 => ?_) (fun h18 => ?_)
      · refine ze_iconst (v := nI 0) C d_M_value_35 (by decide) ?_
        exact ze_iret C Rt d_M_value_36 (⟨rfl, rfl, _, rfl, by rw [(ze_at_A (f := fun r => r.2) (mv := mv) (M := M) (p := p) hR hj).2.1 h18 h8]; rfl, ⟨ma, co, le, Ar, rfl, hR, hM.1, hM.2⟩⟩)
      · obtain ⟨q, hq, rfl, hsp⟩ := (ze_at_A (f := fun r => r.2) (mv := mv) (M := M) (p := p) hR hj).2.2 h8 h18
        refine ze_aload_n C d_M_value_21 0 rfl rfl ?_
        refine ze_getf (k := 39) C fl_M_22 (by decide) ze_E_m rfl d_M_value_22 ?_
        refine ze_bipush (v := nI 60) C d_M_value_25 (by decide) ?_
        refine ze_iload_n C d_M_value_27 1 rfl rfl ?_
        refine ze_imulN C d_M_value_28 ?_
        refine ze_iload_n C d_M_value_29 2 rfl rfl ?_
        refine ze_iaddN C d_M_value_30 ?_
        refine ze_iald (k := 40 + 4) (i := 60 * j + q) C (by decide) (ze_E_a (j := 4)) (by show _ < 480; omega) (by decide) d_M_value_31 ?_
        refine ze_goto 36 C d_M_value_32 (by decide) ?_
        exact ze_iret C Rt d_M_value_36 (⟨rfl, rfl, _, rfl, by rw [hsp], ⟨ma, co, le, Ar, rfl, hR, hM.1, hM.2⟩⟩)
