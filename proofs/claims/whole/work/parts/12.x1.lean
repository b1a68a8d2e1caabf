theorem ze_bi1 {b : Bool} (h : ¬ ze_bi b = 0) : b = true := by cases b with
  | true => rfl
  | false => exact absurd rfl h
theorem ze_bi0 {b : Bool} : ze_bi b = 0 ↔ b = false := by cases b <;> decide
theorem ze_hd_up {hd : Nat → Bool} {j : Nat} {b : Bool} : upd (fun q => ze_bi (hd q)) j (ze_bi b) = fun q => ze_bi (va_up hd j b q) := by
  funext q
  by_cases h : q = j
  · subst h; rw [pk_us, va_up_self]
  · rw [pk_un h, va_up_ne _ _ h]
theorem ze_isS_f1 {s : Int32} (h : s < 0) : ze_isS s = false := by
  rw [Int32.lt_iff_toInt_lt] at h
  simp only [show (0 : Int32).toInt = 0 from rfl] at h
  exact decide_eq_false (by omega)
theorem ze_isS_f2 {s : Int32} (h : nI 8 ≤ s) : ze_isS s = false := by
  rw [Int32.le_iff_toInt_le] at h
  simp only [show (nI 8).toInt = 8 from rfl] at h
  exact decide_eq_false (by omega)
theorem ze_isS_t {s : Int32} (h1 : ¬ s < 0) (h2 : ¬ nI 8 ≤ s) : ze_isS s = true := by
  rw [Int32.lt_iff_toInt_lt] at h1
  rw [Int32.le_iff_toInt_le] at h2
  simp only [show (0 : Int32).toInt = 0 from rfl] at h1
  simp only [show (nI 8).toInt = 8 from rfl] at h2
  exact decide_eq_true (by omega)
theorem ze_n_nI {j : Nat} (h : j < 2 ^ 31) : ze_n (nI j) = j := by
  unfold ze_n
  rw [nI_toInt h]
  exact Int.toNat_natCast j
theorem ze_isS_nI {s : Int32} (h : ze_isS s = true) : ∃ j, j < 8 ∧ s = nI j := by
  have h := of_decide_eq_true h
  obtain ⟨j, h1, h2⟩ := nI_of (x := s) (by
    rw [Int32.lt_iff_toInt_lt]
    simp only [show (0 : Int32).toInt = 0 from rfl]
    omega)
  refine ⟨j, ?_, h2⟩
  rw [h2, nI_toInt h1] at h
  omega
theorem ze_isS_j {j : Nat} (h : j < 8) : ze_isS (nI j) = true := decide_eq_true (by rw [nI_toInt (by omega)]; omega)
/-- the refusal of an operator -/
def ze_rf (hd : Nat → Bool) (a b into : Int32) : Int32 := if (ze_isS a && ze_isS b && ze_isS into) = false then -1 else if (hd (ze_n a) && hd (ze_n b)) = false then -2 else if hd (ze_n into) = true then -3 else 0

set_option maxRecDepth 100000 in
set_option maxHeartbeats 4000000 in
theorem c_X_isSlot (l : Launch) (D : va_G) (ids : Nat → ClassId) (n : Nat) (ad : Nat → Nat) (E : Nat → va_E) (s : Int32) : ze_M l D ids y_X_isSlot ws_X_isSlot (ze_rm 1) 0 0 n ad E [.int s] (ze_p0 n ad E (fun v => v = some (.int (ze_bi (ze_isS s))))) := by
  refine ze_enter (cc := b_X_isSlot) (maxL := 1) (ret := (some .boolean)) (by decide +kernel) rfl (Nat.le_of_ble_eq_true rfl) ?_
  rintro G rfl rfl rfl - C Rt
  refine ze_lv (lv' := [(0, .int s)]) rfl ?_
  refine ze_iload_n C d_X_isSlot_0 0 rfl rfl ?_
  refine ze_if_lt 14 C d_X_isSlot_1 (by decide) (fun h1 => ?_) (fun h1 => ?_)
  · refine ze_iconst (v := nI 0) C d_X_isSlot_14 (by decide) ?_
    exact ze_zret C Rt (by decide) d_X_isSlot_15 (⟨rfl, rfl, rfl, by rw [ze_isS_f1 h1]; rfl⟩)
  · refine ze_iload_n C d_X_isSlot_4 0 rfl rfl ?_
    refine ze_bipush (v := nI 8) C d_X_isSlot_5 (by decide) ?_
    refine ze_icmp_ge 14 C d_X_isSlot_7 (by decide) (fun h7 => ?_) (fun h7 => ?_)
    · refine ze_iconst (v := nI 0) C d_X_isSlot_14 (by decide) ?_
      exact ze_zret C Rt (by decide) d_X_isSlot_15 (⟨rfl, rfl, rfl, by rw [ze_isS_f2 h7]; rfl⟩)
    · refine ze_iconst (v := nI 1) C d_X_isSlot_10 (by decide) ?_
      refine ze_goto 15 C d_X_isSlot_11 (by decide) ?_
      exact ze_zret C Rt (by decide) d_X_isSlot_15 (⟨rfl, rfl, rfl, by rw [ze_isS_t h1 h7]; rfl⟩)

set_option maxRecDepth 100000 in
set_option maxHeartbeats 4000000 in
theorem c_X_dividedUp (l : Launch) (D : va_G) (ids : Nat → ClassId) (n : Nat) (ad : Nat → Nat) (E : Nat → va_E) (a b : Nat) (ha : a < 100000) (hb0 : 0 < b) (hb : b < 100000) : ze_M l D ids y_X_dividedUp ws_X_dividedUp (ze_rm 1) 0 0 n ad E [.int (nI a), .int (nI b)] (ze_p0 n ad E (fun v => v = some (.int (nI ((a + b - 1) / b))))) := by
  refine ze_enter (cc := b_X_dividedUp) (maxL := 2) (ret := (some .int)) (by decide +kernel) rfl (Nat.le_of_ble_eq_true rfl) ?_
  rintro G rfl rfl rfl - C Rt
  refine ze_lv (lv' := [(0, .int (nI a)), (1, .int (nI b))]) rfl ?_
  refine ze_iload_n C d_X_dividedUp_0 0 rfl rfl ?_
  refine ze_iload_n C d_X_dividedUp_1 1 rfl rfl ?_
  refine ze_iaddN C d_X_dividedUp_2 ?_
  refine ze_iconst (v := nI 1) C d_X_dividedUp_3 (by decide) ?_
  refine ze_isubN C d_X_dividedUp_4 (by omega) ?_
  refine ze_iload_n C d_X_dividedUp_5 1 rfl rfl ?_
  refine ze_idivN C d_X_dividedUp_6 (by omega) (by omega) (by omega) ?_
  exact ze_iret C Rt d_X_dividedUp_7 (⟨rfl, rfl, rfl, rfl⟩)

set_option maxRecDepth 100000 in
set_option maxHeartbeats 4000000 in
theorem c_X_sizeOf (l : Launch) (D : va_G) (ids : Nat → ClassId) (n : Nat) (ad : Nat → Nat) (E : Nat → va_E) (a : Nat) (ha : a < 50000) : ze_M l D ids y_X_sizeOf ws_X_sizeOf (ze_rm 2) 0 0 n ad E [.int (nI a)] (ze_p0 n ad E (fun v => v = some (.int (nI (ze_sz a))))) := by
  refine ze_enter (cc := b_X_sizeOf) (maxL := 1) (ret := (some .int)) (by decide +kernel) rfl (Nat.le_of_ble_eq_true rfl) ?_
  rintro G rfl rfl rfl - C Rt
  refine ze_lv (lv' := [(0, .int (nI a))]) rfl ?_
  refine ze_iload_n C d_X_sizeOf_0 0 rfl rfl ?_
  refine ze_iconst (v := nI 4) C d_X_sizeOf_1 (by decide) ?_
  refine ze_callS (st := []) C (c_X_dividedUp (ze_l G) (ze_D G) (ze_i G) _ _ _ a 4 (by omega) (by omega) (by omega)) (ks_X_121 (ze_rml (by decide) (by decide))) rfl (Nat.le_of_ble_eq_true rfl) ⟨Nat.le_of_ble_eq_true rfl, Nat.le_of_ble_eq_true rfl⟩ d_X_sizeOf_2 ?_
  rintro _ _ _ _ ⟨rfl, rfl, rfl, rfl⟩
  refine ze_norm (c2 := 0) (s2 := 0) (st' := [.int (nI ((a + 4 - 1) / 4))]) rfl rfl rfl ?_
  exact ze_iret C Rt d_X_sizeOf_5 (⟨rfl, rfl, rfl, rfl⟩)

set_option maxRecDepth 100000 in
set_option maxHeartbeats 4000000 in
theorem c_X_rowsInMemory (l : Launch) (D : va_G) (ids : Nat → ClassId) (ad : Nat → Nat) (ms : ze_MS) (M : Nat) (T : Nat → ze_T) (hd : Nat → Bool) (mv : Int64) (hM : 3 ≤ M ∧ M ≤ 6) : ze_MX l D ids ad ms y_X_rowsInMemory ws_X_rowsInMemory 1 (M, T, hd, mv) [.ref (ad 0)] (fun v x' => v = some (.int (nI (ze_rm4 M))) ∧ x' = (M, T, hd, mv)) := by
  refine ze_enter (cc := b_X_rowsInMemory) (maxL := 1) (ret := (some .int)) (by decide +kernel) rfl (Nat.le_of_ble_eq_true rfl) ?_
  rintro G rfl rfl rfl - C Rt
  refine ze_lv (lv' := [(0, .ref (ad 0))]) rfl ?_
  refine ze_iconst (v := nI 4) C d_X_rowsInMemory_0 (by decide) ?_
  refine ze_aload_n C d_X_rowsInMemory_1 0 rfl rfl ?_
  refine ze_getf C fl_X_18 (by decide) ze_E_x rfl d_X_rowsInMemory_2 ?_
  refine ze_iconst (v := nI 2) C d_X_rowsInMemory_5 (by decide) ?_
  refine ze_isubN C d_X_rowsInMemory_6 (by omega) ?_
  refine ze_imulN C d_X_rowsInMemory_7 ?_
  exact ze_iret C Rt d_X_rowsInMemory_8 (⟨rfl, rfl, _, rfl, rfl, rfl⟩)

set_option maxRecDepth 100000 in
set_option maxHeartbeats 4000000 in
theorem c_X_transfers (l : Launch) (D : va_G) (ids : Nat → ClassId) (ad : Nat → Nat) (ms : ze_MS) (M : Nat) (T : Nat → ze_T) (hd : Nat → Bool) (mv : Int64)  : ze_MX l D ids ad ms y_X_transfers ws_X_transfers 1 (M, T, hd, mv) [.ref (ad 0)] (fun v x' => v = some (.long mv) ∧ x' = (M, T, hd, mv)) := by
  refine ze_enter (cc := b_X_transfers) (maxL := 1) (ret := (some .long)) (by decide +kernel) rfl (Nat.le_of_ble_eq_true rfl) ?_
  rintro G rfl rfl rfl - C Rt
  refine ze_lv (lv' := [(0, .ref (ad 0))]) rfl ?_
  refine ze_aload_n C d_X_transfers_0 0 rfl rfl ?_
  refine ze_getf C fl_X_46 (by decide) ze_E_x rfl d_X_transfers_1 ?_
  exact ze_lret C Rt d_X_transfers_4 (⟨rfl, rfl, _, rfl, rfl, rfl⟩)

set_option maxRecDepth 100000 in
set_option maxHeartbeats 4000000 in
theorem c_X_holdsTable (l : Launch) (D : va_G) (ids : Nat → ClassId) (ad : Nat → Nat) (ms : ze_MS) (M : Nat) (T : Nat → ze_T) (hd : Nat → Bool) (mv : Int64) (s : Int32) : ze_MX l D ids ad ms y_X_holdsTable ws_X_holdsTable 2 (M, T, hd, mv) [.ref (ad 0), .int s] (fun v x' => v = some (.int (ze_bi (ze_isS s && hd (ze_n s)))) ∧ x' = (M, T, hd, mv)) := by
  refine ze_enter (cc := b_X_holdsTable) (maxL := 2) (ret := (some .boolean)) (by decide +kernel) rfl (Nat.le_of_ble_eq_true rfl) ?_
  rintro G rfl rfl rfl - C Rt
  refine ze_lv (lv' := [(0, .ref (ad 0)), (1, .int s)]) rfl ?_
  refine ze_iload_n C d_X_holdsTable_0 1 rfl rfl ?_
  refine ze_callS (st := []) C (c_X_isSlot (ze_l G) (ze_D G) (ze_i G) _ _ _ s) (ks_X_57 (ze_rml (by decide) (by decide))) rfl (Nat.le_of_ble_eq_true rfl) ⟨Nat.le_of_ble_eq_true rfl, Nat.le_of_ble_eq_true rfl⟩ d_X_holdsTable_1 ?_
  rintro _ _ _ _ ⟨rfl, rfl, rfl, rfl⟩
  refine ze_norm (c2 := 0) (s2 := 0) (st' := [.int (ze_bi (ze_isS s))]) rfl rfl rfl ?_
  refine ze_if_eq 20 C d_X_holdsTable_4 (by decide) (fun h4 => ?_) (fun h4 => ?_)
  · refine ze_iconst (v := nI 0) C d_X_holdsTable_20 (by decide) ?_
    exact ze_zret C Rt (by decide) d_X_holdsTable_21 (⟨rfl, rfl, _, rfl, by rw [ze_bi0.mp h4]; rfl, rfl⟩)
  · obtain ⟨j, hj, rfl⟩ := ze_isS_nI (ze_bi1 h4)
    refine ze_aload_n C d_X_holdsTable_7 0 rfl rfl ?_
    refine ze_getf C fl_X_29 (by decide) ze_E_x rfl d_X_holdsTable_8 ?_
    refine ze_iload_n C d_X_holdsTable_11 1 rfl rfl ?_
    refine ze_zald (k := 2) (i := j) C (by decide) ze_E_held (by omega) (by decide) d_X_holdsTable_12 ?_
    refine ze_if_eq 20 C d_X_holdsTable_13 (by decide) (fun h13 => ?_) (fun h13 => ?_)
    · refine ze_iconst (v := nI 0) C d_X_holdsTable_20 (by decide) ?_
      exact ze_zret C Rt (by decide) d_X_holdsTable_21 (⟨rfl, rfl, _, rfl, by rw [ze_isS_j hj, ze_n_nI (by omega), ze_bi0.mp h13]; rfl, rfl⟩)
    · refine ze_iconst (v := nI 1) C d_X_holdsTable_16 (by decide) ?_
      refine ze_goto 21 C d_X_holdsTable_17 (by decide) ?_
      exact ze_zret C Rt (by decide) d_X_holdsTable_21 (⟨rfl, rfl, _, rfl, by rw [ze_isS_j hj, ze_n_nI (by omega), ze_bi1 h13]; rfl, rfl⟩)

set_option maxRecDepth 100000 in
set_option maxHeartbeats 4000000 in
theorem c_X_refusalOf (l : Launch) (D : va_G) (ids : Nat → ClassId) (ad : Nat → Nat) (ms : ze_MS) (M : Nat) (T : Nat → ze_T) (hd : Nat → Bool) (mv : Int64) (a b into : Int32) : ze_MX l D ids ad ms y_X_refusalOf ws_X_refusalOf 2 (M, T, hd, mv) [.ref (ad 0), .int a, .int b, .int into] (fun v x' => v = some (.int (ze_rf hd a b into)) ∧ x' = (M, T, hd, mv)) := by
  refine ze_enter (cc := b_X_refusalOf) (maxL := 4) (ret := (some .int)) (by decide +kernel) rfl (Nat.le_of_ble_eq_true rfl) ?_
  rintro G rfl rfl rfl - C Rt
  refine ze_lv (lv' := [(0, .ref (ad 0)), (1, .int a), (2, .int b), (3, .int into)]) rfl ?_
  refine ze_iload_n C d_X_refusalOf_0 1 rfl rfl ?_
  refine ze_callS (st := []) C (c_X_isSlot (ze_l G) (ze_D G) (ze_i G) _ _ _ a) (ks_X_57 (ze_rml (by decide) (by decide))) rfl (Nat.le_of_ble_eq_true rfl) ⟨Nat.le_of_ble_eq_true rfl, Nat.le_of_ble_eq_true rfl⟩ d_X_refusalOf_1 ?_
  rintro _ _ _ _ ⟨rfl, rfl, rfl, rfl⟩
  refine ze_norm (c2 := 0) (s2 := 0) (st' := [.int (ze_bi (ze_isS a))]) rfl rfl rfl ?_
  refine ze_if_eq 21 C d_X_refusalOf_4 (by decide) (fun h4 => ?_) (fun h4 => ?_)
  · refine ze_iconst (v := -1) C d_X_refusalOf_21 (by decide) ?_
    exact ze_iret C Rt d_X_refusalOf_22 (⟨rfl, rfl, _, rfl, by simp only [ze_rf, ze_bi0.mp h4]; rfl, rfl⟩)
  · obtain ⟨ja, hja, rfl⟩ := ze_isS_nI (ze_bi1 h4)
    refine ze_iload_n C d_X_refusalOf_7 2 rfl rfl ?_
    refine ze_callS (st := []) C (c_X_isSlot (ze_l G) (ze_D G) (ze_i G) _ _ _ b) (ks_X_57 (ze_rml (by decide) (by decide))) rfl (Nat.le_of_ble_eq_true rfl) ⟨Nat.le_of_ble_eq_true rfl, Nat.le_of_ble_eq_true rfl⟩ d_X_refusalOf_8 ?_
    rintro _ _ _ _ ⟨rfl, rfl, rfl, rfl⟩
    refine ze_norm (c2 := 0) (s2 := 0) (st' := [.int (ze_bi (ze_isS b))]) rfl rfl rfl ?_
    refine ze_if_eq 21 C d_X_refusalOf_11 (by decide) (fun h11 => ?_) (fun h11 => ?_)
    · refine ze_iconst (v := -1) C d_X_refusalOf_21 (by decide) ?_
      exact ze_iret C Rt d_X_refusalOf_22 (⟨rfl, rfl, _, rfl, by simp only [ze_rf, ze_bi0.mp h11, Bool.and_false, Bool.false_and]; rfl, rfl⟩)
    · obtain ⟨jb, hjb, rfl⟩ := ze_isS_nI (ze_bi1 h11)
      refine ze_iload_n C d_X_refusalOf_14 3 rfl rfl ?_
      refine ze_callS (st := []) C (c_X_isSlot (ze_l G) (ze_D G) (ze_i G) _ _ _ into) (ks_X_57 (ze_rml (by decide) (by decide))) rfl (Nat.le_of_ble_eq_true rfl) ⟨Nat.le_of_ble_eq_true rfl, Nat.le_of_ble_eq_true rfl⟩ d_X_refusalOf_15 ?_
      rintro _ _ _ _ ⟨rfl, rfl, rfl, rfl⟩
      refine ze_norm (c2 := 0) (s2 := 0) (st' := [.int (ze_bi (ze_isS into))]) rfl rfl rfl ?_
      refine ze_if_ne 23 C d_X_refusalOf_18 (by decide) (fun h18 => ?_) (fun h18 => ?_)
      · obtain ⟨ji, hji, rfl⟩ := ze_isS_nI (ze_bi1 h18)
        refine ze_aload_n C d_X_refusalOf_23 0 rfl rfl ?_
        refine ze_getf C fl_X_29 (by decide) ze_E_x rfl d_X_refusalOf_24 ?_
        refine ze_iload_n C d_X_refusalOf_27 1 rfl rfl ?_
        refine ze_zald (k := 2) (i := ja) C (by decide) ze_E_held (by omega) (by decide) d_X_refusalOf_28 ?_
        refine ze_if_eq 41 C d_X_refusalOf_29 (by decide) (fun h29 => ?_) (fun h29 => ?_)
        · refine ze_bipush (v := -2) C d_X_refusalOf_41 (by decide) ?_
          exact ze_iret C Rt d_X_refusalOf_43 (⟨rfl, rfl, _, rfl, by simp only [ze_rf, ze_isS_j hja, ze_isS_j hjb, ze_isS_j hji, ze_n_nI (Nat.lt_trans hja (by decide : 8 < 2 ^ 31)), ze_n_nI (Nat.lt_trans hjb (by decide : 8 < 2 ^ 31)), ze_n_nI (Nat.lt_trans hji (by decide : 8 < 2 ^ 31)), ze_bi0.mp h29, Bool.false_and]; rfl, rfl⟩)
        · refine ze_aload_n C d_X_refusalOf_32 0 rfl rfl ?_
          refine ze_getf C fl_X_29 (by decide) ze_E_x rfl d_X_refusalOf_33 ?_
          refine ze_iload_n C d_X_refusalOf_36 2 rfl rfl ?_
          refine ze_zald (k := 2) (i := jb) C (by decide) ze_E_held (by omega) (by decide) d_X_refusalOf_37 ?_
          refine ze_if_ne 44 C d_X_refusalOf_38 (by decide) (fun h38 => ?_) (fun h38 => ?_)
          · refine ze_aload_n C d_X_refusalOf_44 0 rfl rfl ?_
            refine ze_getf C fl_X_29 (by decide) ze_E_x rfl d_X_refusalOf_45 ?_
            refine ze_iload_n C d_X_refusalOf_48 3 rfl rfl ?_
            refine ze_zald (k := 2) (i := ji) C (by decide) ze_E_held (by omega) (by decide) d_X_refusalOf_49 ?_
            refine ze_if_eq 56 C d_X_refusalOf_50 (by decide) (fun h50 => ?_) (fun h50 => ?_)
            · refine ze_iconst (v := nI 0) C d_X_refusalOf_56 (by decide) ?_
              exact ze_iret C Rt d_X_refusalOf_57 (⟨rfl, rfl, _, rfl, by simp only [ze_rf, ze_isS_j hja, ze_isS_j hjb, ze_isS_j hji, ze_n_nI (Nat.lt_trans hja (by decide : 8 < 2 ^ 31)), ze_n_nI (Nat.lt_trans hjb (by decide : 8 < 2 ^ 31)), ze_n_nI (Nat.lt_trans hji (by decide : 8 < 2 ^ 31)), ze_bi1 h29, ze_bi1 h38, ze_bi0.mp h50]; rfl, rfl⟩)
            · refine ze_bipush (v := -3) C d_X_refusalOf_53 (by decide) ?_
              exact ze_iret C Rt d_X_refusalOf_55 (⟨rfl, rfl, _, rfl, by simp only [ze_rf, ze_isS_j hja, ze_isS_j hjb, ze_isS_j hji, ze_n_nI (Nat.lt_trans hja (by decide : 8 < 2 ^ 31)), ze_n_nI (Nat.lt_trans hjb (by decide : 8 < 2 ^ 31)), ze_n_nI (Nat.lt_trans hji (by decide : 8 < 2 ^ 31)), ze_bi1 h29, ze_bi1 h38, ze_bi1 h50]; rfl, rfl⟩)
          · refine ze_bipush (v := -2) C d_X_refusalOf_41 (by decide) ?_
            exact ze_iret C Rt d_X_refusalOf_43 (⟨rfl, rfl, _, rfl, by simp only [ze_rf, ze_isS_j hja, ze_isS_j hjb, ze_isS_j hji, ze_n_nI (Nat.lt_trans hja (by decide : 8 < 2 ^ 31)), ze_n_nI (Nat.lt_trans hjb (by decide : 8 < 2 ^ 31)), ze_n_nI (Nat.lt_trans hji (by decide : 8 < 2 ^ 31)), ze_bi0.mp h38, Bool.and_false]; rfl, rfl⟩)
      · refine ze_iconst (v := -1) C d_X_refusalOf_21 (by decide) ?_
        exact ze_iret C Rt d_X_refusalOf_22 (⟨rfl, rfl, _, rfl, by simp only [ze_rf, ze_bi0.mp h18, Bool.and_false]; rfl, rfl⟩)

set_option maxRecDepth 100000 in
set_option maxHeartbeats 4000000 in
theorem c_X_finish (l : Launch) (D : va_G) (ids : Nat → ClassId) (ad : Nat → Nat) (ms : ze_MS) (M : Nat) (T : Nat → ze_T) (hd : Nat → Bool) (mv : Int64) (j : Nat) (hj : j < 8) (cost : Int64) : ze_MX l D ids ad ms y_X_finish ws_X_finish 1 (M, T, hd, mv) [.ref (ad 0), .int (nI j), .long cost] (fun v x' => if (T j).2.2.2 = true then v = some (.int (-4)) ∧ x' = (M, T, hd, mv) else v = some (.int (nI (T j).2.2.1)) ∧ x' = (M, T, va_up hd j true, mv + cost)) := by
  refine ze_enter (cc := b_X_finish) (maxL := 5) (ret := (some .int)) (by decide +kernel) rfl (Nat.le_of_ble_eq_true rfl) ?_
  rintro G rfl rfl rfl - C Rt
  refine ze_lv (lv' := [(0, .ref (ad 0)), (1, .int (nI j)), (2, .long cost)]) rfl ?_
  refine ze_aload_n C d_X_finish_0 0 rfl rfl ?_
  refine ze_getf C fl_X_24 (by decide) ze_E_x rfl d_X_finish_1 ?_
  refine ze_iload_n C d_X_finish_4 1 rfl rfl ?_
  refine ze_aald (k := 1) (i := j) C (by decide) ze_E_tabs (by omega) (by decide) rfl d_X_finish_5 ?_
  refine ze_astore (lv' := [(4, .ref (ad (3 + 3 * j))), (0, .ref (ad 0)), (1, .int (nI j)), (2, .long cost)]) C d_X_finish_6 (by decide) rfl ?_
  refine ze_aload C d_X_finish_8 0 rfl ?_
  refine ze_getf (k := 3 + 3 * j) C fl_X_117 (by omega) (ze_E_t (i := j) (by omega)) rfl d_X_finish_10 ?_
  refine ze_if_eq 19 C d_X_finish_13 (by decide) (fun h13 => ?_) (fun h13 => ?_)
  · refine ze_aload_n C d_X_finish_19 1 rfl rfl ?_
    refine ze_getf C fl_X_29 (by decide) ze_E_x rfl d_X_finish_20 ?_
    refine ze_iload_n C d_X_finish_23 2 rfl rfl ?_
    refine ze_iconst (v := ze_bi true) C d_X_finish_24 (by decide) ?_
    refine ze_zast (k := 2) (i := j) C (by decide) ze_E_held (by omega) (by decide) (by decide) d_X_finish_25 ?_
    refine ze_eqE (ze_up_held (hd' := va_up hd j true) ze_hd_up) ?_
    refine ze_aload_n C d_X_finish_26 1 rfl rfl ?_
    refine ze_dup C d_X_finish_27 rfl ?_
    refine ze_getf C fl_X_46 (by decide) ze_E_x rfl d_X_finish_28 ?_
    refine ze_lload_n C d_X_finish_31 3 rfl rfl ?_
    refine ze_ladd C d_X_finish_32 ?_
    refine ze_putf C fp_X_46 (by decide) ze_E_x rfl rfl (Nat.le_of_ble_eq_true rfl) d_X_finish_33 ?_
    refine ze_eqE ze_up_mv ?_
    refine ze_aload C d_X_finish_36 0 rfl ?_
    refine ze_getf (k := 3 + 3 * j) C fl_X_50 (by omega) (ze_E_t (i := j) (by omega)) rfl d_X_finish_38 ?_
    exact ze_iret C Rt d_X_finish_41 (⟨rfl, rfl, _, rfl, by dsimp only; rw [if_neg (by rw [ze_bi0.mp h13]; decide)]; exact ⟨rfl, rfl⟩⟩)
  · refine ze_bipush (v := -4) C d_X_finish_16 (by decide) ?_
    exact ze_iret C Rt d_X_finish_18 (⟨rfl, rfl, _, rfl, by dsimp only; rw [if_pos (ze_bi1 h13)]; exact ⟨rfl, rfl⟩⟩)

set_option maxRecDepth 100000 in
set_option maxHeartbeats 4000000 in
theorem c_X_sortCost (l : Launch) (D : va_G) (ids : Nat → ClassId) (ad : Nat → Nat) (ms : ze_MS) (M : Nat) (T : Nat → ze_T) (hd : Nat → Bool) (mv : Int64) (hM : 3 ≤ M ∧ M ≤ 6) (a : Nat) (ha : a ≤ 60) : ze_MX l D ids ad ms y_X_sortCost ws_X_sortCost 3 (M, T, hd, mv) [.ref (ad 0), .int (nI a)] (fun v x' => v = some (.long (lN (ze_sc M a))) ∧ x' = (M, T, hd, mv)) := by
  refine ze_enter (cc := b_X_sortCost) (maxL := 5) (ret := (some .long)) (by decide +kernel) rfl (Nat.le_of_ble_eq_true rfl) ?_
  rintro G rfl rfl rfl - C Rt
  refine ze_lv (lv' := [(0, .ref (ad 0)), (1, .int (nI a))]) rfl ?_
  have hsz : ze_sz a ≤ 60 := by unfold ze_sz; omega
  have loop : ∀ (r k q : Nat), 60 - k = r → k ≤ 60 → q ≤ 100 → k + ze_ps M (60 - k) q = ze_ps M 60 ((ze_sz a + M - 1) / M) → ze_V G 48 ad (ze_E (ze_i G) ad (M, T, hd, mv) ms) 0 0 17 [(4, .int (nI k)), (3, .int (nI q)), (2, .int (nI (ze_sz a))), (0, .ref (ad 0)), (1, .int (nI a))] [] := by
    intro r
    induction r using Nat.strongRecOn with
    | ind r ih =>
      intro k q hr h1 h2 h3
      refine ze_iload_n C d_X_sortCost_17 1 rfl rfl ?_
      refine ze_iconst (v := nI 1) C d_X_sortCost_18 (by decide) ?_
      refine ze_icmp_leN 46 C d_X_sortCost_19 (by decide) (by omega) (by omega) (fun h19 => ?_) (fun h19 => ?_)
      · refine ze_ldc2 (v := lN 2) C d_X_sortCost_46 (List.mem_cons_of_mem _ zw_154) ?_
        refine ze_iload_n C d_X_sortCost_49 2 rfl rfl ?_
        refine ze_i2lN C d_X_sortCost_50 (by omega) ?_
        refine ze_lmulN C d_X_sortCost_51 ?_
        refine ze_iconst (v := nI 1) C d_X_sortCost_52 (by decide) ?_
        refine ze_iload C d_X_sortCost_53 0 rfl ?_
        refine ze_iaddN C d_X_sortCost_55 ?_
        refine ze_i2lN C d_X_sortCost_56 (by omega) ?_
        refine ze_lmulN C d_X_sortCost_57 ?_
        exact ze_lret C Rt d_X_sortCost_58 (⟨rfl, rfl, _, rfl, by unfold ze_sc; cases hk : 60 - k with | zero => rw [hk, ze_ps] at h3; rw [← h3]; rfl | succ m => rw [hk, ze_ps, if_neg (by omega)] at h3; rw [← h3]; rfl, rfl⟩)
      · refine ze_iload C d_X_sortCost_22 0 rfl ?_
        refine ze_bipush (v := nI 60) C d_X_sortCost_24 (by decide) ?_
        refine ze_icmp_geN 46 C d_X_sortCost_26 (by decide) (by omega) (by omega) (fun h26 => ?_) (fun h26 => ?_)
        · refine ze_ldc2 (v := lN 2) C d_X_sortCost_46 (List.mem_cons_of_mem _ zw_154) ?_
          refine ze_iload_n C d_X_sortCost_49 2 rfl rfl ?_
          refine ze_i2lN C d_X_sortCost_50 (by omega) ?_
          refine ze_lmulN C d_X_sortCost_51 ?_
          refine ze_iconst (v := nI 1) C d_X_sortCost_52 (by decide) ?_
          refine ze_iload C d_X_sortCost_53 0 rfl ?_
          refine ze_iaddN C d_X_sortCost_55 ?_
          refine ze_i2lN C d_X_sortCost_56 (by omega) ?_
          refine ze_lmulN C d_X_sortCost_57 ?_
          exact ze_lret C Rt d_X_sortCost_58 (⟨rfl, rfl, _, rfl, by unfold ze_sc; rw [show 60 - k = 0 by omega, ze_ps] at h3; rw [← h3]; rfl, rfl⟩)
        · refine ze_iload_n C d_X_sortCost_29 1 rfl rfl ?_
          refine ze_aload_n C d_X_sortCost_30 3 rfl rfl ?_
          refine ze_getf C fl_X_18 (by decide) ze_E_x rfl d_X_sortCost_31 ?_
          refine ze_iconst (v := nI 1) C d_X_sortCost_34 (by decide) ?_
          refine ze_isubN C d_X_sortCost_35 (by omega) ?_
          refine ze_callS (st := []) C (c_X_dividedUp (ze_l G) (ze_D G) (ze_i G) _ _ _ q (M - 1) (by omega) (by omega) (by omega)) (ks_X_121 (ze_rml (by decide) (by decide))) rfl (Nat.le_of_ble_eq_true rfl) ⟨Nat.le_of_ble_eq_true rfl, Nat.le_of_ble_eq_true rfl⟩ d_X_sortCost_36 ?_
          rintro _ _ _ _ ⟨rfl, rfl, rfl, rfl⟩
          refine ze_norm (c2 := 0) (s2 := 0) (st' := [.int (nI ((q + (M - 1) - 1) / (M - 1)))]) rfl rfl rfl ?_
          refine ze_istore_n (lv' := [(3, .int (nI ((q + (M - 1) - 1) / (M - 1)))), (4, .int (nI k)), (2, .int (nI (ze_sz a))), (0, .ref (ad 0)), (1, .int (nI a))]) C d_X_sortCost_39 rfl (by decide) rfl ?_
          refine ze_iinc (j := 1) (v := nI (k + 1)) (lv' := [(4, .int (nI (k + 1))), (3, .int (nI ((q + (M - 1) - 1) / (M - 1)))), (2, .int (nI (ze_sz a))), (0, .ref (ad 0)), (1, .int (nI a))]) C d_X_sortCost_40 rfl (nI_1 _) (by decide) rfl ?_
          refine ze_goto 17 C d_X_sortCost_43 (by decide) ?_
          refine ze_sub [(4, .int (nI (k + 1))), (3, .int (nI ((q + (M - 1) - 1) / (M - 1)))), (2, .int (nI (ze_sz a))), (0, .ref (ad 0)), (1, .int (nI a))] [0, 1, 2, 3, 4] rfl ?_
          have hd1 : (q + (M - 1) - 1) / (M - 1) ≤ 100 := by
            have := Nat.div_le_self (q + (M - 1) - 1) (M - 1)
            have h2 : (q + (M - 1) - 1) / (M - 1) ≤ (q + (M - 1) - 1) / 2 := Nat.div_le_div_left (by omega) (by omega)
            omega
          refine ih (60 - (k + 1)) (by omega) (k + 1) _ rfl (by omega) hd1 ?_
          rw [← h3, show 60 - k = (60 - (k + 1)) + 1 by omega]
          rw [ze_ps, if_pos h19]
          omega
  refine ze_iload_n C d_X_sortCost_0 1 rfl rfl ?_
  refine ze_callS (st := []) C (c_X_sizeOf (ze_l G) (ze_D G) (ze_i G) _ _ _ a (by omega)) (ks_X_68 (ze_rml (by decide) (by decide))) rfl (Nat.le_of_ble_eq_true rfl) ⟨Nat.le_of_ble_eq_true rfl, Nat.le_of_ble_eq_true rfl⟩ d_X_sortCost_1 ?_
  rintro _ _ _ _ ⟨rfl, rfl, rfl, rfl⟩
  refine ze_norm (c2 := 0) (s2 := 0) (st' := [.int (nI (ze_sz a))]) rfl rfl rfl ?_
  refine ze_istore_n (lv' := [(2, .int (nI (ze_sz a))), (0, .ref (ad 0)), (1, .int (nI a))]) C d_X_sortCost_4 rfl (by decide) rfl ?_
  refine ze_iload_n C d_X_sortCost_5 0 rfl rfl ?_
  refine ze_aload_n C d_X_sortCost_6 1 rfl rfl ?_
  refine ze_getf C fl_X_18 (by decide) ze_E_x rfl d_X_sortCost_7 ?_
  refine ze_callS (st := []) C (c_X_dividedUp (ze_l G) (ze_D G) (ze_i G) _ _ _ (ze_sz a) M (by omega) (by omega) (by omega)) (ks_X_121 (ze_rml (by decide) (by decide))) rfl (Nat.le_of_ble_eq_true rfl) ⟨Nat.le_of_ble_eq_true rfl, Nat.le_of_ble_eq_true rfl⟩ d_X_sortCost_10 ?_
  rintro _ _ _ _ ⟨rfl, rfl, rfl, rfl⟩
  refine ze_norm (c2 := 0) (s2 := 0) (st' := [.int (nI ((ze_sz a + M - 1) / M))]) rfl rfl rfl ?_
  refine ze_istore_n (lv' := [(3, .int (nI ((ze_sz a + M - 1) / M))), (2, .int (nI (ze_sz a))), (0, .ref (ad 0)), (1, .int (nI a))]) C d_X_sortCost_13 rfl (by decide) rfl ?_
  refine ze_iconst (v := nI 0) C d_X_sortCost_14 (by decide) ?_
  refine ze_istore (lv' := [(4, .int (nI 0)), (3, .int (nI ((ze_sz a + M - 1) / M))), (2, .int (nI (ze_sz a))), (0, .ref (ad 0)), (1, .int (nI a))]) C d_X_sortCost_15 (by decide) rfl ?_
  have hq : (ze_sz a + M - 1) / M ≤ 100 := by have := Nat.div_le_self (ze_sz a + M - 1) M; omega
  exact loop _ 0 _ rfl (Nat.zero_le _) hq (Nat.zero_add _)
