/-! THE CONSTRUCTORS: the world grows -/
def ze_ro (k c s : Nat) : Room := { frames := k, cells := c, slots := s, locals := 64 * k }
/-- a new array of numbers -/
abbrev ze_z (ids : Nat → ClassId) (len : Nat) : va_E := .inl (ids 0, len, .inl (fun _ => 0))
def ze_pT (ids : Nat → ClassId) (n k : Nat) (ad : Nat → Nat) (E : Nat → va_E) : ze_Po := fun v n' ad' E' => v = none ∧ n' = n + 2 ∧ (∀ j, j < n → ad' j = ad j) ∧ E' = va_up (va_up (va_up E n (ze_z ids 60)) (n + 1) (ze_z ids 60)) k (.inr (ze_kT, [.ref (ad' n), .ref (ad' (n + 1)), .int 0, .int 0]))
theorem ze_up4 {E : Nat → va_E} {n m k : Nat} {a b c d : va_E} (h : k ≠ m) : va_up (va_up (va_up (va_up E n a) k b) m c) k d = va_up (va_up (va_up E n a) m c) k d := by
  funext j
  by_cases h1 : j = k
  · subst h1; rw [va_up_self, va_up_self]
  · rw [va_up_ne _ _ h1, va_up_ne _ _ h1]
    by_cases h2 : j = m
    · subst h2; rw [va_up_self, va_up_self]
    · rw [va_up_ne _ _ h2, va_up_ne _ _ h2, va_up_ne _ _ h1]

set_option maxRecDepth 100000 in
set_option maxHeartbeats 4000000 in
theorem c_T_init (l : Launch) (D : va_G) (ids : Nat → ClassId) (n : Nat) (ad : Nat → Nat) (E : Nat → va_E) (k : Nat) (hk : k < n) (hE : E k = .inr (ze_kT, [.null, .null, .int 0, .int 0])) : ze_M l D ids y_T_init ws_T_init (ze_ro 1 2 120) 2 120 n ad E [.ref (ad k)] (ze_pT ids n k ad E) := by
  refine ze_enter (cc := b_T_init) (maxL := 1) (ret := none) (by decide +kernel) rfl (Nat.le_of_ble_eq_true rfl) ?_
  rintro G rfl rfl rfl hn C Rt
  refine ze_lv (lv' := [(0, .ref (ad k))]) rfl ?_
  refine ze_aload_n C d_T_init_0 0 rfl rfl ?_
  refine ze_objInit (st := []) C (List.mem_cons_of_mem _ zw_27) (List.mem_cons_of_mem _ zw_13) (List.mem_cons_of_mem _ zw_14) (Nat.le_of_ble_eq_true rfl) (Nat.le_of_ble_eq_true rfl) d_T_init_1 ?_
  refine ze_aload_n C d_T_init_4 0 rfl rfl ?_
  refine ze_bipush (v := nI 60) C d_T_init_5 (by decide) ?_
  refine ze_newi (len := 60) C (List.mem_cons_of_mem _ zw_45) (by decide) (Nat.le_of_ble_eq_true rfl) (Nat.le_of_ble_eq_true rfl) d_T_init_7 (fun ad1 h1 => ?_)
  rw [← h1 k hk]
  refine ze_putF (k := k) C fp_T_9 hn (by omega) ((va_up_ne _ _ (by omega)).trans hE) rfl rfl (Nat.le_of_ble_eq_true rfl) d_T_init_9 ?_
  refine ze_aload_n C d_T_init_12 0 rfl rfl ?_
  refine ze_bipush (v := nI 60) C d_T_init_13 (by decide) ?_
  refine ze_newi (len := 60) C (List.mem_cons_of_mem _ zw_45) (by decide) (Nat.le_of_ble_eq_true rfl) (Nat.le_of_ble_eq_true rfl) d_T_init_15 (fun ad2 h2 => ?_)
  rw [← h2 k (by omega), ← h2 n (by omega)]
  refine ze_putF (k := k) C fp_T_15 hn (by omega) ((va_up_ne _ _ (by omega)).trans (va_up_self _ _ _)) rfl rfl (Nat.le_of_ble_eq_true rfl) d_T_init_17 ?_
  exact ze_vret C Rt d_T_init_20 ⟨rfl, rfl, fun j hj => (h2 j (by omega)).trans (h1 j hj), ze_up4 (by omega)⟩
