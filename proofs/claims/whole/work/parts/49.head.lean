theorem ze_out {G : ze_G} {n : Nat} {ad : Nat → Nat} {E : Nat → va_E} {cells slots pc : Nat} {lv : List (Nat × Value)} {st : List Value} {p : Nat} {cl : Cell} (F : ze_fz G p cl) (kk : (∀ k, k < n → p ≠ ad k) → ze_V G n ad E cells slots pc lv st) : ze_V G n ad E cells slots pc lv st := fun H locs ls hP hD hS hl => kk (fun k hk e => F.2.1 (e ▸ hD.2 k _ (ze_w_get hk))) H locs ls hP hD hS hl

set_option maxRecDepth 100000 in
set_option maxHeartbeats 4000000 in
theorem ze_law_head {G : ze_G} {c0 : Cond} (C : ze_C G b_L_law (c0 :: ze_B) R_L room_1 4) {p : Nat} {cl : Cell} {f : Nat → Int32} (F : ze_fz G p cl) (hf : ze_nums cl f) (hsz : cl.slots.size < 100000) (hend : ∀ (d : Nat → Nat) (e : Nat → va_E) (lv : List (Nat × Value)), ze_V G 48 d e 48 2737 571 lv []) (ad : Nat → Nat) (E : Nat → va_E) : ze_V G 0 ad E 0 0 0 [(0, .ref p)] [] := by
  refine ze_new (fs := [.int 0, .null, .null, .null, .null, .null, .null, .long 0]) C fn_L_7 (Nat.le_of_ble_eq_true rfl) (Nat.le_of_ble_eq_true rfl) d_L_law_0 (fun d0 h0 => ?_)
  refine ze_dup C d_L_law_3 rfl ?_
  refine ze_aload_n C d_L_law_4 0 rfl rfl ?_
  refine ze_iconst (v := nI 0) C d_L_law_5 (by decide) ?_
  refine ze_out F (fun o0 => ?_)
  refine ze_callSs (st := [.ref (d0 0), .ref (d0 0)]) C F (c_L_cell (ze_l G) (ze_D G) (ze_i G) _ _ _ p cl f hf o0 0 (by decide)) (ks_L_9 ⟨by decide, by decide⟩) rfl (Nat.le_of_ble_eq_true rfl) ⟨Nat.le_of_ble_eq_true rfl, Nat.le_of_ble_eq_true rfl⟩ d_L_law_6 ?_
  rintro _ _ _ _ ⟨rfl, rfl, rfl, rfl⟩
  refine ze_norm (c2 := 1) (s2 := 8) (st' := [.int (ze_at cl f 0), .ref (d0 0), .ref (d0 0)]) rfl rfl rfl ?_
  refine ze_callI (k := 0) (As := [.int (ze_at cl f 0)]) (st := [.ref (d0 0)]) C (c_X_init (ze_l G) (ze_D G) (ze_i G) d0 _ (va_up_self _ _ _) (ze_at cl f 0)) (ki_L_15 ⟨by decide, by decide⟩) rfl (Nat.le_of_ble_eq_true rfl) ⟨Nat.le_of_ble_eq_true rfl, Nat.le_of_ble_eq_true rfl⟩ d_L_law_9 ?_
  rintro _ _ d1 e1 ⟨rfl, rfl, h1, x1⟩
  rw [← h1]
  refine ze_norm (c2 := 39) (s2 := 1512) (st' := [.ref (d1 0)]) rfl rfl rfl ?_
  refine ze_astore_n (lv' := [(1, .ref (d1 0)), (0, .ref p)]) C d_L_law_12 rfl (by decide) rfl ?_
  refine ze_new (fs := ze_mf d1 0 0) C fn_L_18 (Nat.le_of_ble_eq_true rfl) (Nat.le_of_ble_eq_true rfl) d_L_law_13 (fun d2 h2 => ?_)
  rw [← h2 0 (by decide)]
  refine ze_dup C d_L_law_16 rfl ?_
  refine ze_aload_n C d_L_law_17 1 rfl rfl ?_
  refine ze_iconst (v := nI 0) C d_L_law_18 (by decide) ?_
  refine ze_out F (fun o1 => ?_)
  refine ze_callSs (st := [.ref (d2 39), .ref (d2 39)]) C F (c_L_cell (ze_l G) (ze_D G) (ze_i G) _ _ _ p cl f hf o1 0 (by decide)) (ks_L_9 ⟨by decide, by decide⟩) rfl (Nat.le_of_ble_eq_true rfl) ⟨Nat.le_of_ble_eq_true rfl, Nat.le_of_ble_eq_true rfl⟩ d_L_law_19 ?_
  rintro _ _ _ _ ⟨rfl, rfl, rfl, rfl⟩
  refine ze_norm (c2 := 40) (s2 := 1526) (st' := [.int (ze_at cl f 0), .ref (d2 39), .ref (d2 39)]) rfl rfl rfl ?_
  refine ze_callI (k := 39) (As := [.int (ze_at cl f 0)]) (st := [.ref (d2 39)]) C (c_M_init (ze_l G) (ze_D G) (ze_i G) d2 _ (va_up_self _ _ _) (ze_at cl f 0)) (ki_L_20 ⟨by decide, by decide⟩) rfl (Nat.le_of_ble_eq_true rfl) ⟨Nat.le_of_ble_eq_true rfl, Nat.le_of_ble_eq_true rfl⟩ d_L_law_22 ?_
  rintro _ _ d3 e3 ⟨rfl, rfl, h3, m3⟩
  rw [← h3 39 (by decide), ← h3 0 (by decide)]
  refine ze_norm (c2 := 48) (s2 := 2737) (st' := [.ref (d3 39)]) rfl rfl rfl ?_
  refine ze_astore_n (lv' := [(2, .ref (d3 39)), (1, .ref (d3 0)), (0, .ref p)]) C d_L_law_25 rfl (by decide) rfl ?_
  refine ze_iconst (v := nI 1) C d_L_law_26 (by decide) ?_
  refine ze_istore_n (lv' := [(3, .int (nI 1)), (2, .ref (d3 39)), (1, .ref (d3 0)), (0, .ref p)]) C d_L_law_27 rfl (by decide) rfl ?_
  have hM := ze_cm_in (ze_at cl f 0)
  have y1 : ∀ k, k < 39 → va_up e1 39 (.inr (ze_kM, ze_mf d1 0 0)) k = ze_EX (ze_i G) d1 (ze_x0 (ze_cm (ze_at cl f 0))) k := fun k hk => (va_up_ne _ _ (by omega)).trans (x1 k hk)
  refine ze_eqQ (k := 1) (g := fun j => some (d3 (3 + 3 * j))) (by decide) ((m3.1 1 (by decide)).trans (y1 1 (by decide))) (fun j hj => by rw [h3 _ (by omega), h2 _ (by omega)]) ?_
  refine ze_eqW (fun k hk => ⟨rfl, ze_start_E y1 (fun k hk => (h3 k (by omega)).trans (h2 k hk)) m3 k hk⟩) ?_
  exact ze_law_loop C F hf hsz d3 (hend d3) _ 1 _ _ _ rfl (by decide) (by omega) (ze_start_X hM) (ze_start_M hM)
