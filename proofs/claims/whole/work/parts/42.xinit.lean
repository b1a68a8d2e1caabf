section ZEJ
variable {G : ze_G} {n : Nat} {ad : Nat → Nat} {E : Nat → va_E} {cells slots pc : Nat} {lv : List (Nat × Value)} {st : List Value}
/-- the cells of a world in another order -/
theorem ze_perm (π : Nat → Nat) (h1 : ∀ k, k < n → π k < n) (h2 : ∀ i, i < n → ∀ j, j < n → π i = π j → i = j) (k : ze_V G n (fun q => ad (π q)) (fun q => E (π q)) cells slots pc lv st) : ze_V G n ad E cells slots pc lv st := by
  intro H locs ls hP hD hS hl
  refine k H locs ls (fun j q hq => ?_) ⟨fun i j p q hp hq e => ?_, fun j q hq => ?_⟩ hS hl
  · obtain ⟨hj, rfl⟩ := ze_w_inv hq
    exact hP (π j) _ (ze_w_get (h1 j hj))
  · obtain ⟨hi, rfl⟩ := ze_w_inv hp
    obtain ⟨hj, rfl⟩ := ze_w_inv hq
    exact h2 i hi j hj (hD.1 (π i) (π j) _ _ (ze_w_get (h1 i hi)) (ze_w_get (h1 j hj)) e)
  · obtain ⟨hj, rfl⟩ := ze_w_inv hq
    exact hD.2 (π j) _ (ze_w_get (h1 j hj))
end ZEJ
abbrev ze_tf : List Value := [.null, .null, .int 0, .int 0]
theorem fn_X_22 {c0 : Cond} : ze_Fn (c0 :: ze_B) R_X 22 ze_kT ze_tf := ⟨R_T, F_T, 4, zt_T, rfl, fun w h => List.mem_cons_of_mem _ (in_T w h), zt_T_ok, List.mem_cons_of_mem _ zw_21, List.mem_cons_of_mem _ zw_23, List.mem_cons_of_mem _ zw_3, by decide, rfl⟩
section ZEK
variable {G : ze_G} {n : Nat} {d : Nat → Nat} {e : Nat → va_E} {cells slots pc : Nat} {lv : List (Nat × Value)} {st : List Value} {c0 : Cond} {cc : ByteArray}
/-- a new table -/
theorem ze_newT (C : ze_C G cc (c0 :: ze_B) R_X (ze_ro 2 38 1504) 3) (k1 : decode cc pc = .ok (.new 22, 3)) (k2 : decode cc (pc + 3) = .ok (.dup, 1)) (k3 : decode cc (pc + 4) = .ok (.invokespecial 28, 3)) (hc : cells + 3 ≤ 38) (hs : slots + 124 ≤ 1504) (hst : (st.map fun v => v.category).sum ≤ 7)
    (kk : ∀ (d' : Nat → Nat) (e' : Nat → va_E), (∀ k, k < n → d' k = d k) → (∀ k, k < n → e' k = e k) → e' n = .inr (ze_kT, [.ref (d' (n + 1)), .ref (d' (n + 2)), .int 0, .int 0]) → e' (n + 1) = ze_z (ze_i G) 60 → e' (n + 2) = ze_z (ze_i G) 60 → ze_V G (n + 3) d' e' (cells + 3) (slots + 124) (pc + 7) lv (.ref (d' n) :: st)) : ze_V G n d e cells slots pc lv st := by
  refine ze_new (fs := ze_tf) C fn_X_22 (by show cells + 1 ≤ 38; omega) (by show slots + 4 ≤ 1504; omega) k1 (fun d1 h1 => ?_)
  refine ze_dup C k2 rfl ?_
  refine ze_callIN (k := n) (As := []) (st := .ref (d1 n) :: st) C C.N.1 (c_T_init (ze_l G) (ze_D G) (ze_i G) (n + 1) d1 (va_up e n (.inr (ze_kT, ze_tf))) n (by omega) (va_up_self _ _ _)) (kj_X_28 ⟨by decide, by decide⟩) rfl (by rw [List.map_cons, List.sum_cons]; show 1 + _ ≤ 8; omega) ⟨by show cells + 1 + 2 ≤ 38; omega, by show slots + 4 + 120 ≤ 1504; omega⟩ k3 ?_
  rintro _ _ d2 _ ⟨rfl, rfl, h2, rfl⟩
  rw [← h2 n (by omega)]
  refine kk d2 _ (fun k hk => (h2 k (by omega)).trans (h1 k hk)) (fun k hk => ?_) (va_up_self _ _ _) ?_ ?_
  · rw [va_up_ne _ _ (by omega), va_up_ne _ _ (by omega), va_up_ne _ _ (by omega), va_up_ne _ _ (by omega)]
  · rw [va_up_ne _ _ (by omega), va_up_ne _ _ (by omega), va_up_self]
  · rw [va_up_ne _ _ (by omega), va_up_self]
end ZEK
