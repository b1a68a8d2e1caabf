theorem fn_L_7 {c0 : Cond} : ze_Fn (c0 :: ze_B) R_L 7 ze_kX [.int 0, .null, .null, .null, .null, .null, .null, .long 0] := ⟨R_X, F_X, 8, zt_X, rfl, fun w h => List.mem_cons_of_mem _ (in_X w h), zt_X_ok, List.mem_cons_of_mem _ zw_7, List.mem_cons_of_mem _ zw_8, List.mem_cons_of_mem _ zw_1, by decide, rfl⟩
theorem fn_L_18 {c0 : Cond} {d : Nat → Nat} : ze_Fn (c0 :: ze_B) R_L 18 ze_kM (ze_mf d 0 0) := ⟨R_M, F_M, 14, zt_M, rfl, fun w h => List.mem_cons_of_mem _ (in_M w h), zt_M_ok, List.mem_cons_of_mem _ zw_246, List.mem_cons_of_mem _ zw_247, List.mem_cons_of_mem _ zw_4, by
  have e : ze_mf d 0 0 = [.int 0, .long 0, .int 0, .null, .null, .null, .null, .null, .int 0, .null, .null, .long 0, .int 0, .null] := rfl
  rw [e]
  decide, rfl⟩
/-- a new reference -/
def ze_m0 (M : Nat) : ze_MS := (M, 0, 0, 0, 0, 0, ze_Aj 8)
theorem ze_ct_eq {ids : Nat → ClassId} {d d1 : Nat → Nat} {i r : Nat} {t : ze_T} (hd : ∀ k, k < 39 → d1 k = d k) (hi : i < 12) : ze_ct ids d i t r = ze_ct ids d1 i t r := by
  unfold ze_ct
  rw [hd (4 + 3 * i) (by omega), hd (5 + 3 * i) (by omega)]
theorem ze_start_E {ids : Nat → ClassId} {d d1 : Nat → Nat} {e e1 : Nat → va_E} {M : Nat} (hx : ∀ k, k < 39 → e k = ze_EX ids d (ze_x0 M) k) (hd : ∀ k, k < 39 → d1 k = d k) (hm : ze_Mj ids e d1 (nI M) 8 e1) : ∀ k, k < 48 → va_up e1 1 (.inl (ids 2, 8, .inr (.inr (.inr (.inr (fun j => some (d1 (3 + 3 * j)))))))) k = ze_E ids d1 (ze_x0 M) (ze_m0 M) k := by
  intro k hk
  by_cases h1 : k = 1
  · subst h1; exact va_up_self _ _ _
  rw [va_up_ne _ _ h1]
  by_cases h : k < 39
  · rw [hm.1 k h, hx k h]
    show _ = if k < 39 then _ else _
    rw [if_pos h]
    by_cases h3 : k < 3
    · have : k = 0 ∨ k = 2 := by omega
      rcases this with rfl | rfl
      · show Sum.inr _ = Sum.inr _
        rw [hd 1 (by decide), hd 2 (by decide), hd 27 (by decide), hd 30 (by decide), hd 33 (by decide), hd 36 (by decide)]
      · rfl
    · unfold ze_EX
      rw [if_neg (by omega), if_neg (by omega), if_neg (by omega), if_neg (by omega), if_neg (by omega), if_neg (by omega)]
      exact ze_ct_eq hd (by omega)
  · by_cases h9 : k = 39
    · subst h9
      exact hm.2.1
    · have := hm.2.2 (k - 40) (by omega)
      rw [show 40 + (k - 40) = k by omega] at this
      rw [this]
      show _ = if k < 39 then _ else _
      rw [if_neg h]
      unfold ze_EM
      rw [if_neg h9]
      rfl
theorem ze_start_X {M : Nat} (h : 3 ≤ M ∧ M ≤ 6) : ze_rX (ze_x0 M) ([], fun _ => none, 0, M) := ⟨rfl, h.1, h.2, rfl, ⟨rfl, Nat.zero_le _, fun p r hp => by simp at hp⟩, fun _ _ _ => rfl, fun j hj L hL => by cases hL⟩
theorem ze_start_M {M : Nat} (h : 3 ≤ M ∧ M ≤ 6) : ze_rM (ze_m0 M) ([], fun _ => none, 0, M) := by
  refine ⟨0, 0, 0, ze_Aj 8, rfl, ⟨Nat.zero_le _, fun p r hp => by simp at hp, fun j hj _ => ?_, fun j hj L hL => by cases hL⟩, h.1, h.2⟩
  show ze_cj 8 j = -1
  unfold ze_cj
  rw [if_pos hj]
