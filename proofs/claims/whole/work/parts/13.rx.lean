section ZEG
variable {G : ze_G} {ad : Nat → Nat} {ms : ze_MS} {M : Nat} {T : Nat → ze_T} {hd : Nat → Bool} {mv : Int64} {cells slots pc : Nat} {lv : List (Nat × Value)} {st : List Value} {ids : Nat → ClassId}
theorem ze_foc (i : Nat) : ze_E ids ad (M, T, hd, mv) ms = ze_E ids ad (M, va_up T i ((T i).1, (T i).2.1, (T i).2.2.1, (T i).2.2.2), hd, mv) ms := by
  rw [show ((T i).1, (T i).2.1, (T i).2.2.1, (T i).2.2.2) = T i from rfl, ze_up_eta]
theorem ze_genT (k : ∀ T1, T1 = T → ze_V G 48 ad (ze_E (ze_i G) ad (M, T1, hd, mv) ms) cells slots pc lv st) : ze_V G 48 ad (ze_E (ze_i G) ad (M, T, hd, mv) ms) cells slots pc lv st := k T rfl
end ZEG
theorem ze_upo {T T1 : Nat → ze_T} {i : Nat} {t : ze_T} (e : T1 = va_up T i t) : ∀ q, q ≠ i → T1 q = T q := fun q h => by rw [e, va_up_ne _ _ h]
theorem ze_ups {T T1 : Nat → ze_T} {i : Nat} {t : ze_T} (e : T1 = va_up T i t) : T1 i = t := by rw [e, va_up_self]
theorem ze_Hu_clr {T T1 : Nat → ze_T} {i : Nat} {f g : Nat → Int32} (e : T1 = va_up T i (f, g, 0, false)) : ze_Hu (T1 i) [] := by rw [ze_ups e]; exact ze_Hu_0
theorem ze_Hu_app {T T1 : Nat → ze_T} {i : Nat} {L : List ze_Row} {k v : Int32} (h : ze_Hu (T i) L) (e : T1 = va_up T i (if (T i).2.2.1 < 60 then (upd (T i).1 (T i).2.2.1 k, upd (T i).2.1 (T i).2.2.1 v, (T i).2.2.1 + 1, (T i).2.2.2) else ((T i).1, (T i).2.1, (T i).2.2.1, true))) : ze_Hu (T1 i) (L ++ [(k, v)]) := by
  rw [ze_ups e]
  exact ze_Hu_snoc (r := (k, v)) (f := (T i).1) (g := (T i).2.1) h
theorem ze_Hu_le {t : ze_T} {L : List ze_Row} (h : ze_Hu t L) : t.2.2.1 ≤ 60 := by rw [h.1]; exact Nat.min_le_right _ _
theorem ze_H_cpy {T T1 : Nat → ze_T} {i : Nat} {t : ze_T} {f g : Nat → Int32} {L : List ze_Row} (h : ze_H t L) (e : T1 = va_up T i (va_cpy t.1 f 0 0 t.2.2.1, va_cpy t.2.1 g 0 0 t.2.2.1, t.2.2.1, false)) : ze_H (T1 i) L ∧ (T1 i).2.2.2 = false := by
  rw [ze_ups e]
  refine ⟨⟨h.1, h.2.1, ?_⟩, rfl⟩
  have := ze_Hl_cpy (f' := f) (g' := g) (sp := 0) (dp := 0) h.2.2
  rw [← h.1] at this
  exact this
theorem ze_H_Hu {t : ze_T} {L : List ze_Row} (h : ze_H t L) (ho : t.2.2.2 = false) : ze_Hu t L := by
  refine ⟨by rw [h.1]; have := h.2.1; omega, by rw [ho]; have := h.2.1; simp; omega, ?_⟩
  rw [List.take_of_length_le h.2.1]
  exact h.2.2
section ZRX
variable {M : Nat} {T T1 : Nat → ze_T} {hd : Nat → Bool} {mv c : Int64} {inp inp' L : List ze_Row} {sl : Nat → Option (List ze_Row)} {i j : Nat}
theorem ze_rX_in (h : ze_rX (M, T, hd, mv) (inp, sl, mv, M)) (e : ∀ q, q ≠ 8 → T1 q = T q) (ht : ze_H (T1 8) inp') : ze_rX (M, T1, hd, mv) (inp', sl, mv, M) := by
  obtain ⟨h1, h2, h3, h4, h5, h6, h7⟩ := h
  refine ⟨h1, h2, h3, h4, ht, h6, fun q hq L hL => ?_⟩
  obtain ⟨a, b⟩ := h7 q hq L hL
  exact ⟨a, by simp only; rw [e q (by omega)]; exact b⟩
/-- a table that holds nothing of the value may change -/
theorem ze_rX_wk (h : ze_rX (M, T, hd, mv) (inp, sl, mv, M)) (hi : i ≠ 8) (hn : i < 8 → sl i = none) (e : ∀ q, q ≠ i → T1 q = T q) : ze_rX (M, T1, hd, mv) (inp, sl, mv, M) := by
  obtain ⟨h1, h2, h3, h4, h5, h6, h7⟩ := h
  refine ⟨h1, h2, h3, h4, by simp only; rw [e 8 (Ne.symm hi)]; exact h5, h6, fun q hq L hL => ?_⟩
  obtain ⟨a, b⟩ := h7 q hq L hL
  refine ⟨a, ?_⟩
  by_cases hqi : q = i
  · subst hqi
    have := hn hq
    simp only at hL
    rw [this] at hL
    cases hL
  · simp only
    rw [e q hqi]
    exact b
theorem ze_rX_fin (h : ze_rX (M, T, hd, mv) (inp, sl, mv, M)) (hj : j < 8) (hH : ze_H (T j) L) : ze_rX (M, T, va_up hd j true, mv + c) (inp, va_up sl j (some L), mv + c, M) := by
  obtain ⟨h1, h2, h3, h4, h5, h6, h7⟩ := h
  refine ⟨h1, h2, h3, rfl, h5, fun q hq hL => ?_, fun q hq K hL => ?_⟩
  · simp only at hL ⊢
    by_cases e : q = j
    · subst e; rw [va_up_self] at hL; cases hL
    · rw [va_up_ne _ _ e] at hL ⊢; exact h6 q hq hL
  · simp only at hL ⊢
    by_cases e : q = j
    · subst e; rw [va_up_self] at hL ⊢; cases hL; exact ⟨rfl, hH⟩
    · rw [va_up_ne _ _ e] at hL ⊢; exact h7 q hq K hL
theorem ze_rX_drop (h : ze_rX (M, T, hd, mv) (inp, sl, mv, M)) : ze_rX (M, T, va_up hd j false, mv) (inp, va_up sl j none, mv, M) := by
  obtain ⟨h1, h2, h3, h4, h5, h6, h7⟩ := h
  refine ⟨h1, h2, h3, rfl, h5, fun q hq hL => ?_, fun q hq K hL => ?_⟩
  · simp only at hL ⊢
    by_cases e : q = j
    · subst e; rw [va_up_self]
    · rw [va_up_ne _ _ e] at hL ⊢; exact h6 q hq hL
  · simp only at hL ⊢
    by_cases e : q = j
    · subst e; rw [va_up_self] at hL; cases hL
    · rw [va_up_ne _ _ e] at hL ⊢; exact h7 q hq K hL
theorem ze_rX_off (h : ze_rX (M, T, hd, mv) (inp, sl, mv, M)) (hj : j < 8) (hf : hd j = false) : sl j = none := by
  cases e : sl j with
  | none => rfl
  | some L => have := (h.2.2.2.2.2.2 j hj L e).1; simp only at this; rw [hf] at this; cases this
theorem ze_rX_on (h : ze_rX (M, T, hd, mv) (inp, sl, mv, M)) (hj : j < 8) (hf : hd j = true) : ∃ L, sl j = some L ∧ ze_H (T j) L := by
  cases e : sl j with
  | none => have := h.2.2.2.2.2.1 j hj e; simp only at this; rw [hf] at this; cases this
  | some L => exact ⟨L, rfl, (h.2.2.2.2.2.2 j hj L e).2⟩
end ZRX
