/-! PURE: two columns that hold a list of rows from a place on -/
def ze_Hl (f g : Nat → Int32) (k : Nat) (L : List ze_Row) : Prop := ∀ (p : Nat) (r : ze_Row), L[p]? = some r → f (k + p) = r.1 ∧ g (k + p) = r.2
section ZEH
variable {f g f' g' : Nat → Int32} {k q : Nat} {L A B : List ze_Row} {r : ze_Row} {a b : Int32}
theorem ze_Hl_nil : ze_Hl f g k [] := fun p r h => by simp at h
theorem ze_Hl_eq (h : ze_Hl f g k L) (he : ∀ p, k ≤ p → p < k + L.length → f' p = f p ∧ g' p = g p) : ze_Hl f' g' k L := by
  intro p r hp
  have hl := (List.getElem?_eq_some_iff.mp hp).1
  obtain ⟨e1, e2⟩ := he (k + p) (by omega) (by omega)
  obtain ⟨h1, h2⟩ := h p r hp
  exact ⟨e1.trans h1, e2.trans h2⟩
theorem ze_Hl_app : ze_Hl f g k (A ++ B) ↔ ze_Hl f g k A ∧ ze_Hl f g (k + A.length) B := by
  constructor
  · intro h
    refine ⟨fun p r hp => h p r ?_, fun p r hp => ?_⟩
    · rw [List.getElem?_append_left (List.getElem?_eq_some_iff.mp hp).1]
      exact hp
    · have := h (A.length + p) r (by rw [List.getElem?_append_right (by omega), Nat.add_sub_cancel_left]; exact hp)
      rw [← Nat.add_assoc] at this
      exact this
  · rintro ⟨h1, h2⟩ p r hp
    by_cases hl : p < A.length
    · rw [List.getElem?_append_left hl] at hp
      exact h1 p r hp
    · rw [List.getElem?_append_right (by omega)] at hp
      have := h2 (p - A.length) r hp
      rw [show k + A.length + (p - A.length) = k + p by omega] at this
      exact this
theorem ze_Hl_one : ze_Hl f g k [r] ↔ f k = r.1 ∧ g k = r.2 := by
  constructor
  · intro h
    exact h 0 r rfl
  · intro h p x hp
    cases p with
    | zero =>
      simp only [List.getElem?_cons_zero, Option.some.injEq] at hp
      subst hp
      exact h
    | succ p => simp at hp
theorem ze_Hl_cons : ze_Hl f g k (r :: L) ↔ (f k = r.1 ∧ g k = r.2) ∧ ze_Hl f g (k + 1) L := by
  have h := ze_Hl_app (f := f) (g := g) (k := k) (A := [r]) (B := L)
  rw [ze_Hl_one] at h
  exact h
theorem ze_upd_ne {f : Nat → Int32} {q j : Nat} {a : Int32} (h : j ≠ q) : upd f q a j = f j := pk_un h
theorem ze_Hl_upd (h : ze_Hl f g k L) (hq : q < k ∨ k + L.length ≤ q) : ze_Hl (upd f q a) (upd g q b) k L :=
  ze_Hl_eq h (fun p h1 h2 => ⟨pk_un (by omega), pk_un (by omega)⟩)
theorem ze_Hl_updf (h : ze_Hl f g k L) (hq : q < k ∨ k + L.length ≤ q) : ze_Hl (upd f q a) g k L :=
  ze_Hl_eq h (fun p h1 h2 => ⟨pk_un (by omega), rfl⟩)
theorem ze_Hl_updg (h : ze_Hl f g k L) (hq : q < k ∨ k + L.length ≤ q) : ze_Hl f (upd g q b) k L :=
  ze_Hl_eq h (fun p h1 h2 => ⟨rfl, pk_un (by omega)⟩)
theorem ze_Hl_snoc (h : ze_Hl f g k L) : ze_Hl (upd f (k + L.length) r.1) (upd g (k + L.length) r.2) k (L ++ [r]) := by
  rw [ze_Hl_app, ze_Hl_one]
  exact ⟨ze_Hl_upd h (Or.inr (Nat.le_refl _)), pk_us, pk_us⟩
theorem ze_Hl_row (h : ze_Hl f g k L) {p : Nat} (hp : p < L.length) : L[p]? = some (f (k + p), g (k + p)) := by
  obtain ⟨h1, h2⟩ := h p L[p] (List.getElem?_eq_getElem hp)
  rw [List.getElem?_eq_getElem hp, h1, h2]
theorem ze_Hl_cpy {sp dp : Nat} (h : ze_Hl f g sp L) : ze_Hl (va_cpy f f' sp dp L.length) (va_cpy g g' sp dp L.length) dp L := by
  intro p r hp
  have hl := (List.getElem?_eq_some_iff.mp hp).1
  obtain ⟨h1, h2⟩ := h p r hp
  rw [pk_cpy_in (by omega) (by omega), pk_cpy_in (by omega) (by omega), show sp + (dp + p - dp) = sp + p by omega]
  exact ⟨h1, h2⟩
theorem ze_Hl_set {p : Nat} (h : ze_Hl f g k L) (hp : p < L.length) : ze_Hl (upd f (k + p) r.1) (upd g (k + p) r.2) k (L.set p r) := by
  intro j x hj
  by_cases e : j = p
  · subst e
    rw [List.getElem?_set_self hp] at hj
    cases hj
    exact ⟨pk_us, pk_us⟩
  · rw [List.getElem?_set_ne (Ne.symm e)] at hj
    obtain ⟨h1, h2⟩ := h j x hj
    exact ⟨(pk_un (by omega)).trans h1, (pk_un (by omega)).trans h2⟩
end ZEH
