/-- the reference's arrays hold input and slots -/
def ze_rA (Ar : Nat → Nat → Int32) (inp : List ze_Row) (sl : Nat → Option (List ze_Row)) : Prop := inp.length ≤ 60 ∧ ze_Hl (Ar 0) (Ar 1) 0 inp ∧ (∀ j, j < 8 → sl j = none → Ar 2 j = -1) ∧ (∀ j, j < 8 → ∀ L, sl j = some L → L.length ≤ 60 ∧ Ar 2 j = nI L.length ∧ ze_Hl (Ar 3) (Ar 4) (60 * j) L)
/-- the reference's state has the value σ -/
def ze_rM (ms : ze_MS) (σ : ze_Sg) : Prop := ∃ (ma co le : Nat) (Ar : Nat → Nat → Int32), ms = (σ.2.2.2, σ.2.2.1, σ.1.length, ma, co, le, Ar) ∧ ze_rA Ar σ.1 σ.2.1 ∧ 3 ≤ σ.2.2.2 ∧ σ.2.2.2 ≤ 6
/-- the rows that are made -/
def ze_Mk (Ar : Nat → Nat → Int32) (ma : Nat) (L : List ze_Row) : Prop := ma = L.length ∧ ze_Hl (Ar 5) (Ar 6) 0 (L.take 60)
section ZEA
variable {G : ze_G} {ad : Nat → Nat} {x : ze_XS} {mem : Nat} {mvd : Int64} {ty ma co le : Nat} {Ar : Nat → Nat → Int32} {cells slots pc : Nat} {lv : List (Nat × Value)} {st : List Value}
theorem ze_genA (k : ∀ A1, A1 = Ar → ze_V G 48 ad (ze_E (ze_i G) ad x (mem, mvd, ty, ma, co, le, A1)) cells slots pc lv st) : ze_V G 48 ad (ze_E (ze_i G) ad x (mem, mvd, ty, ma, co, le, Ar)) cells slots pc lv st := k Ar rfl
end ZEA
theorem ze_au {Ar A1 : Nat → Nat → Int32} {i : Nat} {f : Nat → Int32} (e : A1 = va_up Ar i f) : A1 i = f := by rw [e, va_up_self]
theorem ze_ao {Ar A1 : Nat → Nat → Int32} {i : Nat} {f : Nat → Int32} (e : A1 = va_up Ar i f) : ∀ j, j ≠ i → A1 j = Ar j := fun j h => by rw [e, va_up_ne _ _ h]
section ZRA
variable {Ar A1 : Nat → Nat → Int32} {inp inp' L : List ze_Row} {sl : Nat → Option (List ze_Row)} {j ma : Nat} {k v : Int32}
theorem ze_rA_neg (h : ze_rA Ar inp sl) (hj : j < 8) (hn : Ar 2 j < 0) : sl j = none := by
  cases e : sl j with
  | none => rfl
  | some L =>
    obtain ⟨h1, h2, -⟩ := h.2.2.2 j hj L e
    rw [h2] at hn
    exact absurd hn (nI_pos (by omega))
theorem ze_rA_pos (h : ze_rA Ar inp sl) (hj : j < 8) (hn : ¬ Ar 2 j < 0) : ∃ L, sl j = some L ∧ L.length ≤ 60 ∧ Ar 2 j = nI L.length ∧ ze_Hl (Ar 3) (Ar 4) (60 * j) L := by
  cases e : sl j with
  | none => exact absurd (by rw [h.2.2.1 j hj e]; decide) hn
  | some L => exact ⟨L, rfl, h.2.2.2 j hj L e⟩
/-- nothing but the made rows has changed -/
theorem ze_rA_56 (h : ze_rA Ar inp sl) (e : ∀ z, z ≠ 5 → z ≠ 6 → z ≠ 7 → A1 z = Ar z) : ze_rA A1 inp sl := by
  unfold ze_rA
  rw [e 0 (by decide) (by decide) (by decide), e 1 (by decide) (by decide) (by decide), e 2 (by decide) (by decide) (by decide), e 3 (by decide) (by decide) (by decide), e 4 (by decide) (by decide) (by decide)]
  exact h
theorem ze_rA_set (h : ze_rA Ar inp sl) (hj : j < 8) (hl : L.length ≤ 60) (h0 : A1 0 = Ar 0) (h1 : A1 1 = Ar 1) (h2 : A1 2 = upd (Ar 2) j (nI L.length)) (h3 : ze_Hl (A1 3) (A1 4) (60 * j) L) (ho : ∀ q, q < 60 * j ∨ 60 * j + 60 ≤ q → A1 3 q = Ar 3 q ∧ A1 4 q = Ar 4 q) : ze_rA A1 inp (va_up sl j (some L)) := by
  refine ⟨h.1, by rw [h0, h1]; exact h.2.1, fun q hq hL => ?_, fun q hq K hL => ?_⟩
  · by_cases e : q = j
    · subst e; rw [va_up_self] at hL; cases hL
    · rw [va_up_ne _ _ e] at hL
      rw [h2, pk_un e]
      exact h.2.2.1 q hq hL
  · by_cases e : q = j
    · subst e
      rw [va_up_self] at hL
      cases hL
      exact ⟨hl, by rw [h2, pk_us], h3⟩
    · rw [va_up_ne _ _ e] at hL
      obtain ⟨a, b, c⟩ := h.2.2.2 q hq K hL
      refine ⟨a, by rw [h2, pk_un e]; exact b, ze_Hl_eq c (fun p p1 p2 => ho p ?_)⟩
      rcases Nat.lt_or_gt_of_ne e with z | z
      · left; omega
      · right; omega
theorem ze_rA_drop (h : ze_rA Ar inp sl) (e : A1 = va_up Ar 2 (upd (Ar 2) j (-1))) : ze_rA A1 inp (va_up sl j none) := by
  have o := ze_ao e
  refine ⟨h.1, by rw [o 0 (by decide), o 1 (by decide)]; exact h.2.1, fun q hq hL => ?_, fun q hq K hL => ?_⟩
  · rw [ze_au e]
    by_cases e : q = j
    · subst e; rw [pk_us]
    · rw [va_up_ne _ _ e] at hL
      rw [pk_un e]
      exact h.2.2.1 q hq hL
  · rw [ze_au e, o 3 (by decide), o 4 (by decide)]
    by_cases e : q = j
    · subst e; rw [va_up_self] at hL; cases hL
    · rw [va_up_ne _ _ e] at hL
      rw [pk_un e]
      exact h.2.2.2 q hq K hL
theorem ze_rA_in (h : ze_rA Ar inp sl) (hl : inp'.length ≤ 60) (hi : ze_Hl (A1 0) (A1 1) 0 inp') (o : ∀ z, z ≠ 0 → z ≠ 1 → A1 z = Ar z) : ze_rA A1 inp' sl := by
  refine ⟨hl, hi, ?_⟩
  rw [o 2 (by decide) (by decide), o 3 (by decide) (by decide), o 4 (by decide) (by decide)]
  exact h.2.2
theorem ze_Mk_0 : ze_Mk Ar 0 [] := ⟨rfl, ze_Hl_nil⟩
theorem ze_Mk_full (h : ze_Mk Ar ma L) (hf : ¬ ma < 60) : ze_Mk Ar (ma + 1) (L ++ [(k, v)]) := by
  refine ⟨by simp [h.1], ?_⟩
  rw [List.take_append_of_le_length (by have := h.1; omega)]
  exact h.2
theorem ze_Mk_snoc (h : ze_Mk Ar ma L) (hf : ma < 60) (h5 : A1 5 = upd (Ar 5) ma k) (h6 : A1 6 = upd (Ar 6) ma v) : ze_Mk A1 (ma + 1) (L ++ [(k, v)]) := by
  obtain ⟨h1, h2⟩ := h
  subst h1
  refine ⟨by simp, ?_⟩
  rw [List.take_of_length_le (by omega)] at h2
  rw [List.take_of_length_le (by simp; omega), h5, h6]
  have := ze_Hl_snoc (r := (k, v)) h2
  rw [Nat.zero_add] at this
  exact this
end ZRA
/-- the reference's refusal -/
def ze_rfs (sl : Nat → Option (List ze_Row)) (ok : Bool) (a b into : Int32) : Int32 := if (ok && ze_isS a && ze_isS b && ze_isS into) = false then -1 else match sl (ze_n a), sl (ze_n b) with
  | some _, some _ => match sl (ze_n into) with
    | some _ => -3
    | none => 0
  | _, _ => -2
theorem ze_rfs_ne {σ : ze_Sg} {ok : Bool} {a b into : Int32} {f : List ze_Row → List ze_Row → List ze_Row × Nat} (h : ¬ ze_rfs σ.2.1 ok a b into = 0) : sp_op σ ok a b into f = (ze_rfs σ.2.1 ok a b into, σ) := by
  unfold sp_op
  unfold ze_rfs at h ⊢
  by_cases hs : (ok && ze_isS a && ze_isS b && ze_isS into) = false
  · rw [if_pos hs, if_pos hs]
  · rw [if_neg hs] at h ⊢
    rw [if_neg hs]
    cases ha : σ.2.1 (ze_n a) with
    | none => rfl
    | some A =>
      cases hb : σ.2.1 (ze_n b) with
      | none => rfl
      | some B =>
        cases hi : σ.2.1 (ze_n into) with
        | none => rw [ha, hb, hi] at h; exact absurd rfl h
        | some I => rfl
theorem ze_rfs_0 {σ : ze_Sg} {ok : Bool} {a b into : Int32} (h : ze_rfs σ.2.1 ok a b into = 0) : ∃ (ja jb ji : Nat) (A B : List ze_Row), ja < 8 ∧ jb < 8 ∧ ji < 8 ∧ a = nI ja ∧ b = nI jb ∧ into = nI ji ∧ ji ≠ ja ∧ ji ≠ jb ∧ σ.2.1 ja = some A ∧ σ.2.1 jb = some B ∧ σ.2.1 ji = none ∧ ok = true ∧ ∀ f, sp_op σ ok a b into f = sp_fin σ ji (f A B) := by
  unfold ze_rfs at h
  by_cases hs : (ok && ze_isS a && ze_isS b && ze_isS into) = false
  · rw [if_pos hs] at h; exact absurd h (by decide)
  · rw [if_neg hs] at h
    have hs0 := hs
    simp only [Bool.not_eq_false, Bool.and_eq_true] at hs
    obtain ⟨ja, hja, rfl⟩ := ze_isS_nI hs.1.1.2
    obtain ⟨jb, hjb, rfl⟩ := ze_isS_nI hs.1.2
    obtain ⟨ji, hji, rfl⟩ := ze_isS_nI hs.2
    have na := ze_n_nI (j := ja) (by omega)
    have nb := ze_n_nI (j := jb) (by omega)
    have ni := ze_n_nI (j := ji) (by omega)
    rw [na, nb, ni] at h
    cases ha : σ.2.1 ja with
    | none => rw [ha] at h; exact absurd (show (-2 : Int32) = 0 from h) (by decide)
    | some A =>
      cases hb : σ.2.1 jb with
      | none => rw [ha, hb] at h; exact absurd (show (-2 : Int32) = 0 from h) (by decide)
      | some B =>
        cases hi : σ.2.1 ji with
        | some I => rw [ha, hb, hi] at h; exact absurd (show (-3 : Int32) = 0 from h) (by decide)
        | none =>
          refine ⟨ja, jb, ji, A, B, hja, hjb, hji, rfl, rfl, rfl, fun e => ?_, fun e => ?_, ha, hb, hi, hs.1.1.1, fun f => ?_⟩
          · rw [e, ha] at hi; cases hi
          · rw [e, hb] at hi; cases hi
          · unfold sp_op
            rw [if_neg hs0]
            simp only [na, nb, ni, ha, hb, hi]
