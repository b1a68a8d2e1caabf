theorem ze_cm_mm (m : Int32) : (if nI 6 < (if m < nI 3 then nI 3 else m) then nI 6 else (if m < nI 3 then nI 3 else m)) = nI (ze_cm m) := by
  by_cases h : nI 3 ≤ m
  · rw [if_neg (Int32.not_lt.mpr h)]
    by_cases h2 : m ≤ nI 6
    · rw [if_neg (Int32.not_lt.mpr h2), ze_cm_mid h h2]
    · rw [if_pos (Int32.not_le.mp h2), ze_cm_hi h h2]
  · rw [if_pos (Int32.not_le.mp h), ze_cm_lo h, if_neg (by decide)]
/-- the first i slots' tables -/
def ze_fi (d : Nat → Nat) (i : Nat) : Nat → Option Nat := fun j => if j < i then some (d (2 + 3 * j)) else none
theorem ze_fi_eq {d d' : Nat → Nat} {i : Nat} (h : ∀ k, k < 2 + 3 * i → d' k = d k) : ze_fi d i = ze_fi d' i := by
  funext j
  unfold ze_fi
  split
  · rw [h _ (by omega)]
  · rfl
theorem ze_fi_up {d : Nat → Nat} {i : Nat} : va_up (ze_fi d i) i (some (d (2 + 3 * i))) = ze_fi d (i + 1) := by
  funext j
  by_cases h : j = i
  · subst h; rw [va_up_self]; unfold ze_fi; rw [if_pos (by omega)]
  · rw [va_up_ne _ _ h]
    unfold ze_fi
    by_cases h2 : j < i
    · rw [if_pos h2, if_pos (by omega)]
    · rw [if_neg h2, if_neg (by omega)]
/-- three cells that hold a new table -/
def ze_t3 (ids : Nat → ClassId) (d : Nat → Nat) (e : Nat → va_E) (q : Nat) : Prop := e q = .inr (ze_kT, [.ref (d (q + 1)), .ref (d (q + 2)), .int 0, .int 0]) ∧ e (q + 1) = ze_z ids 60 ∧ e (q + 2) = ze_z ids 60
theorem ze_t3_eq {ids : Nat → ClassId} {d d' : Nat → Nat} {e e' : Nat → va_E} {q n : Nat} (h : ze_t3 ids d e q) (hq : q + 2 < n) (hd : ∀ k, k < n → d' k = d k) (he : ∀ k, k < n → 0 < k → k ≠ 1 → e' k = e k) (h2 : 2 ≤ q) : ze_t3 ids d' e' q := by
  unfold ze_t3
  rw [hd _ (by omega), hd _ (by omega), he q (by omega) (by omega) (by omega), he (q + 1) (by omega) (by omega) (by omega), he (q + 2) (by omega) (by omega) (by omega)]
  exact h
def ze_Xi (ids : Nat → ClassId) (d : Nat → Nat) (m : Int32) (i : Nat) (e : Nat → va_E) : Prop := e 0 = .inr (ze_kX, [.int m, .ref (d 1), .null, .null, .null, .null, .null, .long 0]) ∧ e 1 = .inl (ids 2, 8, .inr (.inr (.inr (.inr (ze_fi d i))))) ∧ ∀ j, j < i → ze_t3 ids d e (2 + 3 * j)
theorem ze_Xi_step {ids : Nat → ClassId} {d d' : Nat → Nat} {e e' : Nat → va_E} {m : Int32} {i : Nat} (h : ze_Xi ids d m i e) (hd : ∀ k, k < 2 + 3 * i → d' k = d k) (he : ∀ k, k < 2 + 3 * i → e' k = e k) (h3 : ze_t3 ids d' e' (2 + 3 * i)) : ze_Xi ids d' m (i + 1) (va_up e' 1 (.inl (ids 2, 8, .inr (.inr (.inr (.inr (va_up (ze_fi d i) i (some (d' (2 + 3 * i))))))))))  := by
  refine ⟨?_, ?_, fun j hj => ?_⟩
  · rw [va_up_ne _ _ (by decide), he 0 (by omega), h.1, hd 1 (by omega)]
  · rw [va_up_self, ze_fi_eq hd, ze_fi_up]
  · by_cases hji : j = i
    · subst hji
      exact ze_t3_eq h3 (n := 2 + 3 * j + 3) (by omega) (fun _ _ => rfl) (fun k _ _ h1 => va_up_ne _ _ h1) (by omega)
    · exact ze_t3_eq (h.2.2 j (by omega)) (n := 2 + 3 * i) (by omega) hd (fun k hk _ h1 => (va_up_ne _ _ h1).trans (he k hk)) (by omega)
/-- the other tables' fields, the first t of them -/
def ze_xr (d : Nat → Nat) (t j : Nat) : Value := if j < t then .ref (d (27 + 3 * j)) else .null
theorem ze_xr_eq {d d' : Nat → Nat} {t j : Nat} (h : ∀ k, k < 27 + 3 * t → d' k = d k) : ze_xr d t j = ze_xr d' t j := by
  unfold ze_xr
  split
  · rw [h _ (by omega)]
  · rfl
def ze_xf (d : Nat → Nat) (m : Int32) (t : Nat) : List Value := [.int m, .ref (d 1), .ref (d 26), ze_xr d t 0, ze_xr d t 1, ze_xr d t 2, ze_xr d t 3, .long 0]
theorem ze_xf_eq {d d' : Nat → Nat} {m : Int32} {t : Nat} (h : ∀ k, k < 27 + 3 * t → d' k = d k) : ze_xf d m t = ze_xf d' m t := by
  simp only [ze_xf, ze_xr_eq h]
  rw [h 1 (by omega), h 26 (by omega)]
def ze_Xh (ids : Nat → ClassId) (d : Nat → Nat) (m : Int32) (t : Nat) (e : Nat → va_E) : Prop := e 0 = .inr (ze_kX, ze_xf d m t) ∧ e 1 = .inl (ids 2, 8, .inr (.inr (.inr (.inr (ze_fi d 8))))) ∧ (∀ j, j < 8 → ze_t3 ids d e (2 + 3 * j)) ∧ e 26 = .inl (ids 1, 8, .inl (fun _ => 0)) ∧ ∀ j, j < t → ze_t3 ids d e (27 + 3 * j)
theorem ze_Xh_0 {ids : Nat → ClassId} {d d' : Nat → Nat} {e : Nat → va_E} {m : Int32} {fs : List Value} (h : ze_Xi ids d m 8 e) (hd : ∀ k, k < 26 → d' k = d k) (hs : fs = ze_xf d' m 0) : ze_Xh ids d' m 0 (va_up (va_up e 26 (.inl (ids 1, 8, .inl (fun _ => 0)))) 0 (.inr (ze_kX, fs))) := by
  refine ⟨by rw [va_up_self, hs], ?_, fun j hj => ?_, ?_, fun j hj => absurd hj (Nat.not_lt_zero _)⟩
  · rw [va_up_ne _ _ (by decide), va_up_ne _ _ (by decide), h.2.1, ze_fi_eq (d' := d') (fun k hk => hd k (by omega))]
  · exact ze_t3_eq (h.2.2 j hj) (n := 26) (by omega) hd (fun k hk h0 _ => by rw [va_up_ne _ _ (by omega), va_up_ne _ _ (by omega)]) (by omega)
  · rw [va_up_ne _ _ (by decide), va_up_self]
theorem ze_Xh_step {ids : Nat → ClassId} {d d' : Nat → Nat} {e e' : Nat → va_E} {m : Int32} (t : Nat) {fs : List Value} (h : ze_Xh ids d m t e) (hd : ∀ k, k < 27 + 3 * t → d' k = d k) (he : ∀ k, k < 27 + 3 * t → e' k = e k) (h3 : ze_t3 ids d' e' (27 + 3 * t)) (hs : fs = ze_xf d' m (t + 1)) : ze_Xh ids d' m (t + 1) (va_up e' 0 (.inr (ze_kX, fs))) := by
  refine ⟨by rw [va_up_self, hs], ?_, fun j hj => ?_, ?_, fun j hj => ?_⟩
  · rw [va_up_ne _ _ (by decide), he 1 (by omega), h.2.1, ze_fi_eq (d' := d') (fun k hk => hd k (by omega))]
  · exact ze_t3_eq (h.2.2.1 j hj) (n := 27 + 3 * t) (by omega) hd (fun k hk h0 _ => (va_up_ne _ _ (by omega)).trans (he k hk)) (by omega)
  · rw [va_up_ne _ _ (by decide), he 26 (by omega), h.2.2.2.1]
  · by_cases hji : j = t
    · subst hji
      exact ze_t3_eq h3 (n := 27 + 3 * j + 3) (by omega) (fun _ _ => rfl) (fun k _ h0 _ => va_up_ne _ _ (by omega)) (by omega)
    · exact ze_t3_eq (h.2.2.2.2 j (by omega)) (n := 27 + 3 * t) (by omega) hd (fun k hk h0 _ => (va_up_ne _ _ (by omega)).trans (he k hk)) (by omega)
theorem ze_Xh_at {ids : Nat → ClassId} {d d' : Nat → Nat} {e e' : Nat → va_E} {m : Int32} (t : Nat) (h : ze_Xh ids d m t e) (hd : ∀ k, k < 27 + 3 * t → d' k = d k) (he : ∀ k, k < 27 + 3 * t → e' k = e k) : e' 0 = .inr (ze_kX, ze_xf d' m t) := by
  rw [he 0 (by omega), h.1, ze_xf_eq hd]
/-- the order of the state's cells -/
def ze_pi (k : Nat) : Nat := if k < 2 then k else if k = 2 then 26 else if k < 27 then k - 1 else k
theorem ze_pi_lt : ∀ k, k < 39 → ze_pi k < 39 := by decide
theorem ze_pi_inj : ∀ i, i < 39 → ∀ j, j < 39 → ze_pi i = ze_pi j → i = j := by
  intro i hi j hj h
  unfold ze_pi at h
  split at h <;> split at h <;> (try split at h) <;> (try split at h) <;> (try split at h) <;> (try split at h) <;> omega
/-- a new executor -/
def ze_x0 (M : Nat) : ze_XS := (M, fun _ => (fun _ => 0, fun _ => 0, 0, false), fun _ => false, 0)
