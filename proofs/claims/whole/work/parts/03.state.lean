/-! THE STATE of class and reference, and the 48 cells that hold it: 0 the executor, 1 its tables, 2 held, 3 + 3 i the table i (0..7 the slots, 8 input, 9 workA, 10 workB, 11 spare) with its keys and values behind it; 39 the reference, 40.. its arrays. -/
abbrev ze_T : Type := (Nat → Int32) × (Nat → Int32) × Nat × Bool
abbrev ze_XS : Type := Nat × (Nat → ze_T) × (Nat → Bool) × Int64
/-- memory, moved, typed, made, cost, level; the arrays typedKey, typedValue, count, keys, values, madeKey, madeValue, path -/
abbrev ze_MS : Type := Nat × Int64 × Nat × Nat × Nat × Nat × (Nat → Nat → Int32)
def ze_bi (b : Bool) : Int32 := if b then 1 else 0
def ze_ct (ids : Nat → ClassId) (ad : Nat → Nat) (i : Nat) (t : ze_T) (r : Nat) : va_E :=
  if r = 0 then .inr (ze_kT, [.ref (ad (4 + 3 * i)), .ref (ad (5 + 3 * i)), .int (nI t.2.2.1), .int (ze_bi t.2.2.2)])
  else if r = 1 then .inl (ids 0, 60, .inl t.1) else .inl (ids 0, 60, .inl t.2.1)
def ze_EX (ids : Nat → ClassId) (ad : Nat → Nat) (x : ze_XS) (k : Nat) : va_E :=
  if k = 0 then .inr (ze_kX, [.int (nI x.1), .ref (ad 1), .ref (ad 2), .ref (ad 27), .ref (ad 30), .ref (ad 33), .ref (ad 36), .long x.2.2.2])
  else if k = 1 then .inl (ids 2, 8, .inr (.inr (.inr (.inr (fun j => some (ad (3 + 3 * j)))))))
  else if k = 2 then .inl (ids 1, 8, .inl (fun j => ze_bi (x.2.2.1 j)))
  else ze_ct ids ad (k / 3 - 1) (x.2.1 (k / 3 - 1)) (k % 3)
def ze_al (j : Nat) : Nat := if j = 2 then 8 else if j = 3 then 480 else if j = 4 then 480 else if j = 7 then 3 else 60
def ze_EM (ids : Nat → ClassId) (ad : Nat → Nat) (x : ze_MS) (k : Nat) : va_E :=
  if k = 39 then .inr (ze_kM, [.int (nI x.1), .long x.2.1, .int (nI x.2.2.1), .ref (ad 40), .ref (ad 41), .ref (ad 42), .ref (ad 43), .ref (ad 44), .int (nI x.2.2.2.1), .ref (ad 45), .ref (ad 46), .long (lN x.2.2.2.2.1), .int (nI x.2.2.2.2.2.1), .ref (ad 47)])
  else .inl (ids 0, ze_al (k - 40), .inl (x.2.2.2.2.2.2 (k - 40)))
def ze_E (ids : Nat → ClassId) (ad : Nat → Nat) (x : ze_XS) (ms : ze_MS) : Nat → va_E := fun k => if k < 39 then ze_EX ids ad x k else ze_EM ids ad ms k
section ZES
variable {ids : Nat → ClassId} {ad : Nat → Nat} {x : ze_XS} {ms : ze_MS} {M : Nat} {T : Nat → ze_T} {hd : Nat → Bool} {mv : Int64}
theorem ze_E_x : ze_E ids ad (M, T, hd, mv) ms 0 = .inr (ze_kX, [.int (nI M), .ref (ad 1), .ref (ad 2), .ref (ad 27), .ref (ad 30), .ref (ad 33), .ref (ad 36), .long mv]) := rfl
theorem ze_E_tabs : ze_E ids ad x ms 1 = .inl (ids 2, 8, .inr (.inr (.inr (.inr (fun j => some (ad (3 + 3 * j))))))) := rfl
theorem ze_E_held : ze_E ids ad (M, T, hd, mv) ms 2 = .inl (ids 1, 8, .inl (fun j => ze_bi (hd j))) := rfl
theorem ze_E_ct {i r : Nat} (hi : i < 12) (hr : r < 3) : ze_E ids ad x ms (3 + 3 * i + r) = ze_ct ids ad i (x.2.1 i) r := by
  have h1 : 3 + 3 * i + r < 39 := by omega
  have h2 : (3 + 3 * i + r) / 3 - 1 = i := by omega
  have h3 : (3 + 3 * i + r) % 3 = r := by omega
  have n0 : ¬ 3 + 3 * i + r = 0 := by omega
  have n1 : ¬ 3 + 3 * i + r = 1 := by omega
  have n2 : ¬ 3 + 3 * i + r = 2 := by omega
  simp only [ze_E, ze_EX, h1, if_true, n0, n1, n2, if_false, h2, h3]
theorem ze_E_t {i : Nat} (hi : i < 12) : ze_E ids ad (M, T, hd, mv) ms (3 + 3 * i) = .inr (ze_kT, [.ref (ad (4 + 3 * i)), .ref (ad (5 + 3 * i)), .int (nI (T i).2.2.1), .int (ze_bi (T i).2.2.2)]) := ze_E_ct (r := 0) hi (by decide)
theorem ze_E_k {i : Nat} (hi : i < 12) : ze_E ids ad (M, T, hd, mv) ms (4 + 3 * i) = .inl (ids 0, 60, .inl (T i).1) := by
  have h := ze_E_ct (ids := ids) (ad := ad) (x := (M, T, hd, mv)) (ms := ms) (r := 1) hi (by decide)
  rw [show 3 + 3 * i + 1 = 4 + 3 * i by omega] at h
  exact h
theorem ze_E_v {i : Nat} (hi : i < 12) : ze_E ids ad (M, T, hd, mv) ms (5 + 3 * i) = .inl (ids 0, 60, .inl (T i).2.1) := by
  have h := ze_E_ct (ids := ids) (ad := ad) (x := (M, T, hd, mv)) (ms := ms) (r := 2) hi (by decide)
  rw [show 3 + 3 * i + 2 = 5 + 3 * i by omega] at h
  exact h
theorem ze_E_m {mem : Nat} {mvd : Int64} {ty ma co le : Nat} {Ar : Nat → Nat → Int32} : ze_E ids ad x (mem, mvd, ty, ma, co, le, Ar) 39 = .inr (ze_kM, [.int (nI mem), .long mvd, .int (nI ty), .ref (ad 40), .ref (ad 41), .ref (ad 42), .ref (ad 43), .ref (ad 44), .int (nI ma), .ref (ad 45), .ref (ad 46), .long (lN co), .int (nI le), .ref (ad 47)]) := rfl
theorem ze_E_a {j : Nat} {mem : Nat} {mvd : Int64} {ty ma co le : Nat} {Ar : Nat → Nat → Int32} : ze_E ids ad x (mem, mvd, ty, ma, co, le, Ar) (40 + j) = .inl (ids 0, ze_al j, .inl (Ar j)) := by
  have h1 : ¬ 40 + j < 39 := by omega
  have h2 : ¬ 40 + j = 39 := by omega
  have h3 : 40 + j - 40 = j := by omega
  simp only [ze_E, ze_EM, h1, h2, if_false, h3]
theorem ze_up_ct {i r : Nat} {t : ze_T} {e : va_E} (hi : i < 12) (hr : r < 3) (he : e = ze_ct ids ad i t r) (ho : ∀ q, q < 3 → q ≠ r → ze_ct ids ad i t q = ze_ct ids ad i (T i) q) : va_up (ze_E ids ad (M, T, hd, mv) ms) (3 + 3 * i + r) e = ze_E ids ad (M, va_up T i t, hd, mv) ms := by
  funext k
  by_cases hk : k = 3 + 3 * i + r
  · subst hk
    rw [va_up_self, ze_E_ct hi hr, he]
    simp only [va_up_self]
  · rw [va_up_ne _ _ hk]
    by_cases h39 : k < 39
    · by_cases h3 : k < 3
      · have : k = 0 ∨ k = 1 ∨ k = 2 := by omega
        rcases this with rfl | rfl | rfl <;> rfl
      · by_cases hki : k / 3 - 1 = i
        · have e1 : k = 3 + 3 * i + k % 3 := by omega
          have hq : k % 3 < 3 := Nat.mod_lt _ (by decide)
          generalize k % 3 = q at e1 hq
          subst e1
          rw [ze_E_ct hi hq, ze_E_ct hi hq]
          simp only [va_up_self]
          exact (ho q hq (by omega)).symm
        · have n0 : ¬ k = 0 := by omega
          have n1 : ¬ k = 1 := by omega
          have n2 : ¬ k = 2 := by omega
          simp only [ze_E, ze_EX, h39, if_true, n0, n1, n2, if_false, va_up_ne _ _ hki]
    · simp only [ze_E, h39, if_false]
theorem ze_up_k {i : Nat} {f : Nat → Int32} (hi : i < 12) : va_up (ze_E ids ad (M, T, hd, mv) ms) (4 + 3 * i) (.inl (ids 0, 60, .inl f)) = ze_E ids ad (M, va_up T i (f, (T i).2), hd, mv) ms := by
  have h := ze_up_ct (ids := ids) (ad := ad) (M := M) (T := T) (hd := hd) (mv := mv) (ms := ms) (r := 1) (t := (f, (T i).2)) (e := .inl (ids 0, 60, .inl f)) hi (by decide) rfl (fun q hq hn => by
    have : q = 0 ∨ q = 2 := by omega
    rcases this with rfl | rfl <;> rfl)
  rw [show 3 + 3 * i + 1 = 4 + 3 * i by omega] at h
  exact h
theorem ze_up_v {i : Nat} {f : Nat → Int32} (hi : i < 12) : va_up (ze_E ids ad (M, T, hd, mv) ms) (5 + 3 * i) (.inl (ids 0, 60, .inl f)) = ze_E ids ad (M, va_up T i ((T i).1, f, (T i).2.2), hd, mv) ms := by
  have h := ze_up_ct (ids := ids) (ad := ad) (M := M) (T := T) (hd := hd) (mv := mv) (ms := ms) (r := 2) (t := ((T i).1, f, (T i).2.2)) (e := .inl (ids 0, 60, .inl f)) hi (by decide) rfl (fun q hq hn => by
    have : q = 0 ∨ q = 1 := by omega
    rcases this with rfl | rfl <;> rfl)
  rw [show 3 + 3 * i + 2 = 5 + 3 * i by omega] at h
  exact h
theorem ze_up_t {i n : Nat} {o : Bool} (hi : i < 12) : va_up (ze_E ids ad (M, T, hd, mv) ms) (3 + 3 * i) (.inr (ze_kT, [.ref (ad (4 + 3 * i)), .ref (ad (5 + 3 * i)), .int (nI n), .int (ze_bi o)])) = ze_E ids ad (M, va_up T i ((T i).1, (T i).2.1, n, o), hd, mv) ms :=
  ze_up_ct (r := 0) (t := ((T i).1, (T i).2.1, n, o)) hi (by decide) rfl (fun q hq hn => by
    have : q = 1 ∨ q = 2 := by omega
    rcases this with rfl | rfl <;> rfl)
theorem ze_up_held {f : Nat → Int32} {hd' : Nat → Bool} (hf : f = fun j => ze_bi (hd' j)) : va_up (ze_E ids ad (M, T, hd, mv) ms) 2 (.inl (ids 1, 8, .inl f)) = ze_E ids ad (M, T, hd', mv) ms := by
  subst hf
  funext k
  by_cases hk : k = 2
  · subst hk; rfl
  · rw [va_up_ne _ _ hk]
    simp only [ze_E, ze_EX, hk, if_false]
theorem ze_up_mv {mv' : Int64} : va_up (ze_E ids ad (M, T, hd, mv) ms) 0 (.inr (ze_kX, [.int (nI M), .ref (ad 1), .ref (ad 2), .ref (ad 27), .ref (ad 30), .ref (ad 33), .ref (ad 36), .long mv'])) = ze_E ids ad (M, T, hd, mv') ms := by
  funext k
  by_cases hk : k = 0
  · subst hk; rfl
  · rw [va_up_ne _ _ hk]
    simp only [ze_E, ze_EX, hk, if_false]
theorem ze_up_m {ms' : ze_MS} {e : va_E} (he : e = ze_EM ids ad ms' 39) (h : ms'.2.2.2.2.2.2 = ms.2.2.2.2.2.2) : va_up (ze_E ids ad x ms) 39 e = ze_E ids ad x ms' := by
  funext k
  by_cases hk : k = 39
  · subst hk; rw [va_up_self, he]; rfl
  · rw [va_up_ne _ _ hk]
    simp only [ze_E, ze_EM, hk, if_false, h]
theorem ze_up_a {j : Nat} {f : Nat → Int32} {mem : Nat} {mvd : Int64} {ty ma co le : Nat} {Ar : Nat → Nat → Int32} : va_up (ze_E ids ad x (mem, mvd, ty, ma, co, le, Ar)) (40 + j) (.inl (ids 0, ze_al j, .inl f)) = ze_E ids ad x (mem, mvd, ty, ma, co, le, va_up Ar j f) := by
  funext k
  by_cases hk : k = 40 + j
  · subst hk; rw [va_up_self, ze_E_a]; simp only [va_up_self]
  · rw [va_up_ne _ _ hk]
    by_cases h39 : k < 39
    · simp only [ze_E, h39, if_true]
    · by_cases h40 : k = 39
      · subst h40; rfl
      · have : k - 40 ≠ j := by omega
        simp only [ze_E, ze_EM, h39, h40, if_false, va_up_ne _ _ this]
theorem ze_up_eta {α : Type} (T : Nat → α) (i : Nat) : va_up T i (T i) = T := by
  funext j
  by_cases h : j = i
  · subst h; rw [va_up_self]
  · rw [va_up_ne _ _ h]
variable {i : Nat} {f g : Nat → Int32} {c : Nat} {o : Bool}
theorem ze_F_t (hi : i < 12) : ze_E ids ad (M, va_up T i (f, g, c, o), hd, mv) ms (3 + 3 * i) = .inr (ze_kT, [.ref (ad (4 + 3 * i)), .ref (ad (5 + 3 * i)), .int (nI c), .int (ze_bi o)]) := by
  rw [ze_E_t hi, va_up_self]
theorem ze_F_k (hi : i < 12) : ze_E ids ad (M, va_up T i (f, g, c, o), hd, mv) ms (4 + 3 * i) = .inl (ids 0, 60, .inl f) := by
  rw [ze_E_k hi, va_up_self]
theorem ze_F_v (hi : i < 12) : ze_E ids ad (M, va_up T i (f, g, c, o), hd, mv) ms (5 + 3 * i) = .inl (ids 0, 60, .inl g) := by
  rw [ze_E_v hi, va_up_self]
theorem ze_O_t {j : Nat} {t : ze_T} (hj : j < 12) (hn : j ≠ i) : ze_E ids ad (M, va_up T i t, hd, mv) ms (3 + 3 * j) = .inr (ze_kT, [.ref (ad (4 + 3 * j)), .ref (ad (5 + 3 * j)), .int (nI (T j).2.2.1), .int (ze_bi (T j).2.2.2)]) := by
  rw [ze_E_t hj, va_up_ne _ _ hn]
theorem ze_O_k {j : Nat} {t : ze_T} (hj : j < 12) (hn : j ≠ i) : ze_E ids ad (M, va_up T i t, hd, mv) ms (4 + 3 * j) = .inl (ids 0, 60, .inl (T j).1) := by
  rw [ze_E_k hj, va_up_ne _ _ hn]
theorem ze_O_v {j : Nat} {t : ze_T} (hj : j < 12) (hn : j ≠ i) : ze_E ids ad (M, va_up T i t, hd, mv) ms (5 + 3 * j) = .inl (ids 0, 60, .inl (T j).2.1) := by
  rw [ze_E_v hj, va_up_ne _ _ hn]
theorem ze_W_t {c' : Nat} {o' : Bool} (hi : i < 12) : va_up (ze_E ids ad (M, va_up T i (f, g, c, o), hd, mv) ms) (3 + 3 * i) (.inr (ze_kT, [.ref (ad (4 + 3 * i)), .ref (ad (5 + 3 * i)), .int (nI c'), .int (ze_bi o')])) = ze_E ids ad (M, va_up T i (f, g, c', o'), hd, mv) ms := by
  rw [ze_up_t hi, va_up_self, bx_uu]
theorem ze_W_k {f' : Nat → Int32} (hi : i < 12) : va_up (ze_E ids ad (M, va_up T i (f, g, c, o), hd, mv) ms) (4 + 3 * i) (.inl (ids 0, 60, .inl f')) = ze_E ids ad (M, va_up T i (f', g, c, o), hd, mv) ms := by
  rw [ze_up_k hi, va_up_self, bx_uu]
theorem ze_W_v {g' : Nat → Int32} (hi : i < 12) : va_up (ze_E ids ad (M, va_up T i (f, g, c, o), hd, mv) ms) (5 + 3 * i) (.inl (ids 0, 60, .inl g')) = ze_E ids ad (M, va_up T i (f, g', c, o), hd, mv) ms := by
  rw [ze_up_v hi, va_up_self, bx_uu]
end ZES
/-- the room of a method that makes nothing, k calls above the ground -/
def ze_rm (k : Nat) : Room := { frames := k, cells := 0, slots := 0, locals := 64 * k }
theorem ze_rml {k k' n : Nat} (h : k' < k) (hn : n ≤ 40) : (ze_rm k').frames + 1 ≤ (ze_rm k).frames ∧ 8 + (n + 11) + (ze_rm k').locals ≤ (ze_rm k).locals := ⟨h, by show 8 + (n + 11) + 64 * k' ≤ 64 * k; omega⟩
/-- nothing of the world has changed -/
def ze_p0 (n : Nat) (ad : Nat → Nat) (E : Nat → va_E) (P : Option Value → Prop) : ze_Po := fun v n' ad' E' => n = n' ∧ ad = ad' ∧ E = E' ∧ P v
/-- the class's state is new, the reference's as it was -/
def ze_pX (ids : Nat → ClassId) (ad : Nat → Nat) (ms : ze_MS) (P : Option Value → ze_XS → Prop) : ze_Po := fun v n' ad' E' => 48 = n' ∧ ad = ad' ∧ ∃ x', ze_E ids ad x' ms = E' ∧ P v x'
def ze_pM (ids : Nat → ClassId) (ad : Nat → Nat) (x : ze_XS) (P : Option Value → ze_MS → Prop) : ze_Po := fun v n' ad' E' => 48 = n' ∧ ad = ad' ∧ ∃ ms', ze_E ids ad x ms' = E' ∧ P v ms'
abbrev ze_MX (l : Launch) (D : va_G) (ids : Nat → ClassId) (ad : Nat → Nat) (ms : ze_MS) (y : MethodName) (ws : List Cond) (k : Nat) (x : ze_XS) (av : List Value) (P : Option Value → ze_XS → Prop) : Prop := ze_M l D ids y ws (ze_rm k) 0 0 48 ad (ze_E ids ad x ms) av (ze_pX ids ad ms P)
abbrev ze_MM (l : Launch) (D : va_G) (ids : Nat → ClassId) (ad : Nat → Nat) (x : ze_XS) (y : MethodName) (ws : List Cond) (k : Nat) (ms : ze_MS) (av : List Value) (P : Option Value → ze_MS → Prop) : Prop := ze_M l D ids y ws (ze_rm k) 0 0 48 ad (ze_E ids ad x ms) av (ze_pM ids ad x P)
