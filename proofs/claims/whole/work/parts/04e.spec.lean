/-! THE VALUE that class and reference both keep: input, slots, transfers, frames; and what each call makes of it -/
def ze_sz (n : Nat) : Nat := (n + 3) / 4
/-- passes: from r runs, with M frames, at most k of them -/
def ze_ps (M : Nat) : Nat → Nat → Nat
  | 0, _ => 0
  | k + 1, r => if 1 < r then ze_ps M k ((r + (M - 1) - 1) / (M - 1)) + 1 else 0
def ze_sc (M n : Nat) : Nat := 2 * ze_sz n * (1 + ze_ps M 60 ((ze_sz n + M - 1) / M))
def ze_rm4 (M : Nat) : Nat := 4 * (M - 2)
/-- the cost of the rounds of group from the key q on -/
def ze_gc (e : Nat) (L : List ze_Row) : Nat → Nat → Nat
  | 0, _ => 0
  | k + 1, q => if q < (ze_dk L).length then ze_sz (ze_lf L q).length + ze_sz (ze_lf L (q + e)).length + ze_gc e L k (q + e) else 0
def ze_dg (M : Nat) (v : Int32) (lev : Nat) : Nat := (v.toInt % (((M - 1) * (M - 1) * (M - 1) : Nat) : Int)).toNat / (M - 1) ^ lev % (M - 1)
/-- the rows of A joined with those of B, A's rows outside -/
def ze_jr (A B : List ze_Row) : List ze_Row := A.flatMap (fun a => (B.filter (fun b => decide (b.1 = a.2))).map (fun b => (a.1, b.2)))
/-- B in chunks of w rows -/
def ze_jc (w : Nat) (A : List ze_Row) : Nat → List ze_Row → List ze_Row
  | 0, _ => []
  | k + 1, B => if B = [] then [] else ze_jr A (B.take w) ++ ze_jc w A k (B.drop w)
def ze_pt (M lev p : Nat) (f : ze_Row → Int32) (A : List ze_Row) : List ze_Row := A.filter (fun r => decide (ze_dg M (f r) lev = p))
/-- the join at a level, k levels above the last: rows and cost -/
def ze_jn (M : Nat) : Nat → List ze_Row → List ze_Row → List ze_Row × Nat
  | 0, A, B => if A = [] ∨ B = [] then ([], 0) else (ze_jc (ze_rm4 M) A B.length B, ze_sz B.length + (B.length + ze_rm4 M - 1) / ze_rm4 M * ze_sz A.length)
  | k + 1, A, B => if A = [] ∨ B = [] then ([], 0)
    else if B.length ≤ ze_rm4 M then (ze_jc (ze_rm4 M) A B.length B, ze_sz B.length + (B.length + ze_rm4 M - 1) / ze_rm4 M * ze_sz A.length)
    else ((List.range (M - 1)).flatMap (fun p => (ze_jn M k (ze_pt M (2 - k) p (fun r => r.2) A) (ze_pt M (2 - k) p (fun r => r.1) B)).1),
      ze_sz A.length + ze_sz B.length + ((List.range (M - 1)).map (fun p => ze_sz (ze_pt M (2 - k) p (fun r => r.2) A).length + ze_sz (ze_pt M (2 - k) p (fun r => r.1) B).length + (ze_jn M k (ze_pt M (2 - k) p (fun r => r.2) A) (ze_pt M (2 - k) p (fun r => r.1) B)).2)).sum)
/-- input, slots, moved, frames -/
abbrev ze_Sg : Type := List ze_Row × (Nat → Option (List ze_Row)) × Int64 × Nat
def ze_isS (s : Int32) : Bool := decide (0 ≤ s.toInt ∧ s.toInt < 8)
def ze_n (s : Int32) : Nat := s.toInt.toNat
def sp_put (σ : ze_Sg) (k v : Int32) : Int32 × ze_Sg := if σ.1.length = 60 then (0, σ) else (1, (σ.1 ++ [(k, v)], σ.2))
def sp_store (σ : ze_Sg) (into : Int32) : Int32 × ze_Sg :=
  if ze_isS into = false then (-1, σ) else match σ.2.1 (ze_n into) with
    | some _ => (-3, σ)
    | none => (nI σ.1.length, ([], va_up σ.2.1 (ze_n into) (some σ.1), σ.2.2.1 + lN (ze_sz σ.1.length), σ.2.2.2))
def sp_drop (σ : ze_Sg) (s : Int32) : Int32 × ze_Sg :=
  if ze_isS s = false then (-1, σ) else match σ.2.1 (ze_n s) with
    | none => (-2, σ)
    | some L => (nI L.length, (σ.1, va_up σ.2.1 (ze_n s) none, σ.2.2))
def sp_rows (σ : ze_Sg) (s : Int32) : Int32 := if ze_isS s = false then -1 else match σ.2.1 (ze_n s) with
  | none => -1
  | some L => nI L.length
def sp_at (f : ze_Row → Int32) (σ : ze_Sg) (s p : Int32) : Int32 := if ze_isS s = false then 0 else match σ.2.1 (ze_n s) with
  | none => 0
  | some L => if p.toInt < 0 then 0 else match L[p.toInt.toNat]? with
    | none => 0
    | some r => f r
def sp_fin (σ : ze_Sg) (j : Nat) (q : List ze_Row × Nat) : Int32 × ze_Sg := if 60 < q.1.length then (-4, σ) else (nI q.1.length, (σ.1, va_up σ.2.1 j (some q.1), σ.2.2.1 + lN q.2, σ.2.2.2))
def sp_op (σ : ze_Sg) (ok : Bool) (a b into : Int32) (f : List ze_Row → List ze_Row → List ze_Row × Nat) : Int32 × ze_Sg :=
  if (ok && ze_isS a && ze_isS b && ze_isS into) = false then (-1, σ) else match σ.2.1 (ze_n a), σ.2.1 (ze_n b) with
    | some A, some B => match σ.2.1 (ze_n into) with
      | some _ => (-3, σ)
      | none => sp_fin σ (ze_n into) (f A B)
    | _, _ => (-2, σ)
def sp_sort (σ : ze_Sg) (from_ order into : Int32) : Int32 × ze_Sg := sp_op σ (decide (0 ≤ order.toInt ∧ order.toInt ≤ 2)) from_ from_ into (fun A _ => (ze_srt (ze_n order) A, ze_sc σ.2.2.2 A.length))
def ze_sel (low high : Int32) (A : List ze_Row) : List ze_Row := A.filter (fun r => decide (low ≤ r.1 ∧ r.1 ≤ high))
def sp_select (σ : ze_Sg) (from_ low high into : Int32) : Int32 × ze_Sg := sp_op σ true from_ from_ into (fun A _ => (ze_sel low high A, ze_sz A.length + ze_sz (ze_sel low high A).length))
def sp_distinct (σ : ze_Sg) (from_ into : Int32) : Int32 × ze_Sg := sp_op σ true from_ from_ into (fun A _ => (ze_un A A, ze_sc σ.2.2.2 A.length + ze_sz A.length + ze_sz (ze_un A A).length))
def sp_group (σ : ze_Sg) (from_ into : Int32) : Int32 × ze_Sg := sp_op σ true from_ from_ into (fun A _ => (ze_grp A, ze_gc (ze_rm4 σ.2.2.2) A 60 0 + ze_sz (ze_grp A).length))
def sp_combine (σ : ze_Sg) (kind a b into : Int32) : Int32 × ze_Sg := sp_op σ (decide (0 ≤ kind.toInt ∧ kind.toInt ≤ 3)) a b into (fun A B => (ze_cmb (ze_n kind) A B, ze_sc σ.2.2.2 A.length + ze_sc σ.2.2.2 B.length + ze_sz A.length + ze_sz B.length + ze_sz (ze_cmb (ze_n kind) A B).length))
def sp_join (σ : ze_Sg) (a b into : Int32) : Int32 × ze_Sg := sp_op σ true a b into (fun A B => ((ze_jn σ.2.2.2 3 A B).1, (ze_jn σ.2.2.2 3 A B).2 + ze_sz (ze_jn σ.2.2.2 3 A B).1.length))
def sp_blocks (σ : ze_Sg) : Nat := ((List.range 8).map (fun j => match σ.2.1 j with
  | none => 0
  | some L => ze_sz L.length)).sum
/-- a table holds the rows L -/
def ze_H (t : ze_T) (L : List ze_Row) : Prop := t.2.2.1 = L.length ∧ L.length ≤ 60 ∧ ze_Hl t.1 t.2.1 0 L
/-- a table that was made of the rows L, of which it has room for 60 -/
def ze_Hu (t : ze_T) (L : List ze_Row) : Prop := t.2.2.1 = min L.length 60 ∧ t.2.2.2 = decide (60 < L.length) ∧ ze_Hl t.1 t.2.1 0 (L.take 60)
theorem ze_H_row {t : ze_T} {L : List ze_Row} {i : Nat} (h : ze_H t L) (hi : i < L.length) : L[i]? = some (t.1 i, t.2.1 i) := by
  have := ze_Hl_row h.2.2 hi
  rwa [Nat.zero_add] at this
theorem ze_Hu_H {t : ze_T} {L : List ze_Row} (h : ze_Hu t L) (hl : ¬ 60 < L.length) : ze_H t L := by
  obtain ⟨h1, h2, h3⟩ := h
  rw [List.take_of_length_le (by omega)] at h3
  exact ⟨by rw [h1]; omega, by omega, h3⟩
theorem ze_Hu_0 {f g : Nat → Int32} : ze_Hu (f, g, 0, false) [] := ⟨rfl, rfl, ze_Hl_nil⟩
/-- one more row -/
theorem ze_Hu_snoc {f g : Nat → Int32} {c : Nat} {o : Bool} {L : List ze_Row} {r : ze_Row} (h : ze_Hu (f, g, c, o) L) : ze_Hu (if c < 60 then (upd f c r.1, upd g c r.2, c + 1, o) else (f, g, c, true)) (L ++ [r]) := by
  obtain ⟨h1, h2, h3⟩ := h
  simp only at h1 h2 h3
  by_cases hc : c < 60
  · have hL : L.length = c := by omega
    rw [if_pos hc]
    refine ⟨by simp; omega, by rw [h2]; simp; omega, ?_⟩
    rw [List.take_of_length_le (by omega)] at h3
    rw [List.take_of_length_le (by simp; omega)]
    have := ze_Hl_snoc (r := r) h3
    rw [Nat.zero_add, hL] at this
    exact this
  · rw [if_neg hc]
    refine ⟨by simp; omega, by simp; omega, ?_⟩
    simp only
    rw [List.take_append_of_le_length (by omega)]
    exact h3
/-- the class's state x has the value σ -/
def ze_rX (x : ze_XS) (σ : ze_Sg) : Prop := x.1 = σ.2.2.2 ∧ 3 ≤ σ.2.2.2 ∧ σ.2.2.2 ≤ 6 ∧ x.2.2.2 = σ.2.2.1 ∧ ze_H (x.2.1 8) σ.1 ∧ (∀ j, j < 8 → σ.2.1 j = none → x.2.2.1 j = false) ∧ (∀ j, j < 8 → ∀ L, σ.2.1 j = some L → x.2.2.1 j = true ∧ ze_H (x.2.1 j) L)
