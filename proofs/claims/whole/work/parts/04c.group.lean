/-! PURE: groups. The keys in the order of their first rows, their sums, the rows whose keys come later than the first q keys -/
def ze_dk (L : List ze_Row) : List Int32 := L.foldl (fun K r => if r.1 ∈ K then K else K ++ [r.1]) []
def ze_sum (k : Int32) (L : List ze_Row) : Int32 := L.foldl (fun s r => if r.1 = k then s + r.2 else s) 0
def ze_grp (L : List ze_Row) : List ze_Row := (ze_dk L).map (fun k => (k, ze_sum k L))
/-- the rows that are left behind the first q keys -/
def ze_lf (L : List ze_Row) (q : Nat) : List ze_Row := L.filter (fun r => !decide (r.1 ∈ (ze_dk L).take q))
theorem ze_dk_snoc (L : List ze_Row) (r : ze_Row) : ze_dk (L ++ [r]) = if r.1 ∈ ze_dk L then ze_dk L else ze_dk L ++ [r.1] := by
  unfold ze_dk
  rw [List.foldl_append]
  rfl
theorem ze_sum_snoc (k : Int32) (L : List ze_Row) (r : ze_Row) : ze_sum k (L ++ [r]) = if r.1 = k then ze_sum k L + r.2 else ze_sum k L := by
  unfold ze_sum
  rw [List.foldl_append]
  rfl
theorem ze_snoc_ind {α : Type} {P : List α → Prop} (h0 : P []) (hs : ∀ L r, P L → P (L ++ [r])) (L : List α) : P L := by
  have : ∀ R : List α, P R.reverse := by
    intro R
    induction R with
    | nil => exact h0
    | cons a R ih =>
      rw [List.reverse_cons]
      exact hs _ a ih
  have h := this L.reverse
  rwa [List.reverse_reverse] at h
theorem ze_dk_mem (k : Int32) (L : List ze_Row) : k ∈ ze_dk L ↔ ∃ r ∈ L, r.1 = k := by
  refine ze_snoc_ind (P := fun L => k ∈ ze_dk L ↔ ∃ r ∈ L, r.1 = k) ?_ ?_ L
  · simp [ze_dk]
  · intro L r ih
    rw [ze_dk_snoc]
    by_cases h : r.1 ∈ ze_dk L
    · rw [if_pos h, ih]
      constructor
      · rintro ⟨x, hx, e⟩
        exact ⟨x, List.mem_append_left _ hx, e⟩
      · rintro ⟨x, hx, e⟩
        rcases List.mem_append.mp hx with hx | hx
        · exact ⟨x, hx, e⟩
        · rw [List.mem_singleton.mp hx] at e
          rw [← ih, ← e]
          exact h
    · rw [if_neg h, List.mem_append, ih, List.mem_singleton]
      constructor
      · rintro (⟨x, hx, e⟩ | e)
        · exact ⟨x, List.mem_append_left _ hx, e⟩
        · exact ⟨r, by simp, e.symm⟩
      · rintro ⟨x, hx, e⟩
        rcases List.mem_append.mp hx with hx | hx
        · exact Or.inl ⟨x, hx, e⟩
        · rw [List.mem_singleton.mp hx] at e
          exact Or.inr e.symm
theorem ze_dk_nodup (L : List ze_Row) : (ze_dk L).Nodup := by
  refine ze_snoc_ind (P := fun L => (ze_dk L).Nodup) ?_ ?_ L
  · simp [ze_dk]
  · intro L r ih
    rw [ze_dk_snoc]
    by_cases h : r.1 ∈ ze_dk L
    · rw [if_pos h]; exact ih
    · rw [if_neg h]
      refine List.pairwise_append.mpr ⟨ih, List.pairwise_singleton _ _, fun a ha b hb => ?_⟩
      rw [List.mem_singleton.mp hb]
      intro e
      exact h (e ▸ ha)
theorem ze_dk_len (L : List ze_Row) : (ze_dk L).length ≤ L.length := by
  refine ze_snoc_ind (P := fun L => (ze_dk L).length ≤ L.length) ?_ ?_ L
  · simp [ze_dk]
  · intro L r ih
    rw [ze_dk_snoc]
    by_cases h : r.1 ∈ ze_dk L
    · rw [if_pos h]; simp; omega
    · rw [if_neg h]; simp; omega
theorem ze_dk_filter (p : Int32 → Bool) (L : List ze_Row) : ze_dk (L.filter (fun r => p r.1)) = (ze_dk L).filter p := by
  refine ze_snoc_ind (P := fun L => ze_dk (L.filter (fun r => p r.1)) = (ze_dk L).filter p) ?_ ?_ L
  · simp [ze_dk]
  · intro L r ih
    rw [List.filter_append, ze_dk_snoc]
    by_cases hp : p r.1 = true
    · have e1 : [r].filter (fun r => p r.1) = [r] := by simp [hp]
      rw [e1, ze_dk_snoc, ih]
      by_cases h : r.1 ∈ ze_dk L
      · rw [if_pos h, if_pos (List.mem_filter.mpr ⟨h, hp⟩)]
      · rw [if_neg h, if_neg (fun q => h (List.mem_filter.mp q).1), List.filter_append]
        simp [hp]
    · have e1 : [r].filter (fun r => p r.1) = [] := by simp [hp]
      rw [e1, List.append_nil, ih]
      by_cases h : r.1 ∈ ze_dk L
      · rw [if_pos h]
      · rw [if_neg h, List.filter_append]
        simp [hp]
theorem ze_sum_filter (p : Int32 → Bool) (k : Int32) (hk : p k = true) (L : List ze_Row) : ze_sum k (L.filter (fun r => p r.1)) = ze_sum k L := by
  refine ze_snoc_ind (P := fun L => ze_sum k (L.filter (fun r => p r.1)) = ze_sum k L) ?_ ?_ L
  · rfl
  · intro L r ih
    rw [List.filter_append, ze_sum_snoc]
    by_cases hp : p r.1 = true
    · have e1 : [r].filter (fun r => p r.1) = [r] := by simp [hp]
      rw [e1, ze_sum_snoc, ih]
    · have e1 : [r].filter (fun r => p r.1) = [] := by simp [hp]
      have hne : ¬ r.1 = k := fun e => hp (e ▸ hk)
      rw [e1, List.append_nil, ih, if_neg hne]
theorem ze_sum_none (k : Int32) (L : List ze_Row) (h : k ∉ ze_dk L) : ze_sum k L = 0 := by
  revert h
  refine ze_snoc_ind (P := fun L => k ∉ ze_dk L → ze_sum k L = 0) ?_ ?_ L
  · intro _; rfl
  · intro L r ih h
    have h1 : ¬ r.1 = k := fun e => h ((ze_dk_mem k _).mpr ⟨r, by simp, e⟩)
    have h2 : k ∉ ze_dk L := fun q => by
      obtain ⟨x, hx, e⟩ := (ze_dk_mem k L).mp q
      exact h ((ze_dk_mem k _).mpr ⟨x, List.mem_append_left _ hx, e⟩)
    rw [ze_sum_snoc, if_neg h1, ih h2]
theorem ze_drop_filter {α : Type} [DecidableEq α] : ∀ (K : List α) (q : Nat), K.Nodup → K.filter (fun k => !decide (k ∈ K.take q)) = K.drop q
  | [], q, _ => by simp
  | a :: K, 0, _ => by simp
  | a :: K, q + 1, h => by
    obtain ⟨h1, h2⟩ := List.pairwise_cons.mp h
    have ih := ze_drop_filter K q h2
    rw [List.take_succ_cons, List.drop_succ_cons, List.filter_cons, ← ih]
    simp only [List.mem_cons, true_or, decide_true, Bool.not_true, Bool.false_eq_true, if_false]
    apply List.filter_congr
    intro k hk
    have : k ≠ a := fun e => h1 k hk e.symm
    simp [this]
/-- what is left behind q keys, behind the first e keys of it: what is left behind q + e keys -/
theorem ze_dk_lf (L : List ze_Row) (q : Nat) : ze_dk (ze_lf L q) = (ze_dk L).drop q := by
  unfold ze_lf
  rw [ze_dk_filter (fun k => !decide (k ∈ (ze_dk L).take q)) L]
  exact ze_drop_filter _ q (ze_dk_nodup L)
theorem ze_lf_lf (L : List ze_Row) (q e : Nat) : (ze_lf L q).filter (fun r => !decide (r.1 ∈ (ze_dk (ze_lf L q)).take e)) = ze_lf L (q + e) := by
  rw [ze_dk_lf]
  unfold ze_lf
  rw [List.filter_filter]
  apply List.filter_congr
  intro r _
  rw [List.take_add]
  simp only [List.mem_append]
  by_cases h1 : r.1 ∈ (ze_dk L).take q <;> by_cases h2 : r.1 ∈ ((ze_dk L).drop q).take e <;> simp [h1, h2]
theorem ze_sum_lf (L : List ze_Row) (q : Nat) {k : Int32} (hk : k ∈ ze_dk (ze_lf L q)) : ze_sum k (ze_lf L q) = ze_sum k L := by
  obtain ⟨r, hr, e⟩ := (ze_dk_mem _ _).mp hk
  have h := (List.mem_filter.mp hr).2
  rw [e] at h
  exact ze_sum_filter (fun k => !decide (k ∈ (ze_dk L).take q)) k h L
theorem ze_lf_nil {L : List ze_Row} {q : Nat} : ze_lf L q = [] ↔ (ze_dk L).length ≤ q := by
  constructor
  · intro h
    have h2 := ze_dk_lf L q
    rw [h] at h2
    have : ((ze_dk L).drop q).length = 0 := by rw [← h2]; rfl
    rw [List.length_drop] at this
    omega
  · intro h
    unfold ze_lf
    rw [List.filter_eq_nil_iff]
    intro r hr
    have : r.1 ∈ (ze_dk L).take q := by
      rw [List.take_of_length_le h]
      exact (ze_dk_mem _ _).mpr ⟨r, hr, rfl⟩
    simp [this]
theorem ze_lf_0 (L : List ze_Row) : ze_lf L 0 = L := by
  unfold ze_lf
  simp
