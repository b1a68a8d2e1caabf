/-! PURE: rows, their orders, the stable sorting by insertion, the places by rank, the sorted rows without repeats -/
abbrev ze_Row : Type := Int32 × Int32
/-- the order o: 0 by key, 1 by value, else by key and value -/
def ze_lt (o : Nat) (a b : ze_Row) : Bool :=
  if o = 0 then decide (a.1.toInt < b.1.toInt)
  else if o = 1 then decide (a.2.toInt < b.2.toInt)
  else decide (a.1.toInt < b.1.toInt ∨ (a.1.toInt = b.1.toInt ∧ a.2.toInt < b.2.toInt))
theorem ze_lt_iff (o : Nat) (a b : ze_Row) : ze_lt o a b = true ↔ ((o = 0 ∧ a.1.toInt < b.1.toInt) ∨ (o = 1 ∧ a.2.toInt < b.2.toInt) ∨ (o ≠ 0 ∧ o ≠ 1 ∧ (a.1.toInt < b.1.toInt ∨ (a.1.toInt = b.1.toInt ∧ a.2.toInt < b.2.toInt)))) := by
  unfold ze_lt
  split
  · rename_i h; subst h; simp
  · split
    · rename_i h; subst h; simp
    · rename_i h0 h1; simp [h0, h1]
theorem ze_lt_asym {o : Nat} {a b : ze_Row} (h : ze_lt o a b = true) : ze_lt o b a = false := by
  refine Bool.eq_false_iff.mpr (fun h2 => ?_)
  rw [ze_lt_iff] at h h2
  omega
theorem ze_lt_ntr {o : Nat} {a b c : ze_Row} (h1 : ze_lt o a b = false) (h2 : ze_lt o b c = false) : ze_lt o a c = false := by
  refine Bool.eq_false_iff.mpr (fun h3 => ?_)
  have h1 := Bool.eq_false_iff.mp h1
  have h2 := Bool.eq_false_iff.mp h2
  rw [ne_eq, ze_lt_iff] at h1 h2
  rw [ze_lt_iff] at h3
  omega
theorem ze_lt_trans {o : Nat} {a b c : ze_Row} (h1 : ze_lt o a b = true) (h2 : ze_lt o b c = true) : ze_lt o a c = true := by
  rw [ze_lt_iff] at h1 h2 ⊢
  omega
theorem ze_lt_tri {a b : ze_Row} (h1 : ze_lt 2 a b = false) (h2 : ze_lt 2 b a = false) : a = b := by
  have h1 := Bool.eq_false_iff.mp h1
  have h2 := Bool.eq_false_iff.mp h2
  rw [ne_eq, ze_lt_iff] at h1 h2
  have e1 : a.1.toInt = b.1.toInt := by omega
  have e2 : a.2.toInt = b.2.toInt := by omega
  exact Prod.ext (Int32.toInt_inj.mp e1) (Int32.toInt_inj.mp e2)
theorem ze_lt_irr {o : Nat} {a : ze_Row} : ze_lt o a a = false := by
  refine Bool.eq_false_iff.mpr (fun h => ?_)
  rw [ze_lt_iff] at h
  omega
/-- insertion into a list that lies backwards -/
def ze_insG {α : Type} (lt : α → α → Bool) (r : α) : List α → List α
  | [] => [r]
  | e :: Q => if lt r e = true then e :: ze_insG lt r Q else r :: e :: Q
def ze_srtG {α : Type} (lt : α → α → Bool) (L : List α) : List α := (L.foldl (fun Q r => ze_insG lt r Q) []).reverse
def ze_srt (o : Nat) (L : List ze_Row) : List ze_Row := ze_srtG (ze_lt o) L
theorem ze_insG_perm {α : Type} (lt : α → α → Bool) (r : α) : ∀ Q : List α, (ze_insG lt r Q).Perm (r :: Q)
  | [] => List.Perm.refl _
  | e :: Q => by
    by_cases h : lt r e = true
    · simp only [ze_insG, h, if_true]
      exact ((ze_insG_perm lt r Q).cons e).trans (List.Perm.swap r e Q)
    · simp only [ze_insG, h]
      exact List.Perm.refl _
theorem ze_fold_perm {α : Type} (lt : α → α → Bool) : ∀ (L Q : List α), (L.foldl (fun Q r => ze_insG lt r Q) Q).Perm (L ++ Q)
  | [], Q => List.Perm.refl _
  | a :: L, Q => by
    rw [List.foldl_cons]
    exact (ze_fold_perm lt L _).trans (((ze_insG_perm lt a Q).append_left L).trans List.perm_middle)
theorem ze_srtG_perm {α : Type} (lt : α → α → Bool) (L : List α) : (ze_srtG lt L).Perm L := by
  have h := ze_fold_perm lt L []
  rw [List.append_nil] at h
  exact (List.reverse_perm _).trans h
theorem ze_insG_map {α β : Type} {φ : α → β} {lt : β → β → Bool} (r : α) : ∀ Q : List α, (ze_insG (fun a b => lt (φ a) (φ b)) r Q).map φ = ze_insG lt (φ r) (Q.map φ)
  | [] => rfl
  | e :: Q => by
    by_cases h : lt (φ r) (φ e) = true
    · simp only [ze_insG, h, if_true, List.map_cons, ze_insG_map r Q]
    · simp only [ze_insG, h, List.map_cons]
      rfl
theorem ze_fold_map {α β : Type} {φ : α → β} {lt : β → β → Bool} : ∀ (L Q : List α), (L.foldl (fun Q r => ze_insG (fun a b => lt (φ a) (φ b)) r Q) Q).map φ = (L.map φ).foldl (fun Q r => ze_insG lt r Q) (Q.map φ)
  | [], Q => rfl
  | a :: L, Q => by
    rw [List.foldl_cons, ze_fold_map L, ze_insG_map, List.map_cons, List.foldl_cons]
theorem ze_srtG_map {α β : Type} {φ : α → β} {lt : β → β → Bool} (L : List α) : (ze_srtG (fun a b => lt (φ a) (φ b)) L).map φ = ze_srtG lt (L.map φ) := by
  unfold ze_srtG
  rw [List.map_reverse, ze_fold_map]
  rfl
/-- a before b: smaller, or not greater and of a smaller number -/
def ze_bf (lt : Nat → Nat → Bool) (a b : Nat) : Bool := lt a b || (!lt b a && decide (a < b))
theorem ze_bf_asym {lt : Nat → Nat → Bool} (as : ∀ a b, lt a b = true → lt b a = false) {a b : Nat} (h : ze_bf lt a b = true) : ze_bf lt b a = false := by
  unfold ze_bf at h ⊢
  cases h1 : lt a b with
  | true => simp [as a b h1]
  | false =>
    rw [h1] at h
    simp only [Bool.false_or, Bool.and_eq_true, Bool.not_eq_true', decide_eq_true_eq] at h
    rw [h.1]
    simp only [Bool.not_false, Bool.true_and, Bool.false_or, decide_eq_false_iff_not]
    omega
theorem ze_bf_irr {lt : Nat → Nat → Bool} (as : ∀ a b, lt a b = true → lt b a = false) {a : Nat} : ze_bf lt a a = false := by
  refine Bool.eq_false_iff.mpr (fun h => ?_)
  have := ze_bf_asym as h
  rw [h] at this
  cases this
theorem ze_bf_nlt {lt : Nat → Nat → Bool} (as : ∀ a b, lt a b = true → lt b a = false) {a b : Nat} (h : ze_bf lt a b = true) : lt b a = false := by
  unfold ze_bf at h
  cases h1 : lt a b with
  | true => exact as a b h1
  | false =>
    rw [h1] at h
    simp only [Bool.false_or, Bool.and_eq_true, Bool.not_eq_true'] at h
    exact h.1
theorem ze_insG_pw {lt : Nat → Nat → Bool} (as : ∀ a b, lt a b = true → lt b a = false) (nt : ∀ a b c, lt a b = false → lt b c = false → lt a c = false) (k : Nat) : ∀ Q : List Nat, Q.Pairwise (fun a b => ze_bf lt b a = true) → (∀ e ∈ Q, e < k) → (ze_insG lt k Q).Pairwise (fun a b => ze_bf lt b a = true)
  | [], _, _ => by simp [ze_insG]
  | e :: Q, hQ, hk => by
    obtain ⟨h1, h2⟩ := List.pairwise_cons.mp hQ
    by_cases h : lt k e = true
    · simp only [ze_insG, h, if_true]
      refine List.pairwise_cons.mpr ⟨fun z hz => ?_, ze_insG_pw as nt k Q h2 (fun z hz => hk z (List.mem_cons_of_mem _ hz))⟩
      rcases List.mem_cons.mp ((ze_insG_perm lt k Q).mem_iff.mp hz) with rfl | hz
      · simp [ze_bf, h]
      · exact h1 z hz
    · have h' : lt k e = false := Bool.eq_false_iff.mpr h
      simp only [ze_insG, h]
      refine List.pairwise_cons.mpr ⟨fun z hz => ?_, hQ⟩
      have hzk := hk z hz
      have hkz : lt k z = false := by
        rcases List.mem_cons.mp hz with rfl | hz
        · exact h'
        · exact nt k e z h' (ze_bf_nlt as (h1 z hz))
      simp [ze_bf, hkz, hzk]
theorem ze_fold_pw {lt : Nat → Nat → Bool} (as : ∀ a b, lt a b = true → lt b a = false) (nt : ∀ a b c, lt a b = false → lt b c = false → lt a c = false) : ∀ n : Nat, ((List.range n).foldl (fun Q r => ze_insG lt r Q) []).Pairwise (fun a b => ze_bf lt b a = true)
  | 0 => List.Pairwise.nil
  | n + 1 => by
    rw [List.range_succ, List.foldl_append]
    refine ze_insG_pw as nt n _ (ze_fold_pw as nt n) (fun e he => ?_)
    have h := (ze_fold_perm lt (List.range n) []).mem_iff.mp he
    rw [List.append_nil] at h
    exact List.mem_range.mp h
theorem ze_rank_at {lt : Nat → Nat → Bool} (as : ∀ a b, lt a b = true → lt b a = false) : ∀ (I : List Nat), I.Pairwise (fun a b => ze_bf lt a b = true) → ∀ (p i : Nat), I[p]? = some i → I.countP (fun j => ze_bf lt j i) = p
  | [], _, p, i, h => by simp at h
  | a :: I, hp, 0, i, h => by
    obtain ⟨h1, h2⟩ := List.pairwise_cons.mp hp
    simp only [List.getElem?_cons_zero, Option.some.injEq] at h
    subst h
    rw [List.countP_eq_zero]
    intro z hz
    rcases List.mem_cons.mp hz with rfl | hz
    · rw [ze_bf_irr as]; simp
    · rw [ze_bf_asym as (h1 z hz)]; simp
  | a :: I, hp, p + 1, i, h => by
    obtain ⟨h1, h2⟩ := List.pairwise_cons.mp hp
    rw [List.getElem?_cons_succ] at h
    rw [List.countP_cons_of_pos (p := fun j => ze_bf lt j i) (h1 i (List.mem_of_getElem? h)), ze_rank_at as I h2 p i h]
abbrev ze_li (o : Nat) (L : List ze_Row) : Nat → Nat → Bool := fun a b => ze_lt o (L.getD a (0, 0)) (L.getD b (0, 0))
theorem ze_li_as (o : Nat) (L : List ze_Row) : ∀ a b, ze_li o L a b = true → ze_li o L b a = false := fun a b h => ze_lt_asym (a := L.getD a (0, 0)) (b := L.getD b (0, 0)) h
theorem ze_li_nt (o : Nat) (L : List ze_Row) : ∀ a b c, ze_li o L a b = false → ze_li o L b c = false → ze_li o L a c = false := fun a b c h1 h2 => ze_lt_ntr (a := L.getD a (0, 0)) (b := L.getD b (0, 0)) (c := L.getD c (0, 0)) h1 h2
/-- how many rows stand before row i in the stable order -/
def ze_rk (o : Nat) (L : List ze_Row) (i : Nat) : Nat := (List.range L.length).countP (fun j => ze_bf (ze_li o L) j i)
def ze_ix (o : Nat) (L : List ze_Row) : List Nat := ze_srtG (ze_li o L) (List.range L.length)
theorem ze_ix_perm (o : Nat) (L : List ze_Row) : (ze_ix o L).Perm (List.range L.length) := ze_srtG_perm _ _
theorem ze_ix_pw (o : Nat) (L : List ze_Row) : (ze_ix o L).Pairwise (fun a b => ze_bf (ze_li o L) a b = true) := by
  have h := ze_fold_pw (lt := ze_li o L) (ze_li_as o L) (ze_li_nt o L) L.length
  unfold ze_ix ze_srtG
  rw [List.pairwise_reverse]
  exact h
theorem ze_ix_map (o : Nat) (L : List ze_Row) : ze_srt o L = (ze_ix o L).map (fun a => L.getD a (0, 0)) := by
  have h := ze_srtG_map (φ := fun a => L.getD a (0, 0)) (lt := ze_lt o) (List.range L.length)
  have hL : (List.range L.length).map (fun a => L.getD a (0, 0)) = L := by
    apply List.ext_getElem?
    intro j
    by_cases hj : j < L.length
    · simp [hj]
    · simp [hj]
  rw [hL] at h
  exact h.symm
theorem ze_rk_eq {o : Nat} {L : List ze_Row} {p i : Nat} (h : (ze_ix o L)[p]? = some i) : ze_rk o L i = p := by
  rw [ze_rk, ← (ze_ix_perm o L).countP_eq]
  exact ze_rank_at (lt := ze_li o L) (ze_li_as o L) _ (ze_ix_pw o L) p i h
theorem ze_ix_rk {o : Nat} {L : List ze_Row} {i : Nat} (hi : i < L.length) : (ze_ix o L)[ze_rk o L i]? = some i := by
  obtain ⟨p, hp⟩ := List.getElem?_of_mem ((ze_ix_perm o L).mem_iff.mpr (List.mem_range.mpr hi))
  rw [ze_rk_eq hp]
  exact hp
theorem ze_srt_perm (o : Nat) (L : List ze_Row) : (ze_srt o L).Perm L := ze_srtG_perm _ _
theorem ze_srt_len (o : Nat) (L : List ze_Row) : (ze_srt o L).length = L.length := (ze_srt_perm o L).length_eq
theorem ze_rk_lt {o : Nat} {L : List ze_Row} {i : Nat} (hi : i < L.length) : ze_rk o L i < L.length := by
  have h := (List.getElem?_eq_some_iff.mp (ze_ix_rk (o := o) hi)).1
  rw [(ze_ix_perm o L).length_eq, List.length_range] at h
  exact h
theorem ze_rk_inj {o : Nat} {L : List ze_Row} {i j : Nat} (hi : i < L.length) (hj : j < L.length) (h : ze_rk o L i = ze_rk o L j) : i = j := by
  have h1 := ze_ix_rk (o := o) hi
  have h2 := ze_ix_rk (o := o) hj
  rw [h, h2] at h1
  exact (Option.some.inj h1).symm
theorem ze_rk_sur {o : Nat} {L : List ze_Row} {p : Nat} (hp : p < L.length) : ∃ i, i < L.length ∧ ze_rk o L i = p := by
  have hl : p < (ze_ix o L).length := by rw [(ze_ix_perm o L).length_eq, List.length_range]; exact hp
  refine ⟨(ze_ix o L)[p], ?_, ze_rk_eq (List.getElem?_eq_getElem hl)⟩
  exact List.mem_range.mp ((ze_ix_perm o L).mem_iff.mp (List.getElem_mem hl))
theorem ze_srt_rk {o : Nat} {L : List ze_Row} {i : Nat} (hi : i < L.length) : (ze_srt o L)[ze_rk o L i]? = L[i]? := by
  rw [ze_ix_map, List.getElem?_map, ze_ix_rk hi]
  simp [hi]
theorem ze_srt_pw (o : Nat) (L : List ze_Row) : (ze_srt o L).Pairwise (fun a b => ze_lt o b a = false) := by
  rw [ze_ix_map, List.pairwise_map]
  exact (ze_ix_pw o L).imp (fun {a b} h => ze_bf_nlt (lt := ze_li o L) (ze_li_as o L) h)
/-- one step of the sorting: the rows behind r are greater, the row ahead of it isn't -/
theorem ze_ins_app {α : Type} {lt : α → α → Bool} {r : α} : ∀ (A B : List α), (∀ e ∈ A, lt r e = true) → ze_insG lt r (A ++ B) = A ++ ze_insG lt r B
  | [], B, _ => rfl
  | e :: A, B, h => by
    have he := h e List.mem_cons_self
    simp only [List.cons_append, ze_insG, he, if_true]
    rw [ze_ins_app A B (fun z hz => h z (List.mem_cons_of_mem _ hz))]
theorem ze_ins_split {α : Type} {lt : α → α → Bool} {r : α} {P1 P2 : List α} (h2 : ∀ e ∈ P2, lt r e = true) (h1 : ∀ e, P1.getLast? = some e → lt r e = false) : ze_insG lt r (P1 ++ P2).reverse = (P1 ++ r :: P2).reverse := by
  rw [List.reverse_append, ze_ins_app _ _ (fun e he => h2 e (List.mem_reverse.mp he))]
  have : ze_insG lt r P1.reverse = r :: P1.reverse := by
    cases hq : P1.reverse with
    | nil => rfl
    | cons e Q =>
      have hl : P1.getLast? = some e := by rw [← List.head?_reverse, hq]; rfl
      simp only [ze_insG, h1 e hl]
      rfl
  rw [this]
  simp
theorem ze_srt_snoc (o : Nat) (L : List ze_Row) (r : ze_Row) : ze_srt o (L ++ [r]) = (ze_insG (ze_lt o) r (ze_srt o L).reverse).reverse := by
  unfold ze_srt ze_srtG
  rw [List.foldl_append, List.reverse_reverse]
  rfl
/-- without repeats -/
def ze_dd (S : List ze_Row) : List ze_Row := S.foldl (fun K r => if K.getLast? = some r then K else K ++ [r]) []
theorem ze_dd_snoc (S : List ze_Row) (r : ze_Row) : ze_dd (S ++ [r]) = if (ze_dd S).getLast? = some r then ze_dd S else ze_dd S ++ [r] := by
  unfold ze_dd
  rw [List.foldl_append]
  rfl
theorem ze_dd_gen : ∀ (S K : List ze_Row), K.Pairwise (fun a b => ze_lt 2 a b = true) → (∀ a ∈ K, ∀ b ∈ S, ze_lt 2 b a = false) → S.Pairwise (fun a b => ze_lt 2 b a = false) →
    (S.foldl (fun K r => if K.getLast? = some r then K else K ++ [r]) K).Pairwise (fun a b => ze_lt 2 a b = true) ∧ ∀ r, r ∈ S.foldl (fun K r => if K.getLast? = some r then K else K ++ [r]) K ↔ r ∈ K ∨ r ∈ S
  | [], K, h1, _, _ => ⟨h1, fun r => by simp⟩
  | s :: S, K, h1, h2, h3 => by
    obtain ⟨h4, h5⟩ := List.pairwise_cons.mp h3
    rw [List.foldl_cons]
    by_cases hl : K.getLast? = some s
    · rw [if_pos hl]
      obtain ⟨g1, g2⟩ := ze_dd_gen S K h1 (fun a ha b hb => h2 a ha b (List.mem_cons_of_mem _ hb)) h5
      refine ⟨g1, fun r => ?_⟩
      rw [g2 r, List.mem_cons]
      constructor
      · rintro (h | h)
        · exact Or.inl h
        · exact Or.inr (Or.inr h)
      · rintro (h | rfl | h)
        · exact Or.inl h
        · exact Or.inl (List.mem_of_getLast? hl)
        · exact Or.inr h
    · rw [if_neg hl]
      have key : ∀ a ∈ K, ze_lt 2 a s = true := by
        intro a ha
        have hsa := h2 a ha s List.mem_cons_self
        cases hq : ze_lt 2 a s with
        | true => rfl
        | false =>
          have e := ze_lt_tri hq hsa
          subst e
          exfalso
          obtain ⟨K', z, rfl⟩ : ∃ K' z, K = K' ++ [z] := by
            rcases List.eq_nil_or_concat K with rfl | ⟨K', z, h⟩
            · cases ha
            · exact ⟨K', z, by simpa using h⟩
          rcases List.mem_append.mp ha with h | h
          · have hz := (List.pairwise_append.mp h1).2.2 a h z (List.mem_singleton.mpr rfl)
            rw [h2 z (by simp) a List.mem_cons_self] at hz
            cases hz
          · rw [List.mem_singleton.mp h] at hl
            simp at hl
      obtain ⟨g1, g2⟩ := ze_dd_gen S (K ++ [s]) (List.pairwise_append.mpr ⟨h1, List.pairwise_singleton _ _, fun a ha b hb => by rw [List.mem_singleton.mp hb]; exact key a ha⟩) (fun a ha b hb => by
        rcases List.mem_append.mp ha with h | h
        · exact h2 a h b (List.mem_cons_of_mem _ hb)
        · rw [List.mem_singleton.mp h]; exact h4 b hb) h5
      refine ⟨g1, fun r => ?_⟩
      rw [g2 r, List.mem_append, List.mem_singleton, List.mem_cons, or_assoc]
theorem ze_dd_ok {S : List ze_Row} (h : S.Pairwise (fun a b => ze_lt 2 b a = false)) : (ze_dd S).Pairwise (fun a b => ze_lt 2 a b = true) ∧ ∀ r, r ∈ ze_dd S ↔ r ∈ S := by
  obtain ⟨g1, g2⟩ := ze_dd_gen S [] List.Pairwise.nil (fun a ha => by cases ha) h
  exact ⟨g1, fun r => by rw [ze_dd, g2 r]; simp⟩
/-- two lists that rise and have the same members are one -/
theorem ze_up_uniq {A B : List ze_Row} (hA : A.Pairwise (fun a b => ze_lt 2 a b = true)) (hB : B.Pairwise (fun a b => ze_lt 2 a b = true)) (h : ∀ r, r ∈ A ↔ r ∈ B) : A = B := by
  have nd : ∀ {X : List ze_Row}, X.Pairwise (fun a b => ze_lt 2 a b = true) → X.Nodup := fun hX => hX.imp (fun {a b} h e => by
    subst e
    rw [ze_lt_irr] at h
    cases h)
  refine List.Perm.eq_of_pairwise (le := fun a b => ze_lt 2 a b = true) (fun a b _ _ h1 h2 => ?_) hA hB ((List.perm_ext_iff_of_nodup (nd hA) (nd hB)).mpr h)
  rw [ze_lt_asym h1] at h2
  cases h2
