/-! PURE: the union of two bags row by row; the merge of two sorted lists -/
def ze_tm (kind a b : Nat) : Nat := if kind = 0 then max a b else if kind = 1 then min a b else if kind = 2 then a - b else a + b
def ze_pick : List ze_Row → List ze_Row → Option ze_Row
  | [], [] => none
  | [], b :: _ => some b
  | a :: _, [] => some a
  | a :: _, b :: _ => if ze_lt 2 b a = true then some b else some a
/-- how many rows at the head are r -/
def ze_rep (r : ze_Row) : List ze_Row → Nat
  | [] => 0
  | a :: A => if a = r then ze_rep r A + 1 else 0
def ze_mg (kind : Nat) : Nat → List ze_Row → List ze_Row → List ze_Row
  | 0, _, _ => []
  | k + 1, A, B => match ze_pick A B with
    | none => []
    | some r => List.replicate (ze_tm kind (ze_rep r A) (ze_rep r B)) r ++ ze_mg kind k (A.drop (ze_rep r A)) (B.drop (ze_rep r B))
def ze_un (A B : List ze_Row) : List ze_Row := ze_dd (ze_srt 2 (A ++ B))
def ze_cmb (kind : Nat) (A B : List ze_Row) : List ze_Row := (ze_un A B).flatMap (fun r => List.replicate (ze_tm kind (A.count r) (B.count r)) r)
abbrev ze_so (A : List ze_Row) : Prop := A.Pairwise (fun a b => ze_lt 2 b a = false)
abbrev ze_ri (A : List ze_Row) : Prop := A.Pairwise (fun a b => ze_lt 2 a b = true)
theorem ze_un_ri (A B : List ze_Row) : ze_ri (ze_un A B) := (ze_dd_ok (ze_srt_pw 2 _)).1
theorem ze_un_mem (A B : List ze_Row) (r : ze_Row) : r ∈ ze_un A B ↔ r ∈ A ∨ r ∈ B := by
  rw [ze_un, (ze_dd_ok (ze_srt_pw 2 _)).2 r, (ze_srt_perm 2 _).mem_iff, List.mem_append]
theorem ze_un_self (A : List ze_Row) : ze_un A A = ze_dd (ze_srt 2 A) := by
  refine ze_up_uniq (ze_un_ri A A) (ze_dd_ok (ze_srt_pw 2 _)).1 (fun r => ?_)
  rw [ze_un_mem, (ze_dd_ok (ze_srt_pw 2 _)).2 r, (ze_srt_perm 2 _).mem_iff]
  simp
theorem ze_gt_of {a x r : ze_Row} (h1 : ze_lt 2 r a = true) (h2 : ze_lt 2 x a = false) : ze_lt 2 r x = true := by
  cases h : ze_lt 2 r x with
  | true => rfl
  | false =>
    rw [ze_lt_ntr h h2] at h1
    cases h1
theorem ze_rep_ok (r : ze_Row) : ∀ A : List ze_Row, ze_so A → (∀ x ∈ A, ze_lt 2 x r = false) → (∀ x ∈ A.drop (ze_rep r A), ze_lt 2 r x = true) ∧ A.count r = ze_rep r A ∧ (∀ x, x ≠ r → A.count x = (A.drop (ze_rep r A)).count x) ∧ (∀ x, x ∈ A → x = r ∨ x ∈ A.drop (ze_rep r A)) ∧ ze_rep r A ≤ A.length
  | [], _, _ => by simp [ze_rep]
  | a :: A, hs, hr => by
    obtain ⟨h1, h2⟩ := List.pairwise_cons.mp hs
    by_cases ha : a = r
    · subst ha
      obtain ⟨g1, g2, g3, g4, g5⟩ := ze_rep_ok a A h2 (fun x hx => hr x (List.mem_cons_of_mem _ hx))
      simp only [ze_rep, if_true, List.drop_succ_cons]
      refine ⟨g1, by rw [List.count_cons_self, g2], fun x hx => by rw [List.count_cons_of_ne (Ne.symm hx), g3 x hx], fun x hx => ?_, by simp; omega⟩
      rcases List.mem_cons.mp hx with rfl | hx
      · exact Or.inl rfl
      · exact g4 x hx
    · simp only [ze_rep, ha, if_false, List.drop_zero]
      have hra : ze_lt 2 r a = true := by
        cases h : ze_lt 2 r a with
        | true => rfl
        | false => exact absurd (ze_lt_tri (hr a List.mem_cons_self) h) ha
      have hall : ∀ x ∈ a :: A, ze_lt 2 r x = true := by
        intro x hx
        rcases List.mem_cons.mp hx with rfl | hx
        · exact hra
        · exact ze_gt_of hra (h1 x hx)
      refine ⟨hall, ?_, by simp, fun x hx => Or.inr hx, Nat.zero_le _⟩
      rw [List.count_eq_zero]
      intro hx
      have := hall r hx
      rw [ze_lt_irr] at this
      cases this
theorem ze_so_drop {A : List ze_Row} (h : ze_so A) (k : Nat) : ze_so (A.drop k) := List.Pairwise.sublist (List.drop_sublist k A) h
theorem ze_pick_none {A B : List ze_Row} (h : ze_pick A B = none) : A = [] ∧ B = [] := by
  cases A <;> cases B <;> simp [ze_pick] at h ⊢
  split at h <;> cases h
theorem ze_pick_ok {A B : List ze_Row} {r : ze_Row} (hA : ze_so A) (hB : ze_so B) (h : ze_pick A B = some r) : (r ∈ A ∨ r ∈ B) ∧ (∀ x ∈ A, ze_lt 2 x r = false) ∧ (∀ x ∈ B, ze_lt 2 x r = false) := by
  have hd : ∀ {a : ze_Row} {L : List ze_Row}, ze_so (a :: L) → ∀ x ∈ a :: L, ze_lt 2 x a = false := by
    intro a L hL x hx
    rcases List.mem_cons.mp hx with rfl | hx
    · exact ze_lt_irr
    · exact (List.pairwise_cons.mp hL).1 x hx
  cases A with
  | nil =>
    cases B with
    | nil => simp [ze_pick] at h
    | cons b B =>
      simp only [ze_pick, Option.some.injEq] at h
      subst h
      exact ⟨Or.inr List.mem_cons_self, (fun x hx => absurd hx List.not_mem_nil), hd hB⟩
  | cons a A =>
    cases B with
    | nil =>
      simp only [ze_pick, Option.some.injEq] at h
      subst h
      exact ⟨Or.inl List.mem_cons_self, hd hA, (fun x hx => absurd hx List.not_mem_nil)⟩
    | cons b B =>
      by_cases hb : ze_lt 2 b a = true
      · simp only [ze_pick, hb, if_true, Option.some.injEq] at h
        subst h
        refine ⟨Or.inr List.mem_cons_self, fun x hx => ze_lt_ntr (hd hA x hx) (ze_lt_asym hb), hd hB⟩
      · simp only [ze_pick, hb] at h
        have h : a = r := by simpa using h
        subst h
        exact ⟨Or.inl List.mem_cons_self, hd hA, fun x hx => ze_lt_ntr (hd hB x hx) (Bool.eq_false_iff.mpr hb)⟩
theorem ze_mg_ok (kind : Nat) : ∀ (k : Nat) (A B D : List ze_Row), ze_so A → ze_so B → ze_ri D → (∀ r, r ∈ D ↔ r ∈ A ∨ r ∈ B) → A.length + B.length ≤ k → ze_mg kind k A B = D.flatMap (fun r => List.replicate (ze_tm kind (A.count r) (B.count r)) r)
  | 0, A, B, D, _, _, _, hm, hl => by
    have hA : A = [] := List.eq_nil_of_length_eq_zero (by omega)
    have hB : B = [] := List.eq_nil_of_length_eq_zero (by omega)
    subst hA; subst hB
    cases D with
    | nil => rfl
    | cons d D => simpa using (hm d).mp List.mem_cons_self
  | k + 1, A, B, D, hA, hB, hD, hm, hl => by
    cases hp : ze_pick A B with
    | none =>
      obtain ⟨rfl, rfl⟩ := ze_pick_none hp
      cases D with
      | nil => rfl
      | cons d D => simpa using (hm d).mp List.mem_cons_self
    | some r =>
      obtain ⟨p1, p2, p3⟩ := ze_pick_ok hA hB hp
      obtain ⟨a1, a2, a3, a4, a5⟩ := ze_rep_ok r A hA p2
      obtain ⟨b1, b2, b3, b4, b5⟩ := ze_rep_ok r B hB p3
      cases D with
      | nil => exact absurd ((hm r).mpr p1) (by simp)
      | cons d D =>
        obtain ⟨d1, d2⟩ := List.pairwise_cons.mp hD
        have hdr : d = r := by
          have hrd : ze_lt 2 d r = false := by
            rcases (hm d).mp List.mem_cons_self with h | h
            · exact p2 d h
            · exact p3 d h
          rcases List.mem_cons.mp ((hm r).mpr p1) with h | h
          · exact h.symm
          · rw [d1 r h] at hrd
            cases hrd
        subst hdr
        have ne : ∀ x ∈ D, x ≠ d := fun x hx e => by
          have := d1 x hx
          rw [e, ze_lt_irr] at this
          cases this
        have hmem : 1 ≤ ze_rep d A + ze_rep d B := by
          rw [← a2, ← b2]
          rcases p1 with h | h
          · have := List.count_pos_iff.mpr h; omega
          · have := List.count_pos_iff.mpr h; omega
        have ih := ze_mg_ok kind k (A.drop (ze_rep d A)) (B.drop (ze_rep d B)) D (ze_so_drop hA _) (ze_so_drop hB _) d2 (fun x => ?_) (by rw [List.length_drop, List.length_drop]; omega)
        · simp only [ze_mg, hp]
          rw [ih, List.flatMap_cons, a2, b2]
          congr 1
          rw [List.flatMap_def, List.flatMap_def]
          congr 1
          apply List.map_congr_left
          intro x hx
          rw [a3 x (ne x hx), b3 x (ne x hx)]
        · constructor
          · intro hx
            rcases (hm x).mp (List.mem_cons_of_mem _ hx) with h | h
            · exact Or.inl ((a4 x h).resolve_left (ne x hx))
            · exact Or.inr ((b4 x h).resolve_left (ne x hx))
          · intro h
            have hx : x ∈ d :: D := (hm x).mpr (h.imp List.mem_of_mem_drop List.mem_of_mem_drop)
            have hlt : ze_lt 2 d x = true := h.elim (a1 x) (b1 x)
            rcases List.mem_cons.mp hx with rfl | hx
            · rw [ze_lt_irr] at hlt; cases hlt
            · exact hx
/-- the merge of the sorted bags is the union row by row, each as often as the kind says -/
theorem ze_mg_cmb (kind : Nat) (A B : List ze_Row) (k : Nat) (hk : A.length + B.length ≤ k) : ze_mg kind k (ze_srt 2 A) (ze_srt 2 B) = ze_cmb kind A B := by
  rw [ze_mg_ok kind k _ _ (ze_un A B) (ze_srt_pw 2 A) (ze_srt_pw 2 B) (ze_un_ri A B) (fun r => by rw [ze_un_mem, (ze_srt_perm 2 A).mem_iff, (ze_srt_perm 2 B).mem_iff]) (by rw [ze_srt_len, ze_srt_len]; exact hk)]
  unfold ze_cmb
  congr 1
  funext r
  rw [(ze_srt_perm 2 A).count_eq, (ze_srt_perm 2 B).count_eq]
