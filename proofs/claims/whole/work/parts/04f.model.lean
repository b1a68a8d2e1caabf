/-! PURE: what the reference's searches find -/
theorem ze_nxt_some {A B D1 D2 : List ze_Row} {r : ze_Row} (hD : ze_un A B = D1 ++ D2) (hr : r ∈ A ∨ r ∈ B) (hgt : ∀ z, D1.getLast? = some z → ze_lt 2 z r = true) (hmin : ∀ x, (x ∈ A ∨ x ∈ B) → (∀ z, D1.getLast? = some z → ze_lt 2 z x = true) → ze_lt 2 x r = false) : ∃ D3, D2 = r :: D3 := by
  have hri := ze_un_ri A B
  rw [hD] at hri
  obtain ⟨r1, r2, r3⟩ := List.pairwise_append.mp hri
  have hrD : r ∈ D1 ++ D2 := by rw [← hD]; exact (ze_un_mem A B r).mpr hr
  have hr2 : r ∈ D2 := by
    rcases List.mem_append.mp hrD with h | h
    · exfalso
      rcases List.eq_nil_or_concat D1 with e | ⟨K, z, e⟩
      · rw [e] at h; cases h
      · have hz : D1.getLast? = some z := by rw [e]; simp
        have h1 := hgt z hz
        rw [e] at h r1
        simp only [List.concat_eq_append] at h r1
        rcases List.mem_append.mp h with h | h
        · have h2 := (List.pairwise_append.mp r1).2.2 r h z (by simp)
          rw [ze_lt_asym h1] at h2
          cases h2
        · rw [List.mem_singleton.mp h, ze_lt_irr] at h1
          cases h1
    · exact h
  cases D2 with
  | nil => cases hr2
  | cons d D3 =>
    refine ⟨D3, ?_⟩
    have hd : d ∈ A ∨ d ∈ B := (ze_un_mem A B d).mp (by rw [hD]; simp)
    have h1 := hmin d hd (fun z hz => r3 z (List.mem_of_getLast? hz) d List.mem_cons_self)
    rcases List.mem_cons.mp hr2 with e | h
    · rw [e]
    · rw [(List.pairwise_cons.mp r2).1 r h] at h1
      cases h1
theorem ze_nxt_none {A B D1 D2 : List ze_Row} (hD : ze_un A B = D1 ++ D2) (hn : ∀ x, (x ∈ A ∨ x ∈ B) → ∃ z, D1.getLast? = some z ∧ ze_lt 2 z x = false) : D2 = [] := by
  cases D2 with
  | nil => rfl
  | cons d D3 =>
    exfalso
    have hri := ze_un_ri A B
    rw [hD] at hri
    obtain ⟨r1, r2, r3⟩ := List.pairwise_append.mp hri
    obtain ⟨z, hz, h⟩ := hn d ((ze_un_mem A B d).mp (by rw [hD]; simp))
    rw [r3 z (List.mem_of_getLast? hz) d List.mem_cons_self] at h
    cases h
theorem ze_dk_app (P : List ze_Row) : ∀ Q : List ze_Row, ∃ K, ze_dk (P ++ Q) = ze_dk P ++ K := by
  intro Q
  refine ze_snoc_ind (P := fun Q => ∃ K, ze_dk (P ++ Q) = ze_dk P ++ K) ⟨[], by simp⟩ ?_ Q
  rintro Q r ⟨K, h⟩
  rw [← List.append_assoc, ze_dk_snoc, h]
  by_cases hr : r.1 ∈ ze_dk P ++ K
  · exact ⟨K, by rw [if_pos hr]⟩
  · exact ⟨K ++ [r.1], by rw [if_neg hr, List.append_assoc]⟩
/-- the first row of its key: its rank is the number of keys ahead of it -/
theorem ze_rank_first {L : List ze_Row} {i : Nat} {r : ze_Row} (hi : L[i]? = some r) (hf : r.1 ∉ ze_dk (L.take i)) : (ze_dk L)[(ze_dk (L.take i)).length]? = some r.1 := by
  have hlt := (List.getElem?_eq_some_iff.mp hi).1
  have e1 : L.take (i + 1) = L.take i ++ [r] := by
    rw [List.take_succ, hi]
    rfl
  obtain ⟨K, hK⟩ := ze_dk_app (L.take (i + 1)) (L.drop (i + 1))
  rw [List.take_append_drop, e1, ze_dk_snoc, if_neg hf] at hK
  rw [hK, List.append_assoc, List.getElem?_append_right (Nat.le_refl _)]
  simp
theorem ze_rank_lt {L : List ze_Row} {i ρ : Nat} {k : Int32} (hk : k ∈ ze_dk (L.take i)) (hρ : (ze_dk L)[ρ]? = some k) : ρ < (ze_dk (L.take i)).length := by
  obtain ⟨K, hK⟩ := ze_dk_app (L.take i) (L.drop i)
  rw [List.take_append_drop] at hK
  obtain ⟨p, hp⟩ := List.getElem?_of_mem hk
  have hpl := (List.getElem?_eq_some_iff.mp hp).1
  have h2 : (ze_dk L)[p]? = some k := by rw [hK, List.getElem?_append_left hpl]; exact hp
  have hnd := ze_dk_nodup L
  obtain ⟨l1, g1⟩ := List.getElem?_eq_some_iff.mp hρ
  obtain ⟨l2, g2⟩ := List.getElem?_eq_some_iff.mp h2
  have : ρ = p := (List.getElem_inj hnd).mp (g1.trans g2.symm)
  omega
theorem ze_rank_take {L : List ze_Row} {ρ q : Nat} {k : Int32} (hρ : (ze_dk L)[ρ]? = some k) : k ∈ (ze_dk L).take q ↔ ρ < q := by
  obtain ⟨l1, g1⟩ := List.getElem?_eq_some_iff.mp hρ
  constructor
  · intro h
    obtain ⟨p, hp⟩ := List.getElem?_of_mem h
    obtain ⟨l2, g2⟩ := List.getElem?_eq_some_iff.mp hp
    rw [List.length_take] at l2
    rw [List.getElem_take] at g2
    have : ρ = p := (List.getElem_inj (ze_dk_nodup L)).mp (g1.trans g2.symm)
    omega
  · intro h
    refine List.mem_of_getElem? (i := ρ) ?_
    rw [List.getElem?_take_of_lt h]
    exact hρ
theorem ze_sum_app (k : Int32) (P : List ze_Row) : ∀ Q : List ze_Row, k ∉ ze_dk P → ze_sum k (P ++ Q) = ze_sum k Q := by
  intro Q h
  refine ze_snoc_ind (P := fun Q => ze_sum k (P ++ Q) = ze_sum k Q) (by rw [List.append_nil, ze_sum_none k P h]; rfl) ?_ Q
  intro Q r ih
  rw [← List.append_assoc, ze_sum_snoc, ze_sum_snoc, ih]
