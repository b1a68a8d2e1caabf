/-- one round of group over the rows P, with room for e sums: its keys, its sums, the rows that stay -/
def ze_gK (e : Nat) (P : List ze_Row) : List Int32 := (ze_dk P).take e
def ze_gS (e : Nat) (P : List ze_Row) : List ze_Row := (ze_gK e P).map (fun k => (k, ze_sum k P))
def ze_gR (e : Nat) (P : List ze_Row) : List ze_Row := P.filter (fun r => !decide (r.1 ∈ ze_gK e P))
theorem ze_gK_nodup (e : Nat) (P : List ze_Row) : (ze_gK e P).Nodup := List.Nodup.sublist (List.take_sublist _ _) (ze_dk_nodup P)
theorem ze_gK_len (e : Nat) (P : List ze_Row) : (ze_gK e P).length ≤ e ∧ (ze_gK e P).length ≤ (ze_dk P).length := by
  unfold ze_gK
  rw [List.length_take]
  omega
theorem ze_gS_len (e : Nat) (P : List ze_Row) : (ze_gS e P).length = (ze_gK e P).length := by simp [ze_gS]
theorem ze_upd_id {f : Nat → Int32} {q : Nat} {x : Int32} (h : f q = x) : upd f q x = f := by
  funext j
  by_cases e : j = q
  · subst e; rw [pk_us, h]
  · rw [pk_un e]
theorem ze_g_hit {e : Nat} {P : List ze_Row} {key v : Int32} {t : Nat} (ht : (ze_gK e P)[t]? = some key) : ze_gK e (P ++ [(key, v)]) = ze_gK e P ∧ ze_gR e (P ++ [(key, v)]) = ze_gR e P ∧ ze_gS e (P ++ [(key, v)]) = (ze_gS e P).set t (key, ze_sum key P + v) := by
  have hk : key ∈ ze_gK e P := List.mem_of_getElem? ht
  have hd : key ∈ ze_dk P := List.mem_of_mem_take hk
  have e1 : ze_gK e (P ++ [(key, v)]) = ze_gK e P := by
    unfold ze_gK
    rw [ze_dk_snoc, if_pos hd]
  refine ⟨e1, ?_, ?_⟩
  · unfold ze_gR
    rw [e1, List.filter_append]
    simp [hk]
  · unfold ze_gS
    rw [e1]
    apply List.ext_getElem?
    intro j
    obtain ⟨hl, he⟩ := List.getElem?_eq_some_iff.mp ht
    by_cases hj : j = t
    · subst hj
      rw [List.getElem?_set_self (by simpa using hl), List.getElem?_map, ht, Option.map_some, ze_sum_snoc, if_pos rfl]
    · rw [List.getElem?_set_ne (Ne.symm hj), List.getElem?_map, List.getElem?_map]
      cases hx : (ze_gK e P)[j]? with
      | none => rfl
      | some x =>
        have hne : ¬ key = x := fun z => by
          rw [z, ← hx] at ht
          exact hj ((List.getElem?_inj hl (ze_gK_nodup e P)).mp ht).symm
        rw [Option.map_some, Option.map_some, ze_sum_snoc, if_neg hne]
theorem ze_g_new {e : Nat} {P : List ze_Row} {key v : Int32} (hk : key ∉ ze_gK e P) (hl : (ze_gK e P).length < e) : ze_gK e (P ++ [(key, v)]) = ze_gK e P ++ [key] ∧ ze_gR e (P ++ [(key, v)]) = ze_gR e P ∧ ze_gS e (P ++ [(key, v)]) = ze_gS e P ++ [(key, v)] := by
  have h0 : ze_gK e P = ze_dk P := by
    unfold ze_gK at hl ⊢
    rw [List.length_take] at hl
    exact List.take_of_length_le (by omega)
  have hd : key ∉ ze_dk P := by rw [← h0]; exact hk
  have e1 : ze_gK e (P ++ [(key, v)]) = ze_gK e P ++ [key] := by
    rw [h0] at hl ⊢
    unfold ze_gK
    rw [ze_dk_snoc, if_neg hd, List.take_of_length_le (by simp; omega)]
  refine ⟨e1, ?_, ?_⟩
  · unfold ze_gR
    rw [e1, h0, List.filter_append]
    have a1 : P.filter (fun r => !decide (r.1 ∈ ze_dk P ++ [key])) = [] := by
      rw [List.filter_eq_nil_iff]
      intro r hr
      simp [(ze_dk_mem r.1 P).mpr ⟨r, hr, rfl⟩]
    have a2 : P.filter (fun r => !decide (r.1 ∈ ze_dk P)) = [] := by
      rw [List.filter_eq_nil_iff]
      intro r hr
      simp [(ze_dk_mem r.1 P).mpr ⟨r, hr, rfl⟩]
    rw [a1, a2]
    simp
  · unfold ze_gS
    rw [e1, List.map_append]
    congr 1
    · apply List.map_congr_left
      intro x hx
      have hne : ¬ key = x := fun z => hk (z ▸ hx)
      rw [ze_sum_snoc, if_neg hne]
    · simp only [List.map_cons, List.map_nil]
      rw [ze_sum_snoc, if_pos rfl, ze_sum_none key P hd, Int32.zero_add]
theorem ze_g_kept {e : Nat} {P : List ze_Row} {key v : Int32} (hk : key ∉ ze_gK e P) (hl : ¬ (ze_gK e P).length < e) : ze_gK e (P ++ [(key, v)]) = ze_gK e P ∧ ze_gR e (P ++ [(key, v)]) = ze_gR e P ++ [(key, v)] ∧ ze_gS e (P ++ [(key, v)]) = ze_gS e P := by
  have hl2 : e ≤ (ze_dk P).length := by
    unfold ze_gK at hl
    rw [List.length_take] at hl
    omega
  have e1 : ze_gK e (P ++ [(key, v)]) = ze_gK e P := by
    unfold ze_gK
    rw [ze_dk_snoc]
    split
    · rfl
    · rw [List.take_append_of_le_length hl2]
  refine ⟨e1, ?_, ?_⟩
  · unfold ze_gR
    rw [e1, List.filter_append]
    simp [hk]
  · unfold ze_gS
    rw [e1]
    apply List.map_congr_left
    intro x hx
    have hne : ¬ key = x := fun z => hk (z ▸ hx)
    rw [ze_sum_snoc, if_neg hne]
/-- the round at what is left behind q keys -/
theorem ze_gR_lf (e : Nat) (L : List ze_Row) (q : Nat) : ze_gR e (ze_lf L q) = ze_lf L (q + e) := ze_lf_lf L q e
theorem ze_gS_lf (e : Nat) (L : List ze_Row) (q : Nat) : (ze_grp L).take q ++ ze_gS e (ze_lf L q) = (ze_grp L).take (q + e) := by
  rw [List.take_add]
  congr 1
  unfold ze_gS ze_gK ze_grp
  rw [← List.map_drop, ← List.map_take, ← ze_dk_lf]
  apply List.map_congr_left
  intro k hk
  rw [ze_sum_lf L q (List.mem_of_mem_take hk)]
theorem ze_grp_len (L : List ze_Row) : (ze_grp L).length = (ze_dk L).length := by simp [ze_grp]
/-- the places of the round's sums in the table that is made -/
theorem ze_g_at {t : ze_T} {L0 : List ze_Row} {e : Nat} {P : List ze_Row} (h : ze_Hl t.1 t.2.1 0 (L0 ++ ze_gS e P)) {j : Nat} (hj : j < (ze_gK e P).length) : (ze_gK e P)[j]? = some (t.1 (L0.length + j)) ∧ t.2.1 (L0.length + j) = ze_sum (t.1 (L0.length + j)) P := by
  have h2 := (ze_Hl_app.mp h).2
  rw [Nat.zero_add] at h2
  have h3 := ze_Hl_row h2 (p := j) (by rw [ze_gS_len]; exact hj)
  unfold ze_gS at h3
  rw [List.getElem?_map, List.getElem?_eq_getElem hj] at h3
  simp only [Option.map_some, Option.some.injEq, Prod.mk.injEq] at h3
  rw [List.getElem?_eq_getElem hj, h3.1]
  exact ⟨rfl, by rw [← h3.2, h3.1]⟩
