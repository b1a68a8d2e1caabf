theorem ze_ord_bad {σ : ze_Sg} {fr order into : Int32} (h : order < 0 ∨ nI 2 < order) : sp_sort σ fr order into = sp_op σ false fr fr into (fun A _ => (ze_srt (ze_n order) A, ze_sc σ.2.2.2 A.length)) := by
  have : decide (0 ≤ order.toInt ∧ order.toInt ≤ 2) = false := by
    refine decide_eq_false ?_
    rw [Int32.lt_iff_toInt_lt, Int32.lt_iff_toInt_lt] at h
    simp only [show (0 : Int32).toInt = 0 from rfl, show (nI 2).toInt = 2 from rfl] at h
    omega
  rw [sp_sort, this]
theorem ze_kind_bad {σ : ze_Sg} {kind a b into : Int32} (h : kind < 0 ∨ nI 3 < kind) : sp_combine σ kind a b into = sp_op σ false a b into (fun A B => (ze_cmb (ze_n kind) A B, ze_sc σ.2.2.2 A.length + ze_sc σ.2.2.2 B.length + ze_sz A.length + ze_sz B.length + ze_sz (ze_cmb (ze_n kind) A B).length)) := by
  have : decide (0 ≤ kind.toInt ∧ kind.toInt ≤ 3) = false := by
    refine decide_eq_false ?_
    rw [Int32.lt_iff_toInt_lt, Int32.lt_iff_toInt_lt] at h
    simp only [show (0 : Int32).toInt = 0 from rfl, show (nI 3).toInt = 3 from rfl] at h
    omega
  rw [sp_combine, this]
theorem ze_cP_succ (f : Nat → Bool) (j : Nat) : (List.range (j + 1)).countP f = (List.range j).countP f + if f j = true then 1 else 0 := by
  rw [List.range_succ, List.countP_append, List.countP_singleton]
/-- the rows that were placed by their ranks are the sorted rows -/
theorem ze_placed {A1 Ar : Nat → Nat → Int32} {A : List ze_Row} {b od : Nat} (hH : ze_Hl (Ar 3) (Ar 4) b A) (hl : A.length ≤ 60) (h : ∀ i, i < A.length → A1 5 (ze_rk od A i) = Ar 3 (b + i) ∧ A1 6 (ze_rk od A i) = Ar 4 (b + i)) : ze_Mk A1 A.length (ze_srt od A) := by
  refine ⟨(ze_srt_len od A).symm, ?_⟩
  rw [List.take_of_length_le (by rw [ze_srt_len]; exact hl)]
  intro p r hp
  have hlt := (List.getElem?_eq_some_iff.mp hp).1
  rw [ze_srt_len] at hlt
  obtain ⟨i, hi, e⟩ := ze_rk_sur (o := od) hlt
  subst e
  rw [ze_srt_rk hi, ze_Hl_row hH hi] at hp
  obtain ⟨h1, h2⟩ := h i hi
  rw [← Option.some.inj hp, Nat.zero_add]
  exact ⟨h1, h2⟩
abbrev ze_rw (Ar : Nat → Nat → Int32) (t : Nat) : ze_Row := (Ar 3 t, Ar 4 t)
/-- the best place so far among the rows P of those that are gt -/
def ze_best (Ar : Nat → Nat → Int32) (gt : ze_Row → Prop) (P : List ze_Row) (best : Int32) : Prop := (best = -1 ∧ ∀ r ∈ P, ¬ gt r) ∨ ∃ t, t < 480 ∧ best = nI t ∧ ze_rw Ar t ∈ P ∧ gt (ze_rw Ar t) ∧ ∀ r ∈ P, gt r → ze_lt 2 r (ze_rw Ar t) = false
section ZBE
variable {Ar : Nat → Nat → Int32} {gt : ze_Row → Prop} {P : List ze_Row} {best : Int32} {i t : Nat} {r : ze_Row}
theorem ze_best_skip (h : ze_best Ar gt P best) (hr : ¬ gt r) : ze_best Ar gt (P ++ [r]) best := by
  rcases h with ⟨h1, h2⟩ | ⟨t, h1, h2, h3, h4, h5⟩
  · refine Or.inl ⟨h1, fun q hq => ?_⟩
    rcases List.mem_append.mp hq with z | z
    · exact h2 q z
    · rw [List.mem_singleton.mp z]; exact hr
  · refine Or.inr ⟨t, h1, h2, List.mem_append_left _ h3, h4, fun q hq hg => ?_⟩
    rcases List.mem_append.mp hq with z | z
    · exact h5 q z hg
    · rw [List.mem_singleton.mp z] at hg; exact absurd hg hr
theorem ze_best_first (h : ∀ q ∈ P, ¬ gt q) (hi : i < 480) (hr : gt (ze_rw Ar i)) : ze_best Ar gt (P ++ [ze_rw Ar i]) (nI i) := by
  refine Or.inr ⟨i, hi, rfl, by simp, hr, fun q hq hg => ?_⟩
  rcases List.mem_append.mp hq with z | z
  · exact absurd hg (h q z)
  · rw [List.mem_singleton.mp z]; exact ze_lt_irr
theorem ze_best_less (h5 : ∀ q ∈ P, gt q → ze_lt 2 q (ze_rw Ar t) = false) (hi : i < 480) (hr : gt (ze_rw Ar i)) (hlt : ze_lt 2 (ze_rw Ar i) (ze_rw Ar t) = true) : ze_best Ar gt (P ++ [ze_rw Ar i]) (nI i) := by
  refine Or.inr ⟨i, hi, rfl, by simp, hr, fun q hq hg => ?_⟩
  rcases List.mem_append.mp hq with z | z
  · exact ze_lt_ntr (h5 q z hg) (ze_lt_asym hlt)
  · rw [List.mem_singleton.mp z]; exact ze_lt_irr
theorem ze_best_keep (ht : t < 480) (h3 : ze_rw Ar t ∈ P) (h4 : gt (ze_rw Ar t)) (h5 : ∀ q ∈ P, gt q → ze_lt 2 q (ze_rw Ar t) = false) (hlt : ze_lt 2 r (ze_rw Ar t) = false) : ze_best Ar gt (P ++ [r]) (nI t) := by
  refine Or.inr ⟨t, ht, rfl, List.mem_append_left _ h3, h4, fun q hq hg => ?_⟩
  rcases List.mem_append.mp hq with z | z
  · exact h5 q z hg
  · rw [List.mem_singleton.mp z]; exact hlt
end ZBE
/-- what next finds -/
def ze_nx (Ar : Nat → Nat → Int32) (D2 : List ze_Row) (v : Int32) : Prop := (D2 = [] ∧ v = -1) ∨ ∃ t D3, t < 480 ∧ v = nI t ∧ D2 = ze_rw Ar t :: D3
def ze_gtD (D1 : List ze_Row) : ze_Row → Prop := fun r => ∀ z, D1.getLast? = some z → ze_lt 2 z r = true
theorem ze_nx_of {Ar : Nat → Nat → Int32} {A B D1 D2 : List ze_Row} {best : Int32} (hD : ze_un A B = D1 ++ D2) (h : ze_best Ar (ze_gtD D1) (A ++ B) best) : ze_nx Ar D2 best := by
  rcases h with ⟨h1, h2⟩ | ⟨t, h1, h2, h3, h4, h5⟩
  · refine Or.inl ⟨ze_nxt_none hD (fun q hq => ?_), h1⟩
    have := h2 q (List.mem_append.mpr hq)
    unfold ze_gtD at this
    cases hz : D1.getLast? with
    | none => rw [hz] at this; exact absurd (fun z hz' => by cases hz') this
    | some z =>
      refine ⟨z, rfl, Bool.eq_false_iff.mpr (fun hlt => this (fun z' hz' => ?_))⟩
      rw [hz] at hz'
      cases hz'
      exact hlt
  · obtain ⟨D3, e⟩ := ze_nxt_some hD (List.mem_append.mp h3) h4 (fun q hq hg => h5 q (List.mem_append.mpr hq) hg)
    exact Or.inr ⟨t, D3, h1, h2, e⟩

set_option maxRecDepth 100000 in
set_option maxHeartbeats 4000000 in
theorem c_M_sort (l : Launch) (D : va_G) (ids : Nat → ClassId) (ad : Nat → Nat) (x : ze_XS) (M : Nat) (mv : Int64) (ma co le : Nat) (Ar : Nat → Nat → Int32) (inp : List ze_Row) (sl : Nat → Option (List ze_Row)) (hR : ze_rA Ar inp sl) (hM : 3 ≤ M ∧ M ≤ 6) (fr order into : Int32) : ze_MM l D ids ad x y_M_sort ws_M_sort 20 (M, mv, inp.length, ma, co, le, Ar) [.ref (ad 39), .int fr, .int order, .int into] (fun v ms' => v = some (.int (sp_sort (inp, sl, mv, M) fr order into).1) ∧ ze_rM ms' (sp_sort (inp, sl, mv, M) fr order into).2) := by
  refine ze_enter (cc := b_M_sort) (maxL := 9) (ret := (some .int)) (by decide +kernel) rfl (Nat.le_of_ble_eq_true rfl) ?_
  rintro G rfl rfl rfl - C Rt
  refine ze_lv (lv' := [(0, .ref (ad 39)), (1, .int fr), (2, .int order), (3, .int into)]) rfl ?_
  have hin := hR.1
  refine ze_aload_n C d_M_sort_0 0 rfl rfl ?_
  refine ze_iload_n C d_M_sort_1 2 rfl rfl ?_
  refine ze_if_lt 14 C d_M_sort_2 (by decide) (fun h2 => ?_) (fun h2 => ?_)
  · have hsp0 := ze_ord_bad (σ := (inp, sl, mv, M)) (fr := fr) (into := into) (Or.inl h2)
    refine ze_iconst (v := ze_bi false) C d_M_sort_14 (by decide) ?_
    refine ze_iload_n C d_M_sort_15 1 rfl rfl ?_
    refine ze_iload_n C d_M_sort_16 1 rfl rfl ?_
    refine ze_iload_n C d_M_sort_17 3 rfl rfl ?_
    refine ze_callV (st := []) C (c_M_refuse (ze_l G) (ze_D G) (ze_i G) ad x M mv inp.length ma co le Ar inp sl hR hM false fr fr into) (kv_M_65 (ze_rml (by decide) (by decide))) (by decide) ze_E_m rfl (Nat.le_of_ble_eq_true rfl) ⟨Nat.le_of_ble_eq_true rfl, Nat.le_of_ble_eq_true rfl⟩ d_M_sort_18 ?_
    rintro _ _ _ _ ⟨rfl, rfl, _, rfl, rfl, ma1, co1, rfl, hz0⟩
    refine ze_norm (c2 := 0) (s2 := 0) (st' := [.int (ze_rfs sl false fr fr into)]) rfl rfl rfl ?_
    refine ze_istore (lv' := [(4, .int (ze_rfs sl false fr fr into)), (0, .ref (ad 39)), (1, .int fr), (2, .int order), (3, .int into)]) C d_M_sort_21 (by decide) rfl ?_
    refine ze_iload C d_M_sort_23 0 rfl ?_
    refine ze_if_eq 31 C d_M_sort_25 (by decide) (fun h25 => ?_) (fun h25 => ?_)
    · obtain ⟨_, _, _, _, _, _, _, _, _, _, _, _, _, _, _, _, hok, _⟩ := ze_rfs_0 (σ := (inp, sl, mv, M)) h25
      cases hok
    · refine ze_iload C d_M_sort_28 0 rfl ?_
      exact ze_iret C Rt d_M_sort_30 (⟨rfl, rfl, _, rfl, by rw [hsp0, ze_rfs_ne (σ := (inp, sl, mv, M)) h25], by rw [hsp0, ze_rfs_ne (σ := (inp, sl, mv, M)) h25]; exact ⟨ma1, co1, le, Ar, rfl, hR, hM.1, hM.2⟩⟩)
  · refine ze_iload_n C d_M_sort_5 2 rfl rfl ?_
    refine ze_iconst (v := nI 2) C d_M_sort_6 (by decide) ?_
    refine ze_icmp_gt 14 C d_M_sort_7 (by decide) (fun h7 => ?_) (fun h7 => ?_)
    · have hsp0 := ze_ord_bad (σ := (inp, sl, mv, M)) (fr := fr) (into := into) (Or.inr h7)
      refine ze_iconst (v := ze_bi false) C d_M_sort_14 (by decide) ?_
      refine ze_iload_n C d_M_sort_15 1 rfl rfl ?_
      refine ze_iload_n C d_M_sort_16 1 rfl rfl ?_
      refine ze_iload_n C d_M_sort_17 3 rfl rfl ?_
      refine ze_callV (st := []) C (c_M_refuse (ze_l G) (ze_D G) (ze_i G) ad x M mv inp.length ma co le Ar inp sl hR hM false fr fr into) (kv_M_65 (ze_rml (by decide) (by decide))) (by decide) ze_E_m rfl (Nat.le_of_ble_eq_true rfl) ⟨Nat.le_of_ble_eq_true rfl, Nat.le_of_ble_eq_true rfl⟩ d_M_sort_18 ?_
      rintro _ _ _ _ ⟨rfl, rfl, _, rfl, rfl, ma1, co1, rfl, hz0⟩
      refine ze_norm (c2 := 0) (s2 := 0) (st' := [.int (ze_rfs sl false fr fr into)]) rfl rfl rfl ?_
      refine ze_istore (lv' := [(4, .int (ze_rfs sl false fr fr into)), (0, .ref (ad 39)), (1, .int fr), (2, .int order), (3, .int into)]) C d_M_sort_21 (by decide) rfl ?_
      refine ze_iload C d_M_sort_23 0 rfl ?_
      refine ze_if_eq 31 C d_M_sort_25 (by decide) (fun h25 => ?_) (fun h25 => ?_)
      · obtain ⟨_, _, _, _, _, _, _, _, _, _, _, _, _, _, _, _, hok, _⟩ := ze_rfs_0 (σ := (inp, sl, mv, M)) h25
        cases hok
      · refine ze_iload C d_M_sort_28 0 rfl ?_
        exact ze_iret C Rt d_M_sort_30 (⟨rfl, rfl, _, rfl, by rw [hsp0, ze_rfs_ne (σ := (inp, sl, mv, M)) h25], by rw [hsp0, ze_rfs_ne (σ := (inp, sl, mv, M)) h25]; exact ⟨ma1, co1, le, Ar, rfl, hR, hM.1, hM.2⟩⟩)
    · obtain ⟨od, hod, rfl⟩ := ze_ord_yes h2 (Int32.not_lt.mp h7)
      have hsp0 := ze_sort_op (σ := (inp, sl, mv, M)) (fr := fr) (into := into) hod
      refine ze_iconst (v := ze_bi true) C d_M_sort_10 (by decide) ?_
      refine ze_goto 15 C d_M_sort_11 (by decide) ?_
      refine ze_iload_n C d_M_sort_15 1 rfl rfl ?_
      refine ze_iload_n C d_M_sort_16 1 rfl rfl ?_
      refine ze_iload_n C d_M_sort_17 3 rfl rfl ?_
      refine ze_callV (st := []) C (c_M_refuse (ze_l G) (ze_D G) (ze_i G) ad x M mv inp.length ma co le Ar inp sl hR hM true fr fr into) (kv_M_65 (ze_rml (by decide) (by decide))) (by decide) ze_E_m rfl (Nat.le_of_ble_eq_true rfl) ⟨Nat.le_of_ble_eq_true rfl, Nat.le_of_ble_eq_true rfl⟩ d_M_sort_18 ?_
      rintro _ _ _ _ ⟨rfl, rfl, _, rfl, rfl, ma1, co1, rfl, hz0⟩
      refine ze_norm (c2 := 0) (s2 := 0) (st' := [.int (ze_rfs sl true fr fr into)]) rfl rfl rfl ?_
      refine ze_istore (lv' := [(4, .int (ze_rfs sl true fr fr into)), (0, .ref (ad 39)), (1, .int fr), (2, .int (nI od)), (3, .int into)]) C d_M_sort_21 (by decide) rfl ?_
      refine ze_iload C d_M_sort_23 0 rfl ?_
      refine ze_if_eq 31 C d_M_sort_25 (by decide) (fun h25 => ?_) (fun h25 => ?_)
      · obtain ⟨rfl, rfl⟩ := hz0 h25
        obtain ⟨ja, jb, ji, A, B, hja, hjb, hji, ea, eb, rfl, hne, hneb, hA, hB, hI, hok, hop⟩ := ze_rfs_0 (σ := (inp, sl, mv, M)) h25
        have eab : ja = jb := (nI_eq (by omega) (by omega)).mp (ea.symm.trans eb)
        subst eab
        subst ea
        simp only at hA hB hI
        rw [hA] at hB
        cases hB
        obtain ⟨hA60, hcA, hHA⟩ := hR.2.2.2 ja hja A hA
        refine ze_sub [(0, .ref (ad 39)), (1, .int (nI ja)), (2, .int (nI od)), (3, .int (nI ji))] [1, 2, 3, 4] rfl ?_
        have hsp : sp_sort (inp, sl, mv, M) (nI ja) (nI od) (nI ji) = sp_fin (inp, sl, mv, M) ji (ze_srt od A, ze_sc M A.length) := by rw [hsp0, hop]
        refine ze_aload_n C d_M_sort_31 0 rfl rfl ?_
        refine ze_getf (k := 39) C fl_M_16 (by decide) ze_E_m rfl d_M_sort_32 ?_
        refine ze_iload_n C d_M_sort_35 1 rfl rfl ?_
        refine ze_iald (k := 40 + 2) (i := ja) C (by decide) (ze_E_a (j := 2)) (by show _ < 8; omega) (by decide) d_M_sort_36 ?_
        rw [hcA]
        refine ze_istore (lv' := [(5, .int (nI A.length)), (0, .ref (ad 39)), (1, .int (nI ja)), (2, .int (nI od)), (3, .int (nI ji))]) C d_M_sort_37 (by decide) rfl ?_
        refine ze_aload_n C d_M_sort_39 1 rfl rfl ?_
        refine ze_iload C d_M_sort_40 0 rfl ?_
        refine ze_putf (k := 39) C fp_M_55 (by decide) ze_E_m rfl rfl (Nat.le_of_ble_eq_true rfl) d_M_sort_42 ?_
        refine ze_eqE (ze_up_m (ms' := (M, mv, inp.length, A.length, 0, le, Ar)) rfl rfl) ?_
        refine ze_iconst (v := nI 0) C d_M_sort_45 (by decide) ?_
        refine ze_istore (lv' := [(6, .int (nI 0)), (5, .int (nI A.length)), (0, .ref (ad 39)), (1, .int (nI ja)), (2, .int (nI od)), (3, .int (nI ji))]) C d_M_sort_46 (by decide) rfl ?_
        have loop : ∀ (r : Nat) (i : Nat) (A1 : Nat → Nat → Int32), A.length - i = r → i ≤ A.length → (∀ z, z ≠ 5 → z ≠ 6 → A1 z = Ar z) → (∀ q, q < i → A1 5 (ze_rk od A q) = Ar 3 (60 * ja + q) ∧ A1 6 (ze_rk od A q) = Ar 4 (60 * ja + q)) → ze_V G 48 ad (ze_E (ze_i G) ad x (M, mv, inp.length, A.length, 0, le, A1)) 0 0 48 [(6, .int (nI i)), (5, .int (nI A.length)), (0, .ref (ad 39)), (1, .int (nI ja)), (2, .int (nI od)), (3, .int (nI ji))] [] := by
          intro r
          induction r using Nat.strongRecOn with
          | ind r ih =>
            intro i A1 hr g1 g2 g3
            have hH1 : ze_Hl (A1 3) (A1 4) (60 * ja) A := by rw [g2 3 (by decide) (by decide), g2 4 (by decide) (by decide)]; exact hHA
            refine ze_iload C d_M_sort_48 0 rfl ?_
            refine ze_iload C d_M_sort_50 1 rfl ?_
            refine ze_icmp_geN 144 C d_M_sort_52 (by decide) (by omega) (by omega) (fun h52 => ?_) (fun h52 => ?_)
            · have hmk := ze_placed (od := od) hHA hA60 (fun q hq => g3 q (by omega))
              have hR1 := ze_rA_56 hR (fun z z1 z2 _ => g2 z z1 z2)
              refine ze_aload_n C d_M_sort_144 2 rfl rfl ?_
              refine ze_aload_n C d_M_sort_145 2 rfl rfl ?_
              refine ze_iload C d_M_sort_146 1 rfl ?_
              refine ze_callV (st := [.ref (ad 39)]) C (c_M_sortCost (ze_l G) (ze_D G) (ze_i G) ad x M mv inp.length A.length 0 le A1 hM A.length hA60) (kv_M_73 (ze_rml (by decide) (by decide))) (by decide) ze_E_m rfl (Nat.le_of_ble_eq_true rfl) ⟨Nat.le_of_ble_eq_true rfl, Nat.le_of_ble_eq_true rfl⟩ d_M_sort_148 ?_
              rintro _ _ _ _ ⟨rfl, rfl, _, rfl, rfl, rfl⟩
              refine ze_norm (c2 := 0) (s2 := 0) (st' := [.long (lN (ze_sc M A.length)), .ref (ad 39)]) rfl rfl rfl ?_
              refine ze_putf (k := 39) C fp_M_58 (by decide) ze_E_m rfl rfl (Nat.le_of_ble_eq_true rfl) d_M_sort_151 ?_
              refine ze_eqE (ze_up_m (ms' := (M, mv, inp.length, A.length, ze_sc M A.length, le, A1)) rfl rfl) ?_
              refine ze_aload_n C d_M_sort_154 2 rfl rfl ?_
              refine ze_iload_n C d_M_sort_155 5 rfl rfl ?_
              refine ze_callV (st := []) C (c_M_finish (ze_l G) (ze_D G) (ze_i G) ad x M mv inp.length A.length (ze_sc M A.length) le A1 inp sl hR1 hM ji hji rfl (ze_srt od A, ze_sc M A.length) hmk (fun _ => rfl) (by omega)) (kv_M_77 (ze_rml (by decide) (by decide))) (by decide) ze_E_m rfl (Nat.le_of_ble_eq_true rfl) ⟨Nat.le_of_ble_eq_true rfl, Nat.le_of_ble_eq_true rfl⟩ d_M_sort_156 ?_
              rintro _ _ _ _ ⟨rfl, rfl, ms', rfl, rfl, hr⟩
              refine ze_norm (c2 := 0) (s2 := 0) (st' := [.int (sp_fin (inp, sl, mv, M) ji (ze_srt od A, ze_sc M A.length)).1]) rfl rfl rfl ?_
              exact ze_iret C Rt d_M_sort_159 ⟨rfl, rfl, _, rfl, by rw [hsp], by rw [hsp]; exact hr⟩
            · refine ze_iconst (v := nI 0) C d_M_sort_55 (by decide) ?_
              refine ze_istore (lv' := [(7, .int (nI 0)), (6, .int (nI i)), (5, .int (nI A.length)), (0, .ref (ad 39)), (1, .int (nI ja)), (2, .int (nI od)), (3, .int (nI ji))]) C d_M_sort_56 (by decide) rfl ?_
              refine ze_iconst (v := nI 0) C d_M_sort_58 (by decide) ?_
              refine ze_istore (lv' := [(8, .int (nI 0)), (7, .int (nI 0)), (6, .int (nI i)), (5, .int (nI A.length)), (0, .ref (ad 39)), (1, .int (nI ja)), (2, .int (nI od)), (3, .int (nI ji))]) C d_M_sort_59 (by decide) rfl ?_
              have inner : ∀ (r2 : Nat) (j k : Nat), A.length - j = r2 → j ≤ A.length → k = (List.range j).countP (fun q => ze_bf (ze_li od A) q i) → k ≤ j → ze_V G 48 ad (ze_E (ze_i G) ad x (M, mv, inp.length, A.length, 0, le, A1)) 0 0 61 [(8, .int (nI j)), (7, .int (nI k)), (6, .int (nI i)), (5, .int (nI A.length)), (0, .ref (ad 39)), (1, .int (nI ja)), (2, .int (nI od)), (3, .int (nI ji))] [] := by
                intro r2
                induction r2 using Nat.strongRecOn with
                | ind r2 ih2 =>
                  intro j k hr2 k1 k2 k3
                  refine ze_iload C d_M_sort_61 0 rfl ?_
                  refine ze_iload C d_M_sort_63 3 rfl ?_
                  refine ze_icmp_geN 100 C d_M_sort_65 (by decide) (by omega) (by omega) (fun h65 => ?_) (fun h65 => ?_)
                  · have hk : k = ze_rk od A i := by rw [k2, show j = A.length by omega]; rfl
                    have hkl := ze_rk_lt (o := od) (L := A) (i := i) (by omega)
                    refine ze_aload_n C d_M_sort_100 4 rfl rfl ?_
                    refine ze_getf (k := 39) C fl_M_25 (by decide) ze_E_m rfl d_M_sort_101 ?_
                    refine ze_iload C d_M_sort_104 1 rfl ?_
                    refine ze_aload_n C d_M_sort_106 4 rfl rfl ?_
                    refine ze_getf (k := 39) C fl_M_19 (by decide) ze_E_m rfl d_M_sort_107 ?_
                    refine ze_bipush (v := nI 60) C d_M_sort_110 (by decide) ?_
                    refine ze_iload_n C d_M_sort_112 5 rfl rfl ?_
                    refine ze_imulN C d_M_sort_113 ?_
                    refine ze_iload C d_M_sort_114 2 rfl ?_
                    refine ze_iaddN C d_M_sort_116 ?_
                    refine ze_iald (k := 40 + 3) (i := 60 * ja + i) C (by decide) (ze_E_a (j := 3)) (by show _ < 480; omega) (by decide) d_M_sort_117 ?_
                    refine ze_iast (k := 40 + 5) (i := k) C (by decide) (ze_E_a (j := 5)) (by show _ < 60; omega) (by decide) d_M_sort_118 ?_
                    refine ze_eqE (ze_up_a (j := 5)) ?_
                    refine ze_genA (fun A2 eA2 => ?_)
                    refine ze_aload_n C d_M_sort_119 4 rfl rfl ?_
                    refine ze_getf (k := 39) C fl_M_28 (by decide) ze_E_m rfl d_M_sort_120 ?_
                    refine ze_iload C d_M_sort_123 1 rfl ?_
                    refine ze_aload_n C d_M_sort_125 4 rfl rfl ?_
                    refine ze_getf (k := 39) C fl_M_22 (by decide) ze_E_m rfl d_M_sort_126 ?_
                    refine ze_bipush (v := nI 60) C d_M_sort_129 (by decide) ?_
                    refine ze_iload_n C d_M_sort_131 5 rfl rfl ?_
                    refine ze_imulN C d_M_sort_132 ?_
                    refine ze_iload C d_M_sort_133 2 rfl ?_
                    refine ze_iaddN C d_M_sort_135 ?_
                    refine ze_iald (k := 40 + 4) (i := 60 * ja + i) C (by decide) (ze_E_a (j := 4)) (by show _ < 480; omega) (by decide) d_M_sort_136 ?_
                    refine ze_iast (k := 40 + 6) (i := k) C (by decide) (ze_E_a (j := 6)) (by show _ < 60; omega) (by decide) d_M_sort_137 ?_
                    refine ze_eqE (ze_up_a (j := 6)) ?_
                    refine ze_genA (fun A3 eA3 => ?_)
                    refine ze_iinc (j := 2) (v := nI (i + 1)) (lv' := [(6, .int (nI (i + 1))), (8, .int (nI j)), (7, .int (nI k)), (5, .int (nI A.length)), (0, .ref (ad 39)), (1, .int (nI ja)), (2, .int (nI od)), (3, .int (nI ji))]) C d_M_sort_138 rfl (nI_1 _) (by decide) rfl ?_
                    refine ze_goto 48 C d_M_sort_141 (by decide) ?_
                    refine ze_sub [(6, .int (nI (i + 1))), (5, .int (nI A.length)), (0, .ref (ad 39)), (1, .int (nI ja)), (2, .int (nI od)), (3, .int (nI ji))] [0, 3, 4, 5, 6, 7] rfl ?_
                    have a5 : A3 5 = upd (A1 5) k (A1 3 (60 * ja + i)) := by rw [ze_ao eA3 5 (by decide), ze_au eA2]
                    have a6 : A3 6 = upd (A1 6) k (A1 4 (60 * ja + i)) := by rw [ze_au eA3, ze_ao eA2 6 (by decide), ze_ao eA2 4 (by decide)]
                    refine ih (A.length - (i + 1)) (by omega) (i + 1) A3 rfl (by omega) (fun z z1 z2 => ((ze_ao eA3 z z2).trans (ze_ao eA2 z z1)).trans (g2 z z1 z2)) (fun q hq => ?_)
                    rw [a5, a6]
                    by_cases hqi : q = i
                    · subst hqi
                      rw [← hk, pk_us, pk_us, g2 3 (by decide) (by decide), g2 4 (by decide) (by decide)]
                      exact ⟨rfl, rfl⟩
                    · have hne2 : ze_rk od A q ≠ k := fun z => hqi (ze_rk_inj (by omega) (by omega) (z.trans hk))
                      rw [pk_un hne2, pk_un hne2]
                      exact g3 q (by omega)
                  · refine ze_iload C d_M_sort_68 1 rfl ?_
                    refine ze_aload_n C d_M_sort_70 4 rfl rfl ?_
                    refine ze_bipush (v := nI 60) C d_M_sort_71 (by decide) ?_
                    refine ze_iload_n C d_M_sort_73 5 rfl rfl ?_
                    refine ze_imulN C d_M_sort_74 ?_
                    refine ze_iload C d_M_sort_75 0 rfl ?_
                    refine ze_iload C d_M_sort_77 2 rfl ?_
                    refine ze_iload_n C d_M_sort_79 6 rfl rfl ?_
                    refine ze_callV (st := [.int (nI k)]) C (c_M_before (ze_l G) (ze_D G) (ze_i G) ad x M mv inp.length A.length 0 le A1 A ja hja hA60 hH1 j i (by omega) (by omega) od hod) (kv_M_69 (ze_rml (by decide) (by decide))) (by decide) ze_E_m rfl (Nat.le_of_ble_eq_true rfl) ⟨Nat.le_of_ble_eq_true rfl, Nat.le_of_ble_eq_true rfl⟩ d_M_sort_80 ?_
                    rintro _ _ _ _ ⟨rfl, rfl, _, rfl, rfl, rfl⟩
                    refine ze_norm (c2 := 0) (s2 := 0) (st' := [.int (ze_bi (ze_bf (ze_li od A) j i)), .int (nI k)]) rfl rfl rfl ?_
                    refine ze_if_eq 90 C d_M_sort_83 (by decide) (fun h83 => ?_) (fun h83 => ?_)
                    · refine ze_iconst (v := nI 0) C d_M_sort_90 (by decide) ?_
                      refine ze_iaddN C d_M_sort_91 ?_
                      refine ze_istore (lv' := [(7, .int (nI (k + 0))), (8, .int (nI j)), (6, .int (nI i)), (5, .int (nI A.length)), (0, .ref (ad 39)), (1, .int (nI ja)), (2, .int (nI od)), (3, .int (nI ji))]) C d_M_sort_92 (by decide) rfl ?_
                      refine ze_iinc (j := 1) (v := nI (j + 1)) (lv' := [(8, .int (nI (j + 1))), (7, .int (nI (k + 0))), (6, .int (nI i)), (5, .int (nI A.length)), (0, .ref (ad 39)), (1, .int (nI ja)), (2, .int (nI od)), (3, .int (nI ji))]) C d_M_sort_94 rfl (nI_1 _) (by decide) rfl ?_
                      refine ze_goto 61 C d_M_sort_97 (by decide) ?_
                      refine ze_sub [(8, .int (nI (j + 1))), (7, .int (nI (k + 0))), (6, .int (nI i)), (5, .int (nI A.length)), (0, .ref (ad 39)), (1, .int (nI ja)), (2, .int (nI od)), (3, .int (nI ji))] [0, 1, 2, 3, 4, 5, 6, 7] rfl ?_
                      exact ih2 (A.length - (j + 1)) (by omega) (j + 1) _ rfl (by omega) (by rw [ze_cP_succ, k2, if_neg (by rw [ze_bi0.mp h83]; decide)]) (by omega)
                    · refine ze_iconst (v := nI 1) C d_M_sort_86 (by decide) ?_
                      refine ze_goto 91 C d_M_sort_87 (by decide) ?_
                      refine ze_iaddN C d_M_sort_91 ?_
                      refine ze_istore (lv' := [(7, .int (nI (k + 1))), (8, .int (nI j)), (6, .int (nI i)), (5, .int (nI A.length)), (0, .ref (ad 39)), (1, .int (nI ja)), (2, .int (nI od)), (3, .int (nI ji))]) C d_M_sort_92 (by decide) rfl ?_
                      refine ze_iinc (j := 1) (v := nI (j + 1)) (lv' := [(8, .int (nI (j + 1))), (7, .int (nI (k + 1))), (6, .int (nI i)), (5, .int (nI A.length)), (0, .ref (ad 39)), (1, .int (nI ja)), (2, .int (nI od)), (3, .int (nI ji))]) C d_M_sort_94 rfl (nI_1 _) (by decide) rfl ?_
                      refine ze_goto 61 C d_M_sort_97 (by decide) ?_
                      refine ze_sub [(8, .int (nI (j + 1))), (7, .int (nI (k + 1))), (6, .int (nI i)), (5, .int (nI A.length)), (0, .ref (ad 39)), (1, .int (nI ja)), (2, .int (nI od)), (3, .int (nI ji))] [0, 1, 2, 3, 4, 5, 6, 7] rfl ?_
                      exact ih2 (A.length - (j + 1)) (by omega) (j + 1) _ rfl (by omega) (by rw [ze_cP_succ, k2, if_pos (ze_bi1 h83)]) (by omega)
              refine ze_sub [(8, .int (nI 0)), (7, .int (nI 0)), (6, .int (nI i)), (5, .int (nI A.length)), (0, .ref (ad 39)), (1, .int (nI ja)), (2, .int (nI od)), (3, .int (nI ji))] [0, 1, 2, 3, 4, 5, 6, 7] rfl ?_
              exact inner _ 0 0 rfl (Nat.zero_le _) rfl (Nat.le_refl _)
        refine ze_sub [(6, .int (nI 0)), (5, .int (nI A.length)), (0, .ref (ad 39)), (1, .int (nI ja)), (2, .int (nI od)), (3, .int (nI ji))] [0, 1, 2, 3, 4, 5] rfl ?_
        exact loop _ 0 Ar rfl (Nat.zero_le _) (fun _ _ _ => rfl) (fun q hq => absurd hq (by omega))
      · refine ze_iload C d_M_sort_28 0 rfl ?_
        exact ze_iret C Rt d_M_sort_30 (⟨rfl, rfl, _, rfl, by rw [hsp0, ze_rfs_ne (σ := (inp, sl, mv, M)) h25], by rw [hsp0, ze_rfs_ne (σ := (inp, sl, mv, M)) h25]; exact ⟨ma1, co1, le, Ar, rfl, hR, hM.1, hM.2⟩⟩)

set_option maxRecDepth 100000 in
set_option maxHeartbeats 4000000 in
theorem c_M_times (l : Launch) (D : va_G) (ids : Nat → ClassId) (ad : Nat → Nat) (x : ze_XS) (M : Nat) (mv : Int64) (ty ma co le : Nat) (Ar : Nat → Nat → Int32) (L : List ze_Row) (s : Nat) (hs : s < 8) (hL : L.length ≤ 60) (hc : Ar 2 s = nI L.length) (hH : ze_Hl (Ar 3) (Ar 4) (60 * s) L) (key value : Int32) : ze_MM l D ids ad x y_M_times ws_M_times 3 (M, mv, ty, ma, co, le, Ar) [.ref (ad 39), .int (nI s), .int key, .int value] (fun v ms' => v = some (.int (nI (L.count (key, value)))) ∧ ms' = (M, mv, ty, ma, co, le, Ar)) := by
  refine ze_enter (cc := b_M_times) (maxL := 6) (ret := (some .int)) (by decide +kernel) rfl (Nat.le_of_ble_eq_true rfl) ?_
  rintro G rfl rfl rfl - C Rt
  refine ze_lv (lv' := [(0, .ref (ad 39)), (1, .int (nI s)), (2, .int key), (3, .int value)]) rfl ?_
  have loop : ∀ (r : Nat) (p t : Nat), L.length - p = r → p ≤ L.length → t = (L.take p).count (key, value) → t ≤ p → ze_V G 48 ad (ze_E (ze_i G) ad x (M, mv, ty, ma, co, le, Ar)) 0 0 6 [(5, .int (nI p)), (4, .int (nI t)), (0, .ref (ad 39)), (1, .int (nI s)), (2, .int key), (3, .int value)] [] := by
    intro r
    induction r using Nat.strongRecOn with
    | ind r ih =>
      intro p t hr g1 g2 g3
      refine ze_iload C d_M_times_6 0 rfl ?_
      refine ze_aload_n C d_M_times_8 2 rfl rfl ?_
      refine ze_getf (k := 39) C fl_M_16 (by decide) ze_E_m rfl d_M_times_9 ?_
      refine ze_iload_n C d_M_times_12 3 rfl rfl ?_
      refine ze_iald (k := 40 + 2) (i := s) C (by decide) (ze_E_a (j := 2)) (by show _ < 8; omega) (by decide) d_M_times_13 ?_
      rw [hc]
      refine ze_icmp_geN 65 C d_M_times_14 (by decide) (by omega) (by omega) (fun h14 => ?_) (fun h14 => ?_)
      · refine ze_iload C d_M_times_65 1 rfl ?_
        exact ze_iret C Rt d_M_times_67 (⟨rfl, rfl, _, rfl, by rw [g2, List.take_of_length_le (by omega)], rfl⟩)
      · refine ze_iload C d_M_times_17 1 rfl ?_
        refine ze_aload_n C d_M_times_19 2 rfl rfl ?_
        refine ze_getf (k := 39) C fl_M_19 (by decide) ze_E_m rfl d_M_times_20 ?_
        refine ze_bipush (v := nI 60) C d_M_times_23 (by decide) ?_
        refine ze_iload_n C d_M_times_25 3 rfl rfl ?_
        refine ze_imulN C d_M_times_26 ?_
        refine ze_iload C d_M_times_27 0 rfl ?_
        refine ze_iaddN C d_M_times_29 ?_
        refine ze_iald (k := 40 + 3) (i := 60 * s + p) C (by decide) (ze_E_a (j := 3)) (by show _ < 480; omega) (by decide) d_M_times_30 ?_
        refine ze_iload_n C d_M_times_31 4 rfl rfl ?_
        refine ze_icmp_ne 55 C d_M_times_32 (by decide) (fun h32 => ?_) (fun h32 => ?_)
        · refine ze_iconst (v := nI 0) C d_M_times_55 (by decide) ?_
          refine ze_iaddN C d_M_times_56 ?_
          refine ze_istore (lv' := [(4, .int (nI (t + 0))), (5, .int (nI p)), (0, .ref (ad 39)), (1, .int (nI s)), (2, .int key), (3, .int value)]) C d_M_times_57 (by decide) rfl ?_
          refine ze_iinc (j := 1) (v := nI (p + 1)) (lv' := [(5, .int (nI (p + 1))), (4, .int (nI (t + 0))), (0, .ref (ad 39)), (1, .int (nI s)), (2, .int key), (3, .int value)]) C d_M_times_59 rfl (nI_1 _) (by decide) rfl ?_
          refine ze_goto 6 C d_M_times_62 (by decide) ?_
          refine ze_sub [(5, .int (nI (p + 1))), (4, .int (nI (t + 0))), (0, .ref (ad 39)), (1, .int (nI s)), (2, .int key), (3, .int value)] [0, 1, 2, 3, 4, 5] rfl ?_
          exact ih (L.length - (p + 1)) (by omega) (p + 1) _ rfl (by omega) (by rw [ze_Hl_take hH (by omega), List.count_append, ← g2, List.count_singleton]; simp [h32]) (by omega)
        · refine ze_aload_n C d_M_times_35 2 rfl rfl ?_
          refine ze_getf (k := 39) C fl_M_22 (by decide) ze_E_m rfl d_M_times_36 ?_
          refine ze_bipush (v := nI 60) C d_M_times_39 (by decide) ?_
          refine ze_iload_n C d_M_times_41 3 rfl rfl ?_
          refine ze_imulN C d_M_times_42 ?_
          refine ze_iload C d_M_times_43 0 rfl ?_
          refine ze_iaddN C d_M_times_45 ?_
          refine ze_iald (k := 40 + 4) (i := 60 * s + p) C (by decide) (ze_E_a (j := 4)) (by show _ < 480; omega) (by decide) d_M_times_46 ?_
          refine ze_iload_n C d_M_times_47 5 rfl rfl ?_
          refine ze_icmp_ne 55 C d_M_times_48 (by decide) (fun h48 => ?_) (fun h48 => ?_)
          · refine ze_iconst (v := nI 0) C d_M_times_55 (by decide) ?_
            refine ze_iaddN C d_M_times_56 ?_
            refine ze_istore (lv' := [(4, .int (nI (t + 0))), (5, .int (nI p)), (0, .ref (ad 39)), (1, .int (nI s)), (2, .int key), (3, .int value)]) C d_M_times_57 (by decide) rfl ?_
            refine ze_iinc (j := 1) (v := nI (p + 1)) (lv' := [(5, .int (nI (p + 1))), (4, .int (nI (t + 0))), (0, .ref (ad 39)), (1, .int (nI s)), (2, .int key), (3, .int value)]) C d_M_times_59 rfl (nI_1 _) (by decide) rfl ?_
            refine ze_goto 6 C d_M_times_62 (by decide) ?_
            refine ze_sub [(5, .int (nI (p + 1))), (4, .int (nI (t + 0))), (0, .ref (ad 39)), (1, .int (nI s)), (2, .int key), (3, .int value)] [0, 1, 2, 3, 4, 5] rfl ?_
            exact ih (L.length - (p + 1)) (by omega) (p + 1) _ rfl (by omega) (by rw [ze_Hl_take hH (by omega), List.count_append, ← g2, List.count_singleton]; simp [h48]) (by omega)
          · refine ze_iconst (v := nI 1) C d_M_times_51 (by decide) ?_
            refine ze_goto 56 C d_M_times_52 (by decide) ?_
            refine ze_iaddN C d_M_times_56 ?_
            refine ze_istore (lv' := [(4, .int (nI (t + 1))), (5, .int (nI p)), (0, .ref (ad 39)), (1, .int (nI s)), (2, .int key), (3, .int value)]) C d_M_times_57 (by decide) rfl ?_
            refine ze_iinc (j := 1) (v := nI (p + 1)) (lv' := [(5, .int (nI (p + 1))), (4, .int (nI (t + 1))), (0, .ref (ad 39)), (1, .int (nI s)), (2, .int key), (3, .int value)]) C d_M_times_59 rfl (nI_1 _) (by decide) rfl ?_
            refine ze_goto 6 C d_M_times_62 (by decide) ?_
            refine ze_sub [(5, .int (nI (p + 1))), (4, .int (nI (t + 1))), (0, .ref (ad 39)), (1, .int (nI s)), (2, .int key), (3, .int value)] [0, 1, 2, 3, 4, 5] rfl ?_
            exact ih (L.length - (p + 1)) (by omega) (p + 1) _ rfl (by omega) (by rw [ze_Hl_take hH (by omega), List.count_append, ← g2, List.count_singleton]; simp [h32, h48]) (by omega)
  refine ze_iconst (v := nI 0) C d_M_times_0 (by decide) ?_
  refine ze_istore (lv' := [(4, .int (nI 0)), (0, .ref (ad 39)), (1, .int (nI s)), (2, .int key), (3, .int value)]) C d_M_times_1 (by decide) rfl ?_
  refine ze_iconst (v := nI 0) C d_M_times_3 (by decide) ?_
  refine ze_istore (lv' := [(5, .int (nI 0)), (4, .int (nI 0)), (0, .ref (ad 39)), (1, .int (nI s)), (2, .int key), (3, .int value)]) C d_M_times_4 (by decide) rfl ?_
  exact loop _ 0 0 rfl (Nat.zero_le _) rfl (Nat.le_refl _)

set_option maxRecDepth 100000 in
set_option maxHeartbeats 4000000 in
theorem c_M_next_0 (l : Launch) (D : va_G) (ids : Nat → ClassId) (ad : Nat → Nat) (x : ze_XS) (M : Nat) (mv : Int64) (ty ma co le : Nat) (Ar : Nat → Nat → Int32) (A B : List ze_Row) (ja jb : Nat) (hja : ja < 8) (hjb : jb < 8) (hA60 : A.length ≤ 60) (hB60 : B.length ≤ 60) (hcA : Ar 2 ja = nI A.length) (hcB : Ar 2 jb = nI B.length) (hHA : ze_Hl (Ar 3) (Ar 4) (60 * ja) A) (hHB : ze_Hl (Ar 3) (Ar 4) (60 * jb) B) (D1 D2 : List ze_Row) (hD : ze_un A B = D1 ++ D2) (hat : D1.getLast? = none) : ze_MM l D ids ad x y_M_next ws_M_next 3 (M, mv, ty, ma, co, le, Ar) [.ref (ad 39), .int (nI ja), .int (nI jb), .int (-1)] (fun w ms' => ∃ v, w = some (.int v) ∧ ms' = (M, mv, ty, ma, co, le, Ar) ∧ ze_nx Ar D2 v) := by
  refine ze_enter (cc := b_M_next) (maxL := 9) (ret := (some .int)) (by decide +kernel) rfl (Nat.le_of_ble_eq_true rfl) ?_
  rintro G rfl rfl rfl - C Rt
  refine ze_lv (lv' := [(0, .ref (ad 39)), (1, .int (nI ja)), (2, .int (nI jb)), (3, .int (-1))]) rfl ?_
  have inner : ∀ (k s : Nat) (Ls P0 : List ze_Row), k < 2 → s < 8 → Ls.length ≤ 60 → Ar 2 s = nI Ls.length → ze_Hl (Ar 3) (Ar 4) (60 * s) Ls → (∀ b', ze_best Ar (ze_gtD D1) (P0 ++ Ls) b' → ze_V G 48 ad (ze_E (ze_i G) ad x (M, mv, ty, ma, co, le, Ar)) 0 0 6 [(5, .int (nI (k + 1))), (4, .int b'), (0, .ref (ad 39)), (1, .int (nI ja)), (2, .int (nI jb)), (3, .int (-1))] []) → ∀ (r p : Nat) (best : Int32), Ls.length - p = r → p ≤ Ls.length → ze_best Ar (ze_gtD D1) (P0 ++ Ls.take p) best → ze_V G 48 ad (ze_E (ze_i G) ad x (M, mv, ty, ma, co, le, Ar)) 0 0 31 [(7, .int (nI (60 * s + p))), (6, .int (nI s)), (5, .int (nI k)), (4, .int best), (0, .ref (ad 39)), (1, .int (nI ja)), (2, .int (nI jb)), (3, .int (-1))] [] := by
    intro k s Ls P0 hk2 hs8 hl hc hH kont r
    induction r using Nat.strongRecOn with
    | ind r ih =>
      intro p best hr g1 g2
      refine ze_iload C d_M_next_31 0 rfl ?_
      refine ze_bipush (v := nI 60) C d_M_next_33 (by decide) ?_
      refine ze_iload C d_M_next_35 1 rfl ?_
      refine ze_imulN C d_M_next_37 ?_
      refine ze_aload_n C d_M_next_38 4 rfl rfl ?_
      refine ze_getf (k := 39) C fl_M_16 (by decide) ze_E_m rfl d_M_next_39 ?_
      refine ze_iload C d_M_next_42 1 rfl ?_
      refine ze_iald (k := 40 + 2) (i := s) C (by decide) (ze_E_a (j := 2)) (by show _ < 8; omega) (by decide) d_M_next_44 ?_
      rw [hc]
      refine ze_iaddN C d_M_next_45 ?_
      refine ze_icmp_geN 146 C d_M_next_46 (by decide) (by omega) (by omega) (fun h46 => ?_) (fun h46 => ?_)
      · rw [List.take_of_length_le (by omega)] at g2
        refine ze_iinc (j := 2) (v := nI (k + 1)) (lv' := [(5, .int (nI (k + 1))), (7, .int (nI (60 * s + p))), (6, .int (nI s)), (4, .int best), (0, .ref (ad 39)), (1, .int (nI ja)), (2, .int (nI jb)), (3, .int (-1))]) C d_M_next_146 rfl (nI_1 _) (by decide) rfl ?_
        refine ze_goto 6 C d_M_next_149 (by decide) ?_
        refine ze_sub [(5, .int (nI (k + 1))), (4, .int best), (0, .ref (ad 39)), (1, .int (nI ja)), (2, .int (nI jb)), (3, .int (-1))] [0, 3, 4, 5, 6, 7] rfl ?_
        exact kont best g2
      · have hrow := ze_Hl_take hH (j := p) (by omega)
        refine ze_iload_n C d_M_next_49 7 rfl rfl ?_
        refine ze_if_lt 85 C d_M_next_50 (by decide) (fun h50 => ?_) (fun h50 => absurd h50 (by decide))
        have hgt : ze_gtD D1 (ze_rw Ar (60 * s + p)) := fun z hz => by rw [hat] at hz; cases hz
        refine ze_iconst (v := ze_bi true) C d_M_next_85 (by decide) ?_
        refine ze_goto 90 C d_M_next_86 (by decide) ?_
        refine ze_istore (lv' := [(8, .int (ze_bi true)), (7, .int (nI (60 * s + p))), (6, .int (nI s)), (5, .int (nI k)), (4, .int best), (0, .ref (ad 39)), (1, .int (nI ja)), (2, .int (nI jb)), (3, .int (-1))]) C d_M_next_90 (by decide) rfl ?_
        refine ze_iload C d_M_next_92 0 rfl ?_
        refine ze_if_eq 140 C d_M_next_94 (by decide) (fun h94 => ?_) (fun h94 => ?_)
        · exact absurd h94 (by decide)
        · rcases g2 with ⟨rfl, hb1⟩ | ⟨t2, ht2, rfl, hb3, hb4, hb5⟩
          · refine ze_iload C d_M_next_97 4 rfl ?_
            refine ze_if_lt 136 C d_M_next_99 (by decide) (fun h99 => ?_) (fun h99 => absurd h99 (by decide))
            refine ze_iload C d_M_next_136 1 rfl ?_
            refine ze_istore (lv' := [(4, .int (nI (60 * s + p))), (8, .int (ze_bi true)), (7, .int (nI (60 * s + p))), (6, .int (nI s)), (5, .int (nI k)), (0, .ref (ad 39)), (1, .int (nI ja)), (2, .int (nI jb)), (3, .int (-1))]) C d_M_next_138 (by decide) rfl ?_
            refine ze_iinc (j := 2) (v := nI (60 * s + p + 1)) (lv' := [(7, .int (nI (60 * s + p + 1))), (4, .int (nI (60 * s + p))), (8, .int (ze_bi true)), (6, .int (nI s)), (5, .int (nI k)), (0, .ref (ad 39)), (1, .int (nI ja)), (2, .int (nI jb)), (3, .int (-1))]) C d_M_next_140 rfl (nI_1 _) (by decide) rfl ?_
            refine ze_goto 31 C d_M_next_143 (by decide) ?_
            refine ze_sub [(7, .int (nI (60 * s + (p + 1)))), (6, .int (nI s)), (5, .int (nI k)), (4, .int (nI (60 * s + p))), (0, .ref (ad 39)), (1, .int (nI ja)), (2, .int (nI jb)), (3, .int (-1))] [0, 3, 4, 1, 5, 6, 7, 8] rfl ?_
            exact ih (Ls.length - (p + 1)) (by omega) (p + 1) _ rfl (by omega) (by rw [hrow, ← List.append_assoc]; exact ze_best_first hb1 (by omega) hgt)
          · refine ze_iload C d_M_next_97 4 rfl ?_
            refine ze_if_ltN 136 C d_M_next_99 (by decide) (by omega) (fun h99 => absurd h99 (by omega)) (fun h99 => ?_)
            refine ze_aload_n C d_M_next_102 5 rfl rfl ?_
            refine ze_getf (k := 39) C fl_M_19 (by decide) ze_E_m rfl d_M_next_103 ?_
            refine ze_iload C d_M_next_106 1 rfl ?_
            refine ze_iald (k := 40 + 3) (i := 60 * s + p) C (by decide) (ze_E_a (j := 3)) (by show _ < 480; omega) (by decide) d_M_next_108 ?_
            refine ze_aload_n C d_M_next_109 5 rfl rfl ?_
            refine ze_getf (k := 39) C fl_M_22 (by decide) ze_E_m rfl d_M_next_110 ?_
            refine ze_iload C d_M_next_113 1 rfl ?_
            refine ze_iald (k := 40 + 4) (i := 60 * s + p) C (by decide) (ze_E_a (j := 4)) (by show _ < 480; omega) (by decide) d_M_next_115 ?_
            refine ze_aload_n C d_M_next_116 5 rfl rfl ?_
            refine ze_getf (k := 39) C fl_M_19 (by decide) ze_E_m rfl d_M_next_117 ?_
            refine ze_iload C d_M_next_120 4 rfl ?_
            refine ze_iald (k := 40 + 3) (i := t2) C (by decide) (ze_E_a (j := 3)) (by show _ < 480; omega) (by decide) d_M_next_122 ?_
            refine ze_aload_n C d_M_next_123 5 rfl rfl ?_
            refine ze_getf (k := 39) C fl_M_22 (by decide) ze_E_m rfl d_M_next_124 ?_
            refine ze_iload C d_M_next_127 4 rfl ?_
            refine ze_iald (k := 40 + 4) (i := t2) C (by decide) (ze_E_a (j := 4)) (by show _ < 480; omega) (by decide) d_M_next_129 ?_
            refine ze_callS (st := []) C (c_M_compare (ze_l G) (ze_D G) (ze_i G) _ _ _ (Ar 3 (60 * s + p)) (Ar 4 (60 * s + p)) (Ar 3 t2) (Ar 4 t2)) (ks_M_61 (ze_rml (by decide) (by decide))) rfl (Nat.le_of_ble_eq_true rfl) ⟨Nat.le_of_ble_eq_true rfl, Nat.le_of_ble_eq_true rfl⟩ d_M_next_130 ?_
            rintro _ _ _ _ ⟨rfl, rfl, rfl, rfl⟩
            refine ze_norm (c2 := 0) (s2 := 0) (st' := [.int (ze_cp (Ar 3 (60 * s + p)) (Ar 4 (60 * s + p)) (Ar 3 t2) (Ar 4 t2))]) rfl rfl rfl ?_
            refine ze_if_ge 140 C d_M_next_133 (by decide) (fun h133 => ?_) (fun h133 => ?_)
            · refine ze_iinc (j := 1) (v := nI (60 * s + p + 1)) (lv' := [(7, .int (nI (60 * s + p + 1))), (8, .int (ze_bi true)), (6, .int (nI s)), (5, .int (nI k)), (4, .int (nI t2)), (0, .ref (ad 39)), (1, .int (nI ja)), (2, .int (nI jb)), (3, .int (-1))]) C d_M_next_140 rfl (nI_1 _) (by decide) rfl ?_
              refine ze_goto 31 C d_M_next_143 (by decide) ?_
              refine ze_sub [(7, .int (nI (60 * s + (p + 1)))), (6, .int (nI s)), (5, .int (nI k)), (4, .int (nI t2)), (0, .ref (ad 39)), (1, .int (nI ja)), (2, .int (nI jb)), (3, .int (-1))] [0, 2, 3, 4, 5, 6, 7, 8] rfl ?_
              exact ih (Ls.length - (p + 1)) (by omega) (p + 1) _ rfl (by omega) (by rw [hrow, ← List.append_assoc]; exact ze_best_keep ht2 hb3 hb4 hb5 (Bool.eq_false_iff.mpr (fun z => absurd (ze_cp_lt.mpr z) (Int32.not_lt.mpr h133))))
            · refine ze_iload C d_M_next_136 1 rfl ?_
              refine ze_istore (lv' := [(4, .int (nI (60 * s + p))), (8, .int (ze_bi true)), (7, .int (nI (60 * s + p))), (6, .int (nI s)), (5, .int (nI k)), (0, .ref (ad 39)), (1, .int (nI ja)), (2, .int (nI jb)), (3, .int (-1))]) C d_M_next_138 (by decide) rfl ?_
              refine ze_iinc (j := 2) (v := nI (60 * s + p + 1)) (lv' := [(7, .int (nI (60 * s + p + 1))), (4, .int (nI (60 * s + p))), (8, .int (ze_bi true)), (6, .int (nI s)), (5, .int (nI k)), (0, .ref (ad 39)), (1, .int (nI ja)), (2, .int (nI jb)), (3, .int (-1))]) C d_M_next_140 rfl (nI_1 _) (by decide) rfl ?_
              refine ze_goto 31 C d_M_next_143 (by decide) ?_
              refine ze_sub [(7, .int (nI (60 * s + (p + 1)))), (6, .int (nI s)), (5, .int (nI k)), (4, .int (nI (60 * s + p))), (0, .ref (ad 39)), (1, .int (nI ja)), (2, .int (nI jb)), (3, .int (-1))] [0, 3, 4, 1, 5, 6, 7, 8] rfl ?_
              exact ih (Ls.length - (p + 1)) (by omega) (p + 1) _ rfl (by omega) (by rw [hrow, ← List.append_assoc]; exact ze_best_less hb5 (by omega) hgt (ze_cp_lt.mp (Int32.not_le.mp h133)))
  refine ze_iconst (v := -1) C d_M_next_0 (by decide) ?_
  refine ze_istore (lv' := [(4, .int (-1)), (0, .ref (ad 39)), (1, .int (nI ja)), (2, .int (nI jb)), (3, .int (-1))]) C d_M_next_1 (by decide) rfl ?_
  refine ze_iconst (v := nI 0) C d_M_next_3 (by decide) ?_
  refine ze_istore (lv' := [(5, .int (nI 0)), (4, .int (-1)), (0, .ref (ad 39)), (1, .int (nI ja)), (2, .int (nI jb)), (3, .int (-1))]) C d_M_next_4 (by decide) rfl ?_
  refine ze_iload C d_M_next_6 0 rfl ?_
  refine ze_iconst (v := nI 2) C d_M_next_8 (by decide) ?_
  refine ze_icmp_geN 152 C d_M_next_9 (by decide) (by omega) (by omega) (fun h9 => absurd h9 (by decide)) (fun h9 => ?_)
  refine ze_iload C d_M_next_12 0 rfl ?_
  refine ze_if_neN 21 C d_M_next_14 (by decide) (by omega) (fun h14 => absurd h14 (by decide)) (fun h14 => ?_)
  refine ze_iload_n C d_M_next_17 3 rfl rfl ?_
  refine ze_goto 22 C d_M_next_18 (by decide) ?_
  refine ze_istore (lv' := [(6, .int (nI ja)), (5, .int (nI 0)), (4, .int (-1)), (0, .ref (ad 39)), (1, .int (nI ja)), (2, .int (nI jb)), (3, .int (-1))]) C d_M_next_22 (by decide) rfl ?_
  refine ze_bipush (v := nI 60) C d_M_next_24 (by decide) ?_
  refine ze_iload C d_M_next_26 0 rfl ?_
  refine ze_imulN C d_M_next_28 ?_
  refine ze_istore (lv' := [(7, .int (nI (60 * ja))), (6, .int (nI ja)), (5, .int (nI 0)), (4, .int (-1)), (0, .ref (ad 39)), (1, .int (nI ja)), (2, .int (nI jb)), (3, .int (-1))]) C d_M_next_29 (by decide) rfl ?_
  refine ze_sub [(7, .int (nI (60 * ja + 0))), (6, .int (nI ja)), (5, .int (nI 0)), (4, .int (-1)), (0, .ref (ad 39)), (1, .int (nI ja)), (2, .int (nI jb)), (3, .int (-1))] [0, 1, 2, 3, 4, 5, 6, 7] rfl ?_
  refine inner 0 ja A [] (by decide) hja hA60 hcA hHA (fun b' hb' => ?_) _ 0 _ rfl (Nat.zero_le _) (by rw [List.take_zero, List.append_nil]; exact Or.inl ⟨rfl, fun q hq => absurd hq List.not_mem_nil⟩)
  have hb1 := hb'
  refine ze_lv (lv' := [(5, .int (nI 1)), (4, .int b'), (0, .ref (ad 39)), (1, .int (nI ja)), (2, .int (nI jb)), (3, .int (-1))]) rfl ?_
  refine ze_iload C d_M_next_6 0 rfl ?_
  refine ze_iconst (v := nI 2) C d_M_next_8 (by decide) ?_
  refine ze_icmp_geN 152 C d_M_next_9 (by decide) (by omega) (by omega) (fun h9 => absurd h9 (by decide)) (fun h9 => ?_)
  refine ze_iload C d_M_next_12 0 rfl ?_
  refine ze_if_neN 21 C d_M_next_14 (by decide) (by omega) (fun h14 => ?_) (fun h14 => absurd h14 (by decide))
  refine ze_iload_n C d_M_next_21 4 rfl rfl ?_
  refine ze_istore (lv' := [(6, .int (nI jb)), (5, .int (nI 1)), (4, .int b'), (0, .ref (ad 39)), (1, .int (nI ja)), (2, .int (nI jb)), (3, .int (-1))]) C d_M_next_22 (by decide) rfl ?_
  refine ze_bipush (v := nI 60) C d_M_next_24 (by decide) ?_
  refine ze_iload C d_M_next_26 0 rfl ?_
  refine ze_imulN C d_M_next_28 ?_
  refine ze_istore (lv' := [(7, .int (nI (60 * jb))), (6, .int (nI jb)), (5, .int (nI 1)), (4, .int b'), (0, .ref (ad 39)), (1, .int (nI ja)), (2, .int (nI jb)), (3, .int (-1))]) C d_M_next_29 (by decide) rfl ?_
  refine ze_sub [(7, .int (nI (60 * jb + 0))), (6, .int (nI jb)), (5, .int (nI 1)), (4, .int b'), (0, .ref (ad 39)), (1, .int (nI ja)), (2, .int (nI jb)), (3, .int (-1))] [0, 1, 2, 3, 4, 5, 6, 7] rfl ?_
  refine inner 1 jb B A (by decide) hjb hB60 hcB hHB (fun b' hb' => ?_) _ 0 _ rfl (Nat.zero_le _) (by rw [List.take_zero, List.append_nil]; exact hb1)
  have hb2 := hb'
  refine ze_lv (lv' := [(5, .int (nI 2)), (4, .int b'), (0, .ref (ad 39)), (1, .int (nI ja)), (2, .int (nI jb)), (3, .int (-1))]) rfl ?_
  refine ze_iload C d_M_next_6 0 rfl ?_
  refine ze_iconst (v := nI 2) C d_M_next_8 (by decide) ?_
  refine ze_icmp_geN 152 C d_M_next_9 (by decide) (by omega) (by omega) (fun h9 => ?_) (fun h9 => absurd h9 (by decide))
  refine ze_iload C d_M_next_152 1 rfl ?_
  exact ze_iret C Rt d_M_next_154 (⟨rfl, rfl, _, rfl, _, rfl, rfl, ze_nx_of hD hb2⟩)

set_option maxRecDepth 100000 in
set_option maxHeartbeats 4000000 in
theorem c_M_next_1 (l : Launch) (D : va_G) (ids : Nat → ClassId) (ad : Nat → Nat) (x : ze_XS) (M : Nat) (mv : Int64) (ty ma co le : Nat) (Ar : Nat → Nat → Int32) (A B : List ze_Row) (ja jb : Nat) (hja : ja < 8) (hjb : jb < 8) (hA60 : A.length ≤ 60) (hB60 : B.length ≤ 60) (hcA : Ar 2 ja = nI A.length) (hcB : Ar 2 jb = nI B.length) (hHA : ze_Hl (Ar 3) (Ar 4) (60 * ja) A) (hHB : ze_Hl (Ar 3) (Ar 4) (60 * jb) B) (D1 D2 : List ze_Row) (hD : ze_un A B = D1 ++ D2) (t1 : Nat) (ht1 : t1 < 480) (hat : D1.getLast? = some (ze_rw Ar t1)) : ze_MM l D ids ad x y_M_next ws_M_next 3 (M, mv, ty, ma, co, le, Ar) [.ref (ad 39), .int (nI ja), .int (nI jb), .int (nI t1)] (fun w ms' => ∃ v, w = some (.int v) ∧ ms' = (M, mv, ty, ma, co, le, Ar) ∧ ze_nx Ar D2 v) := by
  refine ze_enter (cc := b_M_next) (maxL := 9) (ret := (some .int)) (by decide +kernel) rfl (Nat.le_of_ble_eq_true rfl) ?_
  rintro G rfl rfl rfl - C Rt
  refine ze_lv (lv' := [(0, .ref (ad 39)), (1, .int (nI ja)), (2, .int (nI jb)), (3, .int (nI t1))]) rfl ?_
  have inner : ∀ (k s : Nat) (Ls P0 : List ze_Row), k < 2 → s < 8 → Ls.length ≤ 60 → Ar 2 s = nI Ls.length → ze_Hl (Ar 3) (Ar 4) (60 * s) Ls → (∀ b', ze_best Ar (ze_gtD D1) (P0 ++ Ls) b' → ze_V G 48 ad (ze_E (ze_i G) ad x (M, mv, ty, ma, co, le, Ar)) 0 0 6 [(5, .int (nI (k + 1))), (4, .int b'), (0, .ref (ad 39)), (1, .int (nI ja)), (2, .int (nI jb)), (3, .int (nI t1))] []) → ∀ (r p : Nat) (best : Int32), Ls.length - p = r → p ≤ Ls.length → ze_best Ar (ze_gtD D1) (P0 ++ Ls.take p) best → ze_V G 48 ad (ze_E (ze_i G) ad x (M, mv, ty, ma, co, le, Ar)) 0 0 31 [(7, .int (nI (60 * s + p))), (6, .int (nI s)), (5, .int (nI k)), (4, .int best), (0, .ref (ad 39)), (1, .int (nI ja)), (2, .int (nI jb)), (3, .int (nI t1))] [] := by
    intro k s Ls P0 hk2 hs8 hl hc hH kont r
    induction r using Nat.strongRecOn with
    | ind r ih =>
      intro p best hr g1 g2
      refine ze_iload C d_M_next_31 0 rfl ?_
      refine ze_bipush (v := nI 60) C d_M_next_33 (by decide) ?_
      refine ze_iload C d_M_next_35 1 rfl ?_
      refine ze_imulN C d_M_next_37 ?_
      refine ze_aload_n C d_M_next_38 4 rfl rfl ?_
      refine ze_getf (k := 39) C fl_M_16 (by decide) ze_E_m rfl d_M_next_39 ?_
      refine ze_iload C d_M_next_42 1 rfl ?_
      refine ze_iald (k := 40 + 2) (i := s) C (by decide) (ze_E_a (j := 2)) (by show _ < 8; omega) (by decide) d_M_next_44 ?_
      rw [hc]
      refine ze_iaddN C d_M_next_45 ?_
      refine ze_icmp_geN 146 C d_M_next_46 (by decide) (by omega) (by omega) (fun h46 => ?_) (fun h46 => ?_)
      · rw [List.take_of_length_le (by omega)] at g2
        refine ze_iinc (j := 2) (v := nI (k + 1)) (lv' := [(5, .int (nI (k + 1))), (7, .int (nI (60 * s + p))), (6, .int (nI s)), (4, .int best), (0, .ref (ad 39)), (1, .int (nI ja)), (2, .int (nI jb)), (3, .int (nI t1))]) C d_M_next_146 rfl (nI_1 _) (by decide) rfl ?_
        refine ze_goto 6 C d_M_next_149 (by decide) ?_
        refine ze_sub [(5, .int (nI (k + 1))), (4, .int best), (0, .ref (ad 39)), (1, .int (nI ja)), (2, .int (nI jb)), (3, .int (nI t1))] [0, 3, 4, 5, 6, 7] rfl ?_
        exact kont best g2
      · have hrow := ze_Hl_take hH (j := p) (by omega)
        refine ze_iload_n C d_M_next_49 7 rfl rfl ?_
        refine ze_if_ltN 85 C d_M_next_50 (by decide) (by omega) (fun h50 => absurd h50 (by omega)) (fun h50 => ?_)
        refine ze_aload_n C d_M_next_53 4 rfl rfl ?_
        refine ze_getf (k := 39) C fl_M_19 (by decide) ze_E_m rfl d_M_next_54 ?_
        refine ze_iload_n C d_M_next_57 7 rfl rfl ?_
        refine ze_iald (k := 40 + 3) (i := t1) C (by decide) (ze_E_a (j := 3)) (by show _ < 480; omega) (by decide) d_M_next_58 ?_
        refine ze_aload_n C d_M_next_59 4 rfl rfl ?_
        refine ze_getf (k := 39) C fl_M_22 (by decide) ze_E_m rfl d_M_next_60 ?_
        refine ze_iload_n C d_M_next_63 7 rfl rfl ?_
        refine ze_iald (k := 40 + 4) (i := t1) C (by decide) (ze_E_a (j := 4)) (by show _ < 480; omega) (by decide) d_M_next_64 ?_
        refine ze_aload_n C d_M_next_65 4 rfl rfl ?_
        refine ze_getf (k := 39) C fl_M_19 (by decide) ze_E_m rfl d_M_next_66 ?_
        refine ze_iload C d_M_next_69 0 rfl ?_
        refine ze_iald (k := 40 + 3) (i := 60 * s + p) C (by decide) (ze_E_a (j := 3)) (by show _ < 480; omega) (by decide) d_M_next_71 ?_
        refine ze_aload_n C d_M_next_72 4 rfl rfl ?_
        refine ze_getf (k := 39) C fl_M_22 (by decide) ze_E_m rfl d_M_next_73 ?_
        refine ze_iload C d_M_next_76 0 rfl ?_
        refine ze_iald (k := 40 + 4) (i := 60 * s + p) C (by decide) (ze_E_a (j := 4)) (by show _ < 480; omega) (by decide) d_M_next_78 ?_
        refine ze_callS (st := []) C (c_M_compare (ze_l G) (ze_D G) (ze_i G) _ _ _ (Ar 3 t1) (Ar 4 t1) (Ar 3 (60 * s + p)) (Ar 4 (60 * s + p))) (ks_M_61 (ze_rml (by decide) (by decide))) rfl (Nat.le_of_ble_eq_true rfl) ⟨Nat.le_of_ble_eq_true rfl, Nat.le_of_ble_eq_true rfl⟩ d_M_next_79 ?_
        rintro _ _ _ _ ⟨rfl, rfl, rfl, rfl⟩
        refine ze_norm (c2 := 0) (s2 := 0) (st' := [.int (ze_cp (Ar 3 t1) (Ar 4 t1) (Ar 3 (60 * s + p)) (Ar 4 (60 * s + p)))]) rfl rfl rfl ?_
        refine ze_if_ge 89 C d_M_next_82 (by decide) (fun h82 => ?_) (fun h82 => ?_)
        · have hngt : ¬ ze_gtD D1 (ze_rw Ar (60 * s + p)) := fun z => absurd (ze_cp_lt.mpr (z _ hat)) (Int32.not_lt.mpr h82)
          refine ze_iconst (v := ze_bi false) C d_M_next_89 (by decide) ?_
          refine ze_istore (lv' := [(8, .int (ze_bi false)), (7, .int (nI (60 * s + p))), (6, .int (nI s)), (5, .int (nI k)), (4, .int best), (0, .ref (ad 39)), (1, .int (nI ja)), (2, .int (nI jb)), (3, .int (nI t1))]) C d_M_next_90 (by decide) rfl ?_
          refine ze_iload C d_M_next_92 0 rfl ?_
          refine ze_if_eq 140 C d_M_next_94 (by decide) (fun h94 => ?_) (fun h94 => ?_)
          · refine ze_iinc (j := 1) (v := nI (60 * s + p + 1)) (lv' := [(7, .int (nI (60 * s + p + 1))), (8, .int (ze_bi false)), (6, .int (nI s)), (5, .int (nI k)), (4, .int best), (0, .ref (ad 39)), (1, .int (nI ja)), (2, .int (nI jb)), (3, .int (nI t1))]) C d_M_next_140 rfl (nI_1 _) (by decide) rfl ?_
            refine ze_goto 31 C d_M_next_143 (by decide) ?_
            refine ze_sub [(7, .int (nI (60 * s + (p + 1)))), (6, .int (nI s)), (5, .int (nI k)), (4, .int best), (0, .ref (ad 39)), (1, .int (nI ja)), (2, .int (nI jb)), (3, .int (nI t1))] [0, 2, 3, 4, 5, 6, 7, 8] rfl ?_
            exact ih (Ls.length - (p + 1)) (by omega) (p + 1) _ rfl (by omega) (by rw [hrow, ← List.append_assoc]; exact ze_best_skip g2 hngt)
          · exact absurd rfl h94
        · have hgt : ze_gtD D1 (ze_rw Ar (60 * s + p)) := fun z hz => by rw [hat] at hz; cases hz; exact ze_cp_lt.mp (Int32.not_le.mp h82)
          refine ze_iconst (v := ze_bi true) C d_M_next_85 (by decide) ?_
          refine ze_goto 90 C d_M_next_86 (by decide) ?_
          refine ze_istore (lv' := [(8, .int (ze_bi true)), (7, .int (nI (60 * s + p))), (6, .int (nI s)), (5, .int (nI k)), (4, .int best), (0, .ref (ad 39)), (1, .int (nI ja)), (2, .int (nI jb)), (3, .int (nI t1))]) C d_M_next_90 (by decide) rfl ?_
          refine ze_iload C d_M_next_92 0 rfl ?_
          refine ze_if_eq 140 C d_M_next_94 (by decide) (fun h94 => ?_) (fun h94 => ?_)
          · exact absurd h94 (by decide)
          · rcases g2 with ⟨rfl, hb1⟩ | ⟨t2, ht2, rfl, hb3, hb4, hb5⟩
            · refine ze_iload C d_M_next_97 4 rfl ?_
              refine ze_if_lt 136 C d_M_next_99 (by decide) (fun h99 => ?_) (fun h99 => absurd h99 (by decide))
              refine ze_iload C d_M_next_136 1 rfl ?_
              refine ze_istore (lv' := [(4, .int (nI (60 * s + p))), (8, .int (ze_bi true)), (7, .int (nI (60 * s + p))), (6, .int (nI s)), (5, .int (nI k)), (0, .ref (ad 39)), (1, .int (nI ja)), (2, .int (nI jb)), (3, .int (nI t1))]) C d_M_next_138 (by decide) rfl ?_
              refine ze_iinc (j := 2) (v := nI (60 * s + p + 1)) (lv' := [(7, .int (nI (60 * s + p + 1))), (4, .int (nI (60 * s + p))), (8, .int (ze_bi true)), (6, .int (nI s)), (5, .int (nI k)), (0, .ref (ad 39)), (1, .int (nI ja)), (2, .int (nI jb)), (3, .int (nI t1))]) C d_M_next_140 rfl (nI_1 _) (by decide) rfl ?_
              refine ze_goto 31 C d_M_next_143 (by decide) ?_
              refine ze_sub [(7, .int (nI (60 * s + (p + 1)))), (6, .int (nI s)), (5, .int (nI k)), (4, .int (nI (60 * s + p))), (0, .ref (ad 39)), (1, .int (nI ja)), (2, .int (nI jb)), (3, .int (nI t1))] [0, 3, 4, 1, 5, 6, 7, 8] rfl ?_
              exact ih (Ls.length - (p + 1)) (by omega) (p + 1) _ rfl (by omega) (by rw [hrow, ← List.append_assoc]; exact ze_best_first hb1 (by omega) hgt)
            · refine ze_iload C d_M_next_97 4 rfl ?_
              refine ze_if_ltN 136 C d_M_next_99 (by decide) (by omega) (fun h99 => absurd h99 (by omega)) (fun h99 => ?_)
              refine ze_aload_n C d_M_next_102 5 rfl rfl ?_
              refine ze_getf (k := 39) C fl_M_19 (by decide) ze_E_m rfl d_M_next_103 ?_
              refine ze_iload C d_M_next_106 1 rfl ?_
              refine ze_iald (k := 40 + 3) (i := 60 * s + p) C (by decide) (ze_E_a (j := 3)) (by show _ < 480; omega) (by decide) d_M_next_108 ?_
              refine ze_aload_n C d_M_next_109 5 rfl rfl ?_
              refine ze_getf (k := 39) C fl_M_22 (by decide) ze_E_m rfl d_M_next_110 ?_
              refine ze_iload C d_M_next_113 1 rfl ?_
              refine ze_iald (k := 40 + 4) (i := 60 * s + p) C (by decide) (ze_E_a (j := 4)) (by show _ < 480; omega) (by decide) d_M_next_115 ?_
              refine ze_aload_n C d_M_next_116 5 rfl rfl ?_
              refine ze_getf (k := 39) C fl_M_19 (by decide) ze_E_m rfl d_M_next_117 ?_
              refine ze_iload C d_M_next_120 4 rfl ?_
              refine ze_iald (k := 40 + 3) (i := t2) C (by decide) (ze_E_a (j := 3)) (by show _ < 480; omega) (by decide) d_M_next_122 ?_
              refine ze_aload_n C d_M_next_123 5 rfl rfl ?_
              refine ze_getf (k := 39) C fl_M_22 (by decide) ze_E_m rfl d_M_next_124 ?_
              refine ze_iload C d_M_next_127 4 rfl ?_
              refine ze_iald (k := 40 + 4) (i := t2) C (by decide) (ze_E_a (j := 4)) (by show _ < 480; omega) (by decide) d_M_next_129 ?_
              refine ze_callS (st := []) C (c_M_compare (ze_l G) (ze_D G) (ze_i G) _ _ _ (Ar 3 (60 * s + p)) (Ar 4 (60 * s + p)) (Ar 3 t2) (Ar 4 t2)) (ks_M_61 (ze_rml (by decide) (by decide))) rfl (Nat.le_of_ble_eq_true rfl) ⟨Nat.le_of_ble_eq_true rfl, Nat.le_of_ble_eq_true rfl⟩ d_M_next_130 ?_
              rintro _ _ _ _ ⟨rfl, rfl, rfl, rfl⟩
              refine ze_norm (c2 := 0) (s2 := 0) (st' := [.int (ze_cp (Ar 3 (60 * s + p)) (Ar 4 (60 * s + p)) (Ar 3 t2) (Ar 4 t2))]) rfl rfl rfl ?_
              refine ze_if_ge 140 C d_M_next_133 (by decide) (fun h133 => ?_) (fun h133 => ?_)
              · refine ze_iinc (j := 1) (v := nI (60 * s + p + 1)) (lv' := [(7, .int (nI (60 * s + p + 1))), (8, .int (ze_bi true)), (6, .int (nI s)), (5, .int (nI k)), (4, .int (nI t2)), (0, .ref (ad 39)), (1, .int (nI ja)), (2, .int (nI jb)), (3, .int (nI t1))]) C d_M_next_140 rfl (nI_1 _) (by decide) rfl ?_
                refine ze_goto 31 C d_M_next_143 (by decide) ?_
                refine ze_sub [(7, .int (nI (60 * s + (p + 1)))), (6, .int (nI s)), (5, .int (nI k)), (4, .int (nI t2)), (0, .ref (ad 39)), (1, .int (nI ja)), (2, .int (nI jb)), (3, .int (nI t1))] [0, 2, 3, 4, 5, 6, 7, 8] rfl ?_
                exact ih (Ls.length - (p + 1)) (by omega) (p + 1) _ rfl (by omega) (by rw [hrow, ← List.append_assoc]; exact ze_best_keep ht2 hb3 hb4 hb5 (Bool.eq_false_iff.mpr (fun z => absurd (ze_cp_lt.mpr z) (Int32.not_lt.mpr h133))))
              · refine ze_iload C d_M_next_136 1 rfl ?_
                refine ze_istore (lv' := [(4, .int (nI (60 * s + p))), (8, .int (ze_bi true)), (7, .int (nI (60 * s + p))), (6, .int (nI s)), (5, .int (nI k)), (0, .ref (ad 39)), (1, .int (nI ja)), (2, .int (nI jb)), (3, .int (nI t1))]) C d_M_next_138 (by decide) rfl ?_
                refine ze_iinc (j := 2) (v := nI (60 * s + p + 1)) (lv' := [(7, .int (nI (60 * s + p + 1))), (4, .int (nI (60 * s + p))), (8, .int (ze_bi true)), (6, .int (nI s)), (5, .int (nI k)), (0, .ref (ad 39)), (1, .int (nI ja)), (2, .int (nI jb)), (3, .int (nI t1))]) C d_M_next_140 rfl (nI_1 _) (by decide) rfl ?_
                refine ze_goto 31 C d_M_next_143 (by decide) ?_
                refine ze_sub [(7, .int (nI (60 * s + (p + 1)))), (6, .int (nI s)), (5, .int (nI k)), (4, .int (nI (60 * s + p))), (0, .ref (ad 39)), (1, .int (nI ja)), (2, .int (nI jb)), (3, .int (nI t1))] [0, 3, 4, 1, 5, 6, 7, 8] rfl ?_
                exact ih (Ls.length - (p + 1)) (by omega) (p + 1) _ rfl (by omega) (by rw [hrow, ← List.append_assoc]; exact ze_best_less hb5 (by omega) hgt (ze_cp_lt.mp (Int32.not_le.mp h133)))
  refine ze_iconst (v := -1) C d_M_next_0 (by decide) ?_
  refine ze_istore (lv' := [(4, .int (-1)), (0, .ref (ad 39)), (1, .int (nI ja)), (2, .int (nI jb)), (3, .int (nI t1))]) C d_M_next_1 (by decide) rfl ?_
  refine ze_iconst (v := nI 0) C d_M_next_3 (by decide) ?_
  refine ze_istore (lv' := [(5, .int (nI 0)), (4, .int (-1)), (0, .ref (ad 39)), (1, .int (nI ja)), (2, .int (nI jb)), (3, .int (nI t1))]) C d_M_next_4 (by decide) rfl ?_
  refine ze_iload C d_M_next_6 0 rfl ?_
  refine ze_iconst (v := nI 2) C d_M_next_8 (by decide) ?_
  refine ze_icmp_geN 152 C d_M_next_9 (by decide) (by omega) (by omega) (fun h9 => absurd h9 (by decide)) (fun h9 => ?_)
  refine ze_iload C d_M_next_12 0 rfl ?_
  refine ze_if_neN 21 C d_M_next_14 (by decide) (by omega) (fun h14 => absurd h14 (by decide)) (fun h14 => ?_)
  refine ze_iload_n C d_M_next_17 3 rfl rfl ?_
  refine ze_goto 22 C d_M_next_18 (by decide) ?_
  refine ze_istore (lv' := [(6, .int (nI ja)), (5, .int (nI 0)), (4, .int (-1)), (0, .ref (ad 39)), (1, .int (nI ja)), (2, .int (nI jb)), (3, .int (nI t1))]) C d_M_next_22 (by decide) rfl ?_
  refine ze_bipush (v := nI 60) C d_M_next_24 (by decide) ?_
  refine ze_iload C d_M_next_26 0 rfl ?_
  refine ze_imulN C d_M_next_28 ?_
  refine ze_istore (lv' := [(7, .int (nI (60 * ja))), (6, .int (nI ja)), (5, .int (nI 0)), (4, .int (-1)), (0, .ref (ad 39)), (1, .int (nI ja)), (2, .int (nI jb)), (3, .int (nI t1))]) C d_M_next_29 (by decide) rfl ?_
  refine ze_sub [(7, .int (nI (60 * ja + 0))), (6, .int (nI ja)), (5, .int (nI 0)), (4, .int (-1)), (0, .ref (ad 39)), (1, .int (nI ja)), (2, .int (nI jb)), (3, .int (nI t1))] [0, 1, 2, 3, 4, 5, 6, 7] rfl ?_
  refine inner 0 ja A [] (by decide) hja hA60 hcA hHA (fun b' hb' => ?_) _ 0 _ rfl (Nat.zero_le _) (by rw [List.take_zero, List.append_nil]; exact Or.inl ⟨rfl, fun q hq => absurd hq List.not_mem_nil⟩)
  have hb1 := hb'
  refine ze_lv (lv' := [(5, .int (nI 1)), (4, .int b'), (0, .ref (ad 39)), (1, .int (nI ja)), (2, .int (nI jb)), (3, .int (nI t1))]) rfl ?_
  refine ze_iload C d_M_next_6 0 rfl ?_
  refine ze_iconst (v := nI 2) C d_M_next_8 (by decide) ?_
  refine ze_icmp_geN 152 C d_M_next_9 (by decide) (by omega) (by omega) (fun h9 => absurd h9 (by decide)) (fun h9 => ?_)
  refine ze_iload C d_M_next_12 0 rfl ?_
  refine ze_if_neN 21 C d_M_next_14 (by decide) (by omega) (fun h14 => ?_) (fun h14 => absurd h14 (by decide))
  refine ze_iload_n C d_M_next_21 4 rfl rfl ?_
  refine ze_istore (lv' := [(6, .int (nI jb)), (5, .int (nI 1)), (4, .int b'), (0, .ref (ad 39)), (1, .int (nI ja)), (2, .int (nI jb)), (3, .int (nI t1))]) C d_M_next_22 (by decide) rfl ?_
  refine ze_bipush (v := nI 60) C d_M_next_24 (by decide) ?_
  refine ze_iload C d_M_next_26 0 rfl ?_
  refine ze_imulN C d_M_next_28 ?_
  refine ze_istore (lv' := [(7, .int (nI (60 * jb))), (6, .int (nI jb)), (5, .int (nI 1)), (4, .int b'), (0, .ref (ad 39)), (1, .int (nI ja)), (2, .int (nI jb)), (3, .int (nI t1))]) C d_M_next_29 (by decide) rfl ?_
  refine ze_sub [(7, .int (nI (60 * jb + 0))), (6, .int (nI jb)), (5, .int (nI 1)), (4, .int b'), (0, .ref (ad 39)), (1, .int (nI ja)), (2, .int (nI jb)), (3, .int (nI t1))] [0, 1, 2, 3, 4, 5, 6, 7] rfl ?_
  refine inner 1 jb B A (by decide) hjb hB60 hcB hHB (fun b' hb' => ?_) _ 0 _ rfl (Nat.zero_le _) (by rw [List.take_zero, List.append_nil]; exact hb1)
  have hb2 := hb'
  refine ze_lv (lv' := [(5, .int (nI 2)), (4, .int b'), (0, .ref (ad 39)), (1, .int (nI ja)), (2, .int (nI jb)), (3, .int (nI t1))]) rfl ?_
  refine ze_iload C d_M_next_6 0 rfl ?_
  refine ze_iconst (v := nI 2) C d_M_next_8 (by decide) ?_
  refine ze_icmp_geN 152 C d_M_next_9 (by decide) (by omega) (by omega) (fun h9 => ?_) (fun h9 => absurd h9 (by decide))
  refine ze_iload C d_M_next_152 1 rfl ?_
  exact ze_iret C Rt d_M_next_154 (⟨rfl, rfl, _, rfl, _, rfl, rfl, ze_nx_of hD hb2⟩)
