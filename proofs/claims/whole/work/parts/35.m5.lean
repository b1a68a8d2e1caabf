theorem ze_dd_len (S : List ze_Row) : (ze_dd S).length ≤ S.length := by
  refine ze_snoc_ind (P := fun S => (ze_dd S).length ≤ S.length) (Nat.le_refl _) ?_ S
  intro S r ih
  rw [ze_dd_snoc]
  split
  · simp; omega
  · simp; omega
theorem ze_un_len (A B : List ze_Row) : (ze_un A B).length ≤ A.length + B.length := by
  have := ze_dd_len (ze_srt 2 (A ++ B))
  rw [ze_srt_len, List.length_append] at this
  exact this
theorem ze_fm_len (F : ze_Row → List ze_Row) (n : Nat) (hF : ∀ r, (F r).length ≤ n) : ∀ D : List ze_Row, (D.flatMap F).length ≤ n * D.length
  | [] => Nat.zero_le _
  | d :: D => by
    rw [List.flatMap_cons, List.length_append, List.length_cons, Nat.mul_succ]
    have := ze_fm_len F n hF D
    have := hF d
    omega
def ze_F (kd : Nat) (A B : List ze_Row) (r : ze_Row) : List ze_Row := List.replicate (ze_tm kd (A.count r) (B.count r)) r
theorem ze_F_len (kd : Nat) (A B : List ze_Row) (hA : A.length ≤ 60) (hB : B.length ≤ 60) (r : ze_Row) : (ze_F kd A B r).length ≤ 120 := by
  unfold ze_F
  rw [List.length_replicate]
  have h1 := List.count_le_length (a := r) (l := A)
  have h2 := List.count_le_length (a := r) (l := B)
  exact Nat.le_trans ze_tm_le (by omega)
theorem ze_cmb_F (kd : Nat) (A B : List ze_Row) : ze_cmb kd A B = (ze_un A B).flatMap (ze_F kd A B) := rfl
theorem ze_fm_snoc (F : ze_Row → List ze_Row) (D : List ze_Row) (r : ze_Row) : (D ++ [r]).flatMap F = D.flatMap F ++ F r := by
  rw [List.flatMap_append]
  simp

set_option maxRecDepth 100000 in
set_option maxHeartbeats 4000000 in
theorem c_M_distinct (l : Launch) (D : va_G) (ids : Nat → ClassId) (ad : Nat → Nat) (x : ze_XS) (M : Nat) (mv : Int64) (ma co le : Nat) (Ar : Nat → Nat → Int32) (inp : List ze_Row) (sl : Nat → Option (List ze_Row)) (hR : ze_rA Ar inp sl) (hM : 3 ≤ M ∧ M ≤ 6) (fr into : Int32) : ze_MM l D ids ad x y_M_distinct ws_M_distinct 20 (M, mv, inp.length, ma, co, le, Ar) [.ref (ad 39), .int fr, .int into] (fun v ms' => v = some (.int (sp_distinct (inp, sl, mv, M) fr into).1) ∧ ze_rM ms' (sp_distinct (inp, sl, mv, M) fr into).2) := by
  refine ze_enter (cc := b_M_distinct) (maxL := 5) (ret := (some .int)) (by decide +kernel) rfl (Nat.le_of_ble_eq_true rfl) ?_
  rintro G rfl rfl rfl - C Rt
  refine ze_lv (lv' := [(0, .ref (ad 39)), (1, .int fr), (2, .int into)]) rfl ?_
  have hin := hR.1
  refine ze_aload_n C d_M_distinct_0 0 rfl rfl ?_
  refine ze_iconst (v := ze_bi true) C d_M_distinct_1 (by decide) ?_
  refine ze_iload_n C d_M_distinct_2 1 rfl rfl ?_
  refine ze_iload_n C d_M_distinct_3 1 rfl rfl ?_
  refine ze_iload_n C d_M_distinct_4 2 rfl rfl ?_
  refine ze_callV (st := []) C (c_M_refuse (ze_l G) (ze_D G) (ze_i G) ad x M mv inp.length ma co le Ar inp sl hR hM true fr fr into) (kv_M_65 (ze_rml (by decide) (by decide))) (by decide) ze_E_m rfl (Nat.le_of_ble_eq_true rfl) ⟨Nat.le_of_ble_eq_true rfl, Nat.le_of_ble_eq_true rfl⟩ d_M_distinct_5 ?_
  rintro _ _ _ _ ⟨rfl, rfl, _, rfl, rfl, ma1, co1, rfl, hz0⟩
  refine ze_norm (c2 := 0) (s2 := 0) (st' := [.int (ze_rfs sl true fr fr into)]) rfl rfl rfl ?_
  refine ze_istore_n (lv' := [(3, .int (ze_rfs sl true fr fr into)), (0, .ref (ad 39)), (1, .int fr), (2, .int into)]) C d_M_distinct_8 rfl (by decide) rfl ?_
  refine ze_iload_n C d_M_distinct_9 0 rfl rfl ?_
  refine ze_if_eq 15 C d_M_distinct_10 (by decide) (fun h10 => ?_) (fun h10 => ?_)
  · obtain ⟨rfl, rfl⟩ := hz0 h10
    obtain ⟨ja, jb, ji, A, B, hja, hjb, hji, ea, eb, rfl, hne, hneb, hA, hB, hI, hok, hop⟩ := ze_rfs_0 (σ := (inp, sl, mv, M)) h10
    have eab : ja = jb := (nI_eq (by omega) (by omega)).mp (ea.symm.trans eb)
    subst eab
    subst ea
    simp only at hA hB hI
    rw [hA] at hB
    cases hB
    obtain ⟨hA60, hcA, hHA⟩ := hR.2.2.2 ja hja A hA
    refine ze_sub [(0, .ref (ad 39)), (1, .int (nI ja)), (2, .int (nI ji))] [1, 2, 3] rfl ?_
    have hsp : sp_distinct (inp, sl, mv, M) (nI ja) (nI ji) = sp_fin (inp, sl, mv, M) ji (ze_un A A, ze_sc M A.length + ze_sz A.length + ze_sz (ze_un A A).length) := by rw [sp_distinct, hop]
    refine ze_aload_n C d_M_distinct_15 0 rfl rfl ?_
    refine ze_iload_n C d_M_distinct_16 1 rfl rfl ?_
    refine ze_iload_n C d_M_distinct_17 1 rfl rfl ?_
    refine ze_iconst (v := -1) C d_M_distinct_18 (by decide) ?_
    refine ze_callV (st := []) C (c_M_next_0 (ze_l G) (ze_D G) (ze_i G) ad x M mv inp.length 0 0 le Ar A A ja ja hja hja hA60 hA60 hcA hcA hHA hHA [] (ze_un A A) rfl rfl) (kv_M_84 (ze_rml (by decide) (by decide))) (by decide) ze_E_m rfl (Nat.le_of_ble_eq_true rfl) ⟨Nat.le_of_ble_eq_true rfl, Nat.le_of_ble_eq_true rfl⟩ d_M_distinct_19 ?_
    rintro _ _ _ _ ⟨rfl, rfl, _, rfl, v1, rfl, rfl, hnx⟩
    refine ze_norm (c2 := 0) (s2 := 0) (st' := [.int v1]) rfl rfl rfl ?_
    refine ze_istore (lv' := [(4, .int v1), (0, .ref (ad 39)), (1, .int (nI ja)), (2, .int (nI ji))]) C d_M_distinct_22 (by decide) rfl ?_
    have loop : ∀ (r : Nat) (D1 D2 : List ze_Row) (at_ : Int32) (m1 : Nat) (A1 : Nat → Nat → Int32), D2.length = r → ze_un A A = D1 ++ D2 → ze_nx A1 D2 at_ → (∀ z, z ≠ 5 → z ≠ 6 → A1 z = Ar z) → ze_Mk A1 m1 D1 → ze_V G 48 ad (ze_E (ze_i G) ad x (M, mv, inp.length, m1, 0, le, A1)) 0 0 24 [(4, .int at_), (0, .ref (ad 39)), (1, .int (nI ja)), (2, .int (nI ji))] [] := by
      intro r
      induction r using Nat.strongRecOn with
      | ind r ih =>
        intro D1 D2 at_ m1 A1 hr g1 g2 g3 g4
        have hc1 : A1 2 ja = nI A.length := by rw [g3 2 (by decide) (by decide)]; exact hcA
        have hul := ze_un_len A A
        rw [g1, List.length_append] at hul
        have hm1 := g4.1
        rcases g2 with ⟨rfl, rfl⟩ | ⟨t, D3, ht, rfl, rfl⟩
        · rw [List.append_nil] at g1
          rw [← g1] at g4 hm1
          have hm9 : m1 ≤ 120 := by have := ze_un_len A A; omega
          have hR1 := ze_rA_56 hR (fun z z1 z2 _ => g3 z z1 z2)
          refine ze_iload C d_M_distinct_24 0 rfl ?_
          refine ze_if_lt 60 C d_M_distinct_26 (by decide) (fun h26 => ?_) (fun h26 => absurd h26 (by decide))
          refine ze_aload_n C d_M_distinct_60 1 rfl rfl ?_
          refine ze_aload_n C d_M_distinct_61 1 rfl rfl ?_
          refine ze_aload_n C d_M_distinct_62 1 rfl rfl ?_
          refine ze_getf (k := 39) C fl_M_16 (by decide) ze_E_m rfl d_M_distinct_63 ?_
          refine ze_iload_n C d_M_distinct_66 2 rfl rfl ?_
          refine ze_iald (k := 40 + 2) (i := ja) C (by decide) (ze_E_a (j := 2)) (by show _ < 8; omega) (by decide) d_M_distinct_67 ?_
          rw [hc1]
          refine ze_callV (st := [.ref (ad 39)]) C (c_M_sortCost (ze_l G) (ze_D G) (ze_i G) ad x M mv inp.length m1 0 le A1 hM A.length hA60) (kv_M_73 (ze_rml (by decide) (by decide))) (by decide) ze_E_m rfl (Nat.le_of_ble_eq_true rfl) ⟨Nat.le_of_ble_eq_true rfl, Nat.le_of_ble_eq_true rfl⟩ d_M_distinct_68 ?_
          rintro _ _ _ _ ⟨rfl, rfl, _, rfl, rfl, rfl⟩
          refine ze_norm (c2 := 0) (s2 := 0) (st' := [.long (lN (ze_sc M A.length)), .ref (ad 39)]) rfl rfl rfl ?_
          refine ze_aload_n C d_M_distinct_71 1 rfl rfl ?_
          refine ze_getf (k := 39) C fl_M_16 (by decide) ze_E_m rfl d_M_distinct_72 ?_
          refine ze_iload_n C d_M_distinct_75 2 rfl rfl ?_
          refine ze_iald (k := 40 + 2) (i := ja) C (by decide) (ze_E_a (j := 2)) (by show _ < 8; omega) (by decide) d_M_distinct_76 ?_
          rw [hc1]
          refine ze_callS (st := [.long (lN (ze_sc M A.length)), .ref (ad 39)]) C (c_M_size (ze_l G) (ze_D G) (ze_i G) _ _ _ A.length (by omega)) (ks_M_38 (ze_rml (by decide) (by decide))) rfl (Nat.le_of_ble_eq_true rfl) ⟨Nat.le_of_ble_eq_true rfl, Nat.le_of_ble_eq_true rfl⟩ d_M_distinct_77 ?_
          rintro _ _ _ _ ⟨rfl, rfl, rfl, rfl⟩
          refine ze_norm (c2 := 0) (s2 := 0) (st' := [.int (nI (ze_sz A.length)), .long (lN (ze_sc M A.length)), .ref (ad 39)]) rfl rfl rfl ?_
          have hz77 := ze_sz_le A.length
          refine ze_i2lN C d_M_distinct_80 (by omega) ?_
          refine ze_laddN C d_M_distinct_81 ?_
          refine ze_aload_n C d_M_distinct_82 1 rfl rfl ?_
          refine ze_getf (k := 39) C fl_M_55 (by decide) ze_E_m rfl d_M_distinct_83 ?_
          refine ze_callS (st := [.long (lN (ze_sc M A.length + (ze_sz A.length))), .ref (ad 39)]) C (c_M_size (ze_l G) (ze_D G) (ze_i G) _ _ _ m1 (by omega)) (ks_M_38 (ze_rml (by decide) (by decide))) rfl (Nat.le_of_ble_eq_true rfl) ⟨Nat.le_of_ble_eq_true rfl, Nat.le_of_ble_eq_true rfl⟩ d_M_distinct_86 ?_
          rintro _ _ _ _ ⟨rfl, rfl, rfl, rfl⟩
          refine ze_norm (c2 := 0) (s2 := 0) (st' := [.int (nI (ze_sz m1)), .long (lN (ze_sc M A.length + (ze_sz A.length))), .ref (ad 39)]) rfl rfl rfl ?_
          have hz86 := ze_sz_le m1
          refine ze_i2lN C d_M_distinct_89 (by omega) ?_
          refine ze_laddN C d_M_distinct_90 ?_
          refine ze_putf (k := 39) C fp_M_58 (by decide) ze_E_m rfl rfl (Nat.le_of_ble_eq_true rfl) d_M_distinct_91 ?_
          refine ze_eqE (ze_up_m (ms' := (M, mv, inp.length, m1, ze_sc M A.length + (ze_sz A.length) + (ze_sz m1), le, A1)) rfl rfl) ?_
          refine ze_aload_n C d_M_distinct_94 1 rfl rfl ?_
          refine ze_iload_n C d_M_distinct_95 3 rfl rfl ?_
          refine ze_callV (st := []) C (c_M_finish (ze_l G) (ze_D G) (ze_i G) ad x M mv inp.length m1 (ze_sc M A.length + (ze_sz A.length) + (ze_sz m1)) le A1 inp sl hR1 hM ji hji rfl (ze_un A A, ze_sc M A.length + ze_sz A.length + ze_sz (ze_un A A).length) g4 (fun _ => by rw [hm1]) (by omega)) (kv_M_77 (ze_rml (by decide) (by decide))) (by decide) ze_E_m rfl (Nat.le_of_ble_eq_true rfl) ⟨Nat.le_of_ble_eq_true rfl, Nat.le_of_ble_eq_true rfl⟩ d_M_distinct_96 ?_
          rintro _ _ _ _ ⟨rfl, rfl, ms', rfl, rfl, hr⟩
          refine ze_norm (c2 := 0) (s2 := 0) (st' := [.int (sp_fin (inp, sl, mv, M) ji (ze_un A A, ze_sc M A.length + ze_sz A.length + ze_sz (ze_un A A).length)).1]) rfl rfl rfl ?_
          exact ze_iret C Rt d_M_distinct_99 ⟨rfl, rfl, _, rfl, by rw [hsp], by rw [hsp]; exact hr⟩
        · refine ze_iload C d_M_distinct_24 0 rfl ?_
          refine ze_if_ltN 60 C d_M_distinct_26 (by decide) (by omega) (fun h26 => absurd h26 (by omega)) (fun h26 => ?_)
          refine ze_aload_n C d_M_distinct_29 1 rfl rfl ?_
          refine ze_aload_n C d_M_distinct_30 1 rfl rfl ?_
          refine ze_getf (k := 39) C fl_M_19 (by decide) ze_E_m rfl d_M_distinct_31 ?_
          refine ze_iload C d_M_distinct_34 0 rfl ?_
          refine ze_iald (k := 40 + 3) (i := t) C (by decide) (ze_E_a (j := 3)) (by show _ < 480; omega) (by decide) d_M_distinct_36 ?_
          refine ze_aload_n C d_M_distinct_37 1 rfl rfl ?_
          refine ze_getf (k := 39) C fl_M_22 (by decide) ze_E_m rfl d_M_distinct_38 ?_
          refine ze_iload C d_M_distinct_41 0 rfl ?_
          refine ze_iald (k := 40 + 4) (i := t) C (by decide) (ze_E_a (j := 4)) (by show _ < 480; omega) (by decide) d_M_distinct_43 ?_
          refine ze_callV (st := []) C (c_M_make (ze_l G) (ze_D G) (ze_i G) ad x M mv inp.length m1 0 le A1 D1 g4 (by simp at hul; omega) (A1 3 t) (A1 4 t)) (kv_M_80 (ze_rml (by decide) (by decide))) (by decide) ze_E_m rfl (Nat.le_of_ble_eq_true rfl) ⟨Nat.le_of_ble_eq_true rfl, Nat.le_of_ble_eq_true rfl⟩ d_M_distinct_44 ?_
          rintro _ _ _ _ ⟨rfl, rfl, _, rfl, rfl, A2, rfl, hk2, oA2⟩
          refine ze_norm (c2 := 0) (s2 := 0) (st' := []) rfl rfl rfl ?_
          have o2 : ∀ z, z ≠ 5 → z ≠ 6 → A2 z = Ar z := fun z z1 z2 => (oA2 z z1 z2).trans (g3 z z1 z2)
          have h3 := o2 3 (by decide) (by decide)
          have h4 := o2 4 (by decide) (by decide)
          refine ze_aload_n C d_M_distinct_47 1 rfl rfl ?_
          refine ze_iload_n C d_M_distinct_48 2 rfl rfl ?_
          refine ze_iload_n C d_M_distinct_49 2 rfl rfl ?_
          refine ze_iload C d_M_distinct_50 0 rfl ?_
          refine ze_callV (st := []) C (c_M_next_1 (ze_l G) (ze_D G) (ze_i G) ad x M mv inp.length (m1 + 1) 0 le A2 A A ja ja hja hja hA60 hA60 (by rw [o2 2 (by decide) (by decide)]; exact hcA) (by rw [o2 2 (by decide) (by decide)]; exact hcA) (by rw [h3, h4]; exact hHA) (by rw [h3, h4]; exact hHA) (D1 ++ [ze_rw A1 t]) D3 (by rw [g1, List.append_assoc]; rfl) t ht (by rw [List.getLast?_append]; simp [ze_rw, oA2 3, oA2 4])) (kv_M_84 (ze_rml (by decide) (by decide))) (by decide) ze_E_m rfl (Nat.le_of_ble_eq_true rfl) ⟨Nat.le_of_ble_eq_true rfl, Nat.le_of_ble_eq_true rfl⟩ d_M_distinct_52 ?_
          rintro _ _ _ _ ⟨rfl, rfl, _, rfl, v1, rfl, rfl, hnx⟩
          refine ze_norm (c2 := 0) (s2 := 0) (st' := [.int v1]) rfl rfl rfl ?_
          refine ze_istore (lv' := [(4, .int v1), (0, .ref (ad 39)), (1, .int (nI ja)), (2, .int (nI ji))]) C d_M_distinct_55 (by decide) rfl ?_
          refine ze_goto 24 C d_M_distinct_57 (by decide) ?_
          exact ih D3.length (by simp at hr; omega) (D1 ++ [ze_rw A1 t]) D3 v1 (m1 + 1) A2 rfl (by rw [g1, List.append_assoc]; rfl) hnx o2 hk2
    exact loop _ [] (ze_un A A) v1 0 Ar rfl rfl hnx (fun _ _ _ => rfl) ze_Mk_0
  · refine ze_iload_n C d_M_distinct_13 0 rfl rfl ?_
    exact ze_iret C Rt d_M_distinct_14 (⟨rfl, rfl, _, rfl, by rw [sp_distinct, ze_rfs_ne (σ := (inp, sl, mv, M)) h10], by rw [sp_distinct, ze_rfs_ne (σ := (inp, sl, mv, M)) h10]; exact ⟨ma1, co1, le, Ar, rfl, hR, hM.1, hM.2⟩⟩)

set_option maxRecDepth 100000 in
set_option maxHeartbeats 4000000 in
theorem c_M_combine (l : Launch) (D : va_G) (ids : Nat → ClassId) (ad : Nat → Nat) (x : ze_XS) (M : Nat) (mv : Int64) (ma co le : Nat) (Ar : Nat → Nat → Int32) (inp : List ze_Row) (sl : Nat → Option (List ze_Row)) (hR : ze_rA Ar inp sl) (hM : 3 ≤ M ∧ M ≤ 6) (kind a b into : Int32) : ze_MM l D ids ad x y_M_combine ws_M_combine 20 (M, mv, inp.length, ma, co, le, Ar) [.ref (ad 39), .int kind, .int a, .int b, .int into] (fun v ms' => v = some (.int (sp_combine (inp, sl, mv, M) kind a b into).1) ∧ ze_rM ms' (sp_combine (inp, sl, mv, M) kind a b into).2) := by
  refine ze_enter (cc := b_M_combine) (maxL := 11) (ret := (some .int)) (by decide +kernel) rfl (Nat.le_of_ble_eq_true rfl) ?_
  rintro G rfl rfl rfl - C Rt
  refine ze_lv (lv' := [(0, .ref (ad 39)), (1, .int kind), (2, .int a), (3, .int b), (4, .int into)]) rfl ?_
  have hin := hR.1
  refine ze_aload_n C d_M_combine_0 0 rfl rfl ?_
  refine ze_iload_n C d_M_combine_1 1 rfl rfl ?_
  refine ze_if_lt 14 C d_M_combine_2 (by decide) (fun h2 => ?_) (fun h2 => ?_)
  · have hsp0 := ze_kind_bad (σ := (inp, sl, mv, M)) (a := a) (b := b) (into := into) (Or.inl h2)
    refine ze_iconst (v := ze_bi false) C d_M_combine_14 (by decide) ?_
    refine ze_iload_n C d_M_combine_15 2 rfl rfl ?_
    refine ze_iload_n C d_M_combine_16 3 rfl rfl ?_
    refine ze_iload C d_M_combine_17 4 rfl ?_
    refine ze_callV (st := []) C (c_M_refuse (ze_l G) (ze_D G) (ze_i G) ad x M mv inp.length ma co le Ar inp sl hR hM false a b into) (kv_M_65 (ze_rml (by decide) (by decide))) (by decide) ze_E_m rfl (Nat.le_of_ble_eq_true rfl) ⟨Nat.le_of_ble_eq_true rfl, Nat.le_of_ble_eq_true rfl⟩ d_M_combine_19 ?_
    rintro _ _ _ _ ⟨rfl, rfl, _, rfl, rfl, ma1, co1, rfl, hz0⟩
    refine ze_norm (c2 := 0) (s2 := 0) (st' := [.int (ze_rfs sl false a b into)]) rfl rfl rfl ?_
    refine ze_istore (lv' := [(5, .int (ze_rfs sl false a b into)), (0, .ref (ad 39)), (1, .int kind), (2, .int a), (3, .int b), (4, .int into)]) C d_M_combine_22 (by decide) rfl ?_
    refine ze_iload C d_M_combine_24 0 rfl ?_
    refine ze_if_eq 32 C d_M_combine_26 (by decide) (fun h26 => ?_) (fun h26 => ?_)
    · obtain ⟨_, _, _, _, _, _, _, _, _, _, _, _, _, _, _, _, hok, _⟩ := ze_rfs_0 (σ := (inp, sl, mv, M)) h26
      cases hok
    · refine ze_iload C d_M_combine_29 0 rfl ?_
      exact ze_iret C Rt d_M_combine_31 (⟨rfl, rfl, _, rfl, by rw [hsp0, ze_rfs_ne (σ := (inp, sl, mv, M)) h26], by rw [hsp0, ze_rfs_ne (σ := (inp, sl, mv, M)) h26]; exact ⟨ma1, co1, le, Ar, rfl, hR, hM.1, hM.2⟩⟩)
  · refine ze_iload_n C d_M_combine_5 1 rfl rfl ?_
    refine ze_iconst (v := nI 3) C d_M_combine_6 (by decide) ?_
    refine ze_icmp_gt 14 C d_M_combine_7 (by decide) (fun h7 => ?_) (fun h7 => ?_)
    · have hsp0 := ze_kind_bad (σ := (inp, sl, mv, M)) (a := a) (b := b) (into := into) (Or.inr h7)
      refine ze_iconst (v := ze_bi false) C d_M_combine_14 (by decide) ?_
      refine ze_iload_n C d_M_combine_15 2 rfl rfl ?_
      refine ze_iload_n C d_M_combine_16 3 rfl rfl ?_
      refine ze_iload C d_M_combine_17 4 rfl ?_
      refine ze_callV (st := []) C (c_M_refuse (ze_l G) (ze_D G) (ze_i G) ad x M mv inp.length ma co le Ar inp sl hR hM false a b into) (kv_M_65 (ze_rml (by decide) (by decide))) (by decide) ze_E_m rfl (Nat.le_of_ble_eq_true rfl) ⟨Nat.le_of_ble_eq_true rfl, Nat.le_of_ble_eq_true rfl⟩ d_M_combine_19 ?_
      rintro _ _ _ _ ⟨rfl, rfl, _, rfl, rfl, ma1, co1, rfl, hz0⟩
      refine ze_norm (c2 := 0) (s2 := 0) (st' := [.int (ze_rfs sl false a b into)]) rfl rfl rfl ?_
      refine ze_istore (lv' := [(5, .int (ze_rfs sl false a b into)), (0, .ref (ad 39)), (1, .int kind), (2, .int a), (3, .int b), (4, .int into)]) C d_M_combine_22 (by decide) rfl ?_
      refine ze_iload C d_M_combine_24 0 rfl ?_
      refine ze_if_eq 32 C d_M_combine_26 (by decide) (fun h26 => ?_) (fun h26 => ?_)
      · obtain ⟨_, _, _, _, _, _, _, _, _, _, _, _, _, _, _, _, hok, _⟩ := ze_rfs_0 (σ := (inp, sl, mv, M)) h26
        cases hok
      · refine ze_iload C d_M_combine_29 0 rfl ?_
        exact ze_iret C Rt d_M_combine_31 (⟨rfl, rfl, _, rfl, by rw [hsp0, ze_rfs_ne (σ := (inp, sl, mv, M)) h26], by rw [hsp0, ze_rfs_ne (σ := (inp, sl, mv, M)) h26]; exact ⟨ma1, co1, le, Ar, rfl, hR, hM.1, hM.2⟩⟩)
    · obtain ⟨kd, hkd, rfl⟩ := ze_kind_yes h2 (Int32.not_lt.mp h7)
      have hsp0 := ze_comb_op (σ := (inp, sl, mv, M)) (a := a) (b := b) (into := into) hkd
      refine ze_iconst (v := ze_bi true) C d_M_combine_10 (by decide) ?_
      refine ze_goto 15 C d_M_combine_11 (by decide) ?_
      refine ze_iload_n C d_M_combine_15 2 rfl rfl ?_
      refine ze_iload_n C d_M_combine_16 3 rfl rfl ?_
      refine ze_iload C d_M_combine_17 4 rfl ?_
      refine ze_callV (st := []) C (c_M_refuse (ze_l G) (ze_D G) (ze_i G) ad x M mv inp.length ma co le Ar inp sl hR hM true a b into) (kv_M_65 (ze_rml (by decide) (by decide))) (by decide) ze_E_m rfl (Nat.le_of_ble_eq_true rfl) ⟨Nat.le_of_ble_eq_true rfl, Nat.le_of_ble_eq_true rfl⟩ d_M_combine_19 ?_
      rintro _ _ _ _ ⟨rfl, rfl, _, rfl, rfl, ma1, co1, rfl, hz0⟩
      refine ze_norm (c2 := 0) (s2 := 0) (st' := [.int (ze_rfs sl true a b into)]) rfl rfl rfl ?_
      refine ze_istore (lv' := [(5, .int (ze_rfs sl true a b into)), (0, .ref (ad 39)), (1, .int (nI kd)), (2, .int a), (3, .int b), (4, .int into)]) C d_M_combine_22 (by decide) rfl ?_
      refine ze_iload C d_M_combine_24 0 rfl ?_
      refine ze_if_eq 32 C d_M_combine_26 (by decide) (fun h26 => ?_) (fun h26 => ?_)
      · obtain ⟨rfl, rfl⟩ := hz0 h26
        obtain ⟨ja, jb, ji, A, B, hja, hjb, hji, rfl, rfl, rfl, hne, hneb, hA, hB, hI, hok, hop⟩ := ze_rfs_0 (σ := (inp, sl, mv, M)) h26
        simp only at hA hB hI
        obtain ⟨hA60, hcA, hHA⟩ := hR.2.2.2 ja hja A hA
        obtain ⟨hB60, hcB, hHB⟩ := hR.2.2.2 jb hjb B hB
        refine ze_sub [(0, .ref (ad 39)), (1, .int (nI kd)), (2, .int (nI ja)), (3, .int (nI jb)), (4, .int (nI ji))] [1, 2, 3, 4, 5] rfl ?_
        have hsp : sp_combine (inp, sl, mv, M) (nI kd) (nI ja) (nI jb) (nI ji) = sp_fin (inp, sl, mv, M) ji (ze_cmb kd A B, ze_sc M A.length + ze_sc M B.length + ze_sz A.length + ze_sz B.length + ze_sz (ze_cmb kd A B).length) := by rw [hsp0, hop]
        refine ze_aload_n C d_M_combine_32 0 rfl rfl ?_
        refine ze_iload_n C d_M_combine_33 2 rfl rfl ?_
        refine ze_iload_n C d_M_combine_34 3 rfl rfl ?_
        refine ze_iconst (v := -1) C d_M_combine_35 (by decide) ?_
        refine ze_callV (st := []) C (c_M_next_0 (ze_l G) (ze_D G) (ze_i G) ad x M mv inp.length 0 0 le Ar A B ja jb hja hjb hA60 hB60 hcA hcB hHA hHB [] (ze_un A B) rfl rfl) (kv_M_84 (ze_rml (by decide) (by decide))) (by decide) ze_E_m rfl (Nat.le_of_ble_eq_true rfl) ⟨Nat.le_of_ble_eq_true rfl, Nat.le_of_ble_eq_true rfl⟩ d_M_combine_36 ?_
        rintro _ _ _ _ ⟨rfl, rfl, _, rfl, v1, rfl, rfl, hnx⟩
        refine ze_norm (c2 := 0) (s2 := 0) (st' := [.int v1]) rfl rfl rfl ?_
        refine ze_istore (lv' := [(6, .int v1), (0, .ref (ad 39)), (1, .int (nI kd)), (2, .int (nI ja)), (3, .int (nI jb)), (4, .int (nI ji))]) C d_M_combine_39 (by decide) rfl ?_
        have loop : ∀ (r : Nat) (D1 D2 : List ze_Row) (at_ : Int32) (m1 : Nat) (A1 : Nat → Nat → Int32), D2.length = r → ze_un A B = D1 ++ D2 → ze_nx A1 D2 at_ → (∀ z, z ≠ 5 → z ≠ 6 → A1 z = Ar z) → ze_Mk A1 m1 (D1.flatMap (ze_F kd A B)) → ze_V G 48 ad (ze_E (ze_i G) ad x (M, mv, inp.length, m1, 0, le, A1)) 0 0 41 [(6, .int at_), (0, .ref (ad 39)), (1, .int (nI kd)), (2, .int (nI ja)), (3, .int (nI jb)), (4, .int (nI ji))] [] := by
          intro r
          induction r using Nat.strongRecOn with
          | ind r ih =>
            intro D1 D2 at_ m1 A1 hr g1 g2 g3 g4
            have hc1 : A1 2 ja = nI A.length := by rw [g3 2 (by decide) (by decide)]; exact hcA
            have hc2 : A1 2 jb = nI B.length := by rw [g3 2 (by decide) (by decide)]; exact hcB
            have h3 := g3 3 (by decide) (by decide)
            have h4 := g3 4 (by decide) (by decide)
            have hul := ze_un_len A B
            rw [g1, List.length_append] at hul
            have hm1 := g4.1
            have hfl := ze_fm_len (ze_F kd A B) 120 (ze_F_len kd A B hA60 hB60) D1
            rcases g2 with ⟨rfl, rfl⟩ | ⟨t, D3, ht, rfl, rfl⟩
            · rw [List.append_nil] at g1
              rw [← g1, ← ze_cmb_F] at g4 hm1
              have hR1 := ze_rA_56 hR (fun z z1 z2 _ => g3 z z1 z2)
              rw [← g1, ← ze_cmb_F] at hfl
              rw [g1] at hfl
              have hm9 : m1 < 50000 := by omega
              refine ze_iload C d_M_combine_41 0 rfl ?_
              refine ze_if_lt 198 C d_M_combine_43 (by decide) (fun h43 => ?_) (fun h43 => absurd h43 (by decide))
              refine ze_aload_n C d_M_combine_198 1 rfl rfl ?_
              refine ze_aload_n C d_M_combine_199 1 rfl rfl ?_
              refine ze_aload_n C d_M_combine_200 1 rfl rfl ?_
              refine ze_getf (k := 39) C fl_M_16 (by decide) ze_E_m rfl d_M_combine_201 ?_
              refine ze_iload_n C d_M_combine_204 3 rfl rfl ?_
              refine ze_iald (k := 40 + 2) (i := ja) C (by decide) (ze_E_a (j := 2)) (by show _ < 8; omega) (by decide) d_M_combine_205 ?_
              rw [hc1]
              refine ze_callV (st := [.ref (ad 39)]) C (c_M_sortCost (ze_l G) (ze_D G) (ze_i G) ad x M mv inp.length m1 0 le A1 hM A.length hA60) (kv_M_73 (ze_rml (by decide) (by decide))) (by decide) ze_E_m rfl (Nat.le_of_ble_eq_true rfl) ⟨Nat.le_of_ble_eq_true rfl, Nat.le_of_ble_eq_true rfl⟩ d_M_combine_206 ?_
              rintro _ _ _ _ ⟨rfl, rfl, _, rfl, rfl, rfl⟩
              refine ze_norm (c2 := 0) (s2 := 0) (st' := [.long (lN (ze_sc M A.length)), .ref (ad 39)]) rfl rfl rfl ?_
              refine ze_aload_n C d_M_combine_209 1 rfl rfl ?_
              refine ze_aload_n C d_M_combine_210 1 rfl rfl ?_
              refine ze_getf (k := 39) C fl_M_16 (by decide) ze_E_m rfl d_M_combine_211 ?_
              refine ze_iload_n C d_M_combine_214 4 rfl rfl ?_
              refine ze_iald (k := 40 + 2) (i := jb) C (by decide) (ze_E_a (j := 2)) (by show _ < 8; omega) (by decide) d_M_combine_215 ?_
              rw [hc2]
              refine ze_callV (st := [.long (lN (ze_sc M A.length)), .ref (ad 39)]) C (c_M_sortCost (ze_l G) (ze_D G) (ze_i G) ad x M mv inp.length m1 0 le A1 hM B.length hB60) (kv_M_73 (ze_rml (by decide) (by decide))) (by decide) ze_E_m rfl (Nat.le_of_ble_eq_true rfl) ⟨Nat.le_of_ble_eq_true rfl, Nat.le_of_ble_eq_true rfl⟩ d_M_combine_216 ?_
              rintro _ _ _ _ ⟨rfl, rfl, _, rfl, rfl, rfl⟩
              refine ze_norm (c2 := 0) (s2 := 0) (st' := [.long (lN (ze_sc M B.length)), .long (lN (ze_sc M A.length)), .ref (ad 39)]) rfl rfl rfl ?_
              refine ze_laddN C d_M_combine_219 ?_
              refine ze_aload_n C d_M_combine_220 1 rfl rfl ?_
              refine ze_getf (k := 39) C fl_M_16 (by decide) ze_E_m rfl d_M_combine_221 ?_
              refine ze_iload_n C d_M_combine_224 3 rfl rfl ?_
              refine ze_iald (k := 40 + 2) (i := ja) C (by decide) (ze_E_a (j := 2)) (by show _ < 8; omega) (by decide) d_M_combine_225 ?_
              rw [hc1]
              refine ze_callS (st := [.long (lN (ze_sc M A.length + (ze_sc M B.length))), .ref (ad 39)]) C (c_M_size (ze_l G) (ze_D G) (ze_i G) _ _ _ A.length (by omega)) (ks_M_38 (ze_rml (by decide) (by decide))) rfl (Nat.le_of_ble_eq_true rfl) ⟨Nat.le_of_ble_eq_true rfl, Nat.le_of_ble_eq_true rfl⟩ d_M_combine_226 ?_
              rintro _ _ _ _ ⟨rfl, rfl, rfl, rfl⟩
              refine ze_norm (c2 := 0) (s2 := 0) (st' := [.int (nI (ze_sz A.length)), .long (lN (ze_sc M A.length + (ze_sc M B.length))), .ref (ad 39)]) rfl rfl rfl ?_
              have hz226 := ze_sz_le A.length
              refine ze_i2lN C d_M_combine_229 (by omega) ?_
              refine ze_laddN C d_M_combine_230 ?_
              refine ze_aload_n C d_M_combine_231 1 rfl rfl ?_
              refine ze_getf (k := 39) C fl_M_16 (by decide) ze_E_m rfl d_M_combine_232 ?_
              refine ze_iload_n C d_M_combine_235 4 rfl rfl ?_
              refine ze_iald (k := 40 + 2) (i := jb) C (by decide) (ze_E_a (j := 2)) (by show _ < 8; omega) (by decide) d_M_combine_236 ?_
              rw [hc2]
              refine ze_callS (st := [.long (lN (ze_sc M A.length + (ze_sc M B.length) + (ze_sz A.length))), .ref (ad 39)]) C (c_M_size (ze_l G) (ze_D G) (ze_i G) _ _ _ B.length (by omega)) (ks_M_38 (ze_rml (by decide) (by decide))) rfl (Nat.le_of_ble_eq_true rfl) ⟨Nat.le_of_ble_eq_true rfl, Nat.le_of_ble_eq_true rfl⟩ d_M_combine_237 ?_
              rintro _ _ _ _ ⟨rfl, rfl, rfl, rfl⟩
              refine ze_norm (c2 := 0) (s2 := 0) (st' := [.int (nI (ze_sz B.length)), .long (lN (ze_sc M A.length + (ze_sc M B.length) + (ze_sz A.length))), .ref (ad 39)]) rfl rfl rfl ?_
              have hz237 := ze_sz_le B.length
              refine ze_i2lN C d_M_combine_240 (by omega) ?_
              refine ze_laddN C d_M_combine_241 ?_
              refine ze_aload_n C d_M_combine_242 1 rfl rfl ?_
              refine ze_getf (k := 39) C fl_M_55 (by decide) ze_E_m rfl d_M_combine_243 ?_
              refine ze_callS (st := [.long (lN (ze_sc M A.length + (ze_sc M B.length) + (ze_sz A.length) + (ze_sz B.length))), .ref (ad 39)]) C (c_M_size (ze_l G) (ze_D G) (ze_i G) _ _ _ m1 (by omega)) (ks_M_38 (ze_rml (by decide) (by decide))) rfl (Nat.le_of_ble_eq_true rfl) ⟨Nat.le_of_ble_eq_true rfl, Nat.le_of_ble_eq_true rfl⟩ d_M_combine_246 ?_
              rintro _ _ _ _ ⟨rfl, rfl, rfl, rfl⟩
              refine ze_norm (c2 := 0) (s2 := 0) (st' := [.int (nI (ze_sz m1)), .long (lN (ze_sc M A.length + (ze_sc M B.length) + (ze_sz A.length) + (ze_sz B.length))), .ref (ad 39)]) rfl rfl rfl ?_
              have hz246 := ze_sz_le m1
              refine ze_i2lN C d_M_combine_249 (by omega) ?_
              refine ze_laddN C d_M_combine_250 ?_
              refine ze_putf (k := 39) C fp_M_58 (by decide) ze_E_m rfl rfl (Nat.le_of_ble_eq_true rfl) d_M_combine_251 ?_
              refine ze_eqE (ze_up_m (ms' := (M, mv, inp.length, m1, ze_sc M A.length + (ze_sc M B.length) + (ze_sz A.length) + (ze_sz B.length) + (ze_sz m1), le, A1)) rfl rfl) ?_
              refine ze_aload_n C d_M_combine_254 1 rfl rfl ?_
              refine ze_iload C d_M_combine_255 5 rfl ?_
              refine ze_callV (st := []) C (c_M_finish (ze_l G) (ze_D G) (ze_i G) ad x M mv inp.length m1 (ze_sc M A.length + (ze_sc M B.length) + (ze_sz A.length) + (ze_sz B.length) + (ze_sz m1)) le A1 inp sl hR1 hM ji hji rfl (ze_cmb kd A B, ze_sc M A.length + ze_sc M B.length + ze_sz A.length + ze_sz B.length + ze_sz (ze_cmb kd A B).length) g4 (fun _ => by rw [hm1]) (by omega)) (kv_M_77 (ze_rml (by decide) (by decide))) (by decide) ze_E_m rfl (Nat.le_of_ble_eq_true rfl) ⟨Nat.le_of_ble_eq_true rfl, Nat.le_of_ble_eq_true rfl⟩ d_M_combine_257 ?_
              rintro _ _ _ _ ⟨rfl, rfl, ms', rfl, rfl, hr⟩
              refine ze_norm (c2 := 0) (s2 := 0) (st' := [.int (sp_fin (inp, sl, mv, M) ji (ze_cmb kd A B, ze_sc M A.length + ze_sc M B.length + ze_sz A.length + ze_sz B.length + ze_sz (ze_cmb kd A B).length)).1]) rfl rfl rfl ?_
              exact ze_iret C Rt d_M_combine_260 ⟨rfl, rfl, _, rfl, by rw [hsp], by rw [hsp]; exact hr⟩
            · refine ze_iload C d_M_combine_41 0 rfl ?_
              refine ze_if_ltN 198 C d_M_combine_43 (by decide) (by omega) (fun h43 => absurd h43 (by omega)) (fun h43 => ?_)
              refine ze_aload_n C d_M_combine_46 1 rfl rfl ?_
              refine ze_iload_n C d_M_combine_47 3 rfl rfl ?_
              refine ze_aload_n C d_M_combine_48 1 rfl rfl ?_
              refine ze_getf (k := 39) C fl_M_19 (by decide) ze_E_m rfl d_M_combine_49 ?_
              refine ze_iload C d_M_combine_52 0 rfl ?_
              refine ze_iald (k := 40 + 3) (i := t) C (by decide) (ze_E_a (j := 3)) (by show _ < 480; omega) (by decide) d_M_combine_54 ?_
              refine ze_aload_n C d_M_combine_55 1 rfl rfl ?_
              refine ze_getf (k := 39) C fl_M_22 (by decide) ze_E_m rfl d_M_combine_56 ?_
              refine ze_iload C d_M_combine_59 0 rfl ?_
              refine ze_iald (k := 40 + 4) (i := t) C (by decide) (ze_E_a (j := 4)) (by show _ < 480; omega) (by decide) d_M_combine_61 ?_
              refine ze_callV (st := []) C (c_M_times (ze_l G) (ze_D G) (ze_i G) ad x M mv inp.length m1 0 le A1 A ja hja hA60 hc1 (by rw [h3, h4]; exact hHA) (A1 3 t) (A1 4 t)) (kv_M_88 (ze_rml (by decide) (by decide))) (by decide) ze_E_m rfl (Nat.le_of_ble_eq_true rfl) ⟨Nat.le_of_ble_eq_true rfl, Nat.le_of_ble_eq_true rfl⟩ d_M_combine_62 ?_
              rintro _ _ _ _ ⟨rfl, rfl, _, rfl, rfl, rfl⟩
              refine ze_norm (c2 := 0) (s2 := 0) (st' := [.int (nI (A.count (A1 3 t, A1 4 t)))]) rfl rfl rfl ?_
              have ca := List.count_le_length (a := (A1 3 t, A1 4 t)) (l := A)
              refine ze_istore (lv' := [(7, .int (nI (A.count (A1 3 t, A1 4 t)))), (6, .int (nI t)), (0, .ref (ad 39)), (1, .int (nI kd)), (2, .int (nI ja)), (3, .int (nI jb)), (4, .int (nI ji))]) C d_M_combine_65 (by decide) rfl ?_
              refine ze_aload_n C d_M_combine_67 2 rfl rfl ?_
              refine ze_iload_n C d_M_combine_68 5 rfl rfl ?_
              refine ze_aload_n C d_M_combine_69 2 rfl rfl ?_
              refine ze_getf (k := 39) C fl_M_19 (by decide) ze_E_m rfl d_M_combine_70 ?_
              refine ze_iload C d_M_combine_73 1 rfl ?_
              refine ze_iald (k := 40 + 3) (i := t) C (by decide) (ze_E_a (j := 3)) (by show _ < 480; omega) (by decide) d_M_combine_75 ?_
              refine ze_aload_n C d_M_combine_76 2 rfl rfl ?_
              refine ze_getf (k := 39) C fl_M_22 (by decide) ze_E_m rfl d_M_combine_77 ?_
              refine ze_iload C d_M_combine_80 1 rfl ?_
              refine ze_iald (k := 40 + 4) (i := t) C (by decide) (ze_E_a (j := 4)) (by show _ < 480; omega) (by decide) d_M_combine_82 ?_
              refine ze_callV (st := []) C (c_M_times (ze_l G) (ze_D G) (ze_i G) ad x M mv inp.length m1 0 le A1 B jb hjb hB60 hc2 (by rw [h3, h4]; exact hHB) (A1 3 t) (A1 4 t)) (kv_M_88 (ze_rml (by decide) (by decide))) (by decide) ze_E_m rfl (Nat.le_of_ble_eq_true rfl) ⟨Nat.le_of_ble_eq_true rfl, Nat.le_of_ble_eq_true rfl⟩ d_M_combine_83 ?_
              rintro _ _ _ _ ⟨rfl, rfl, _, rfl, rfl, rfl⟩
              refine ze_norm (c2 := 0) (s2 := 0) (st' := [.int (nI (B.count (A1 3 t, A1 4 t)))]) rfl rfl rfl ?_
              have cb := List.count_le_length (a := (A1 3 t, A1 4 t)) (l := B)
              refine ze_istore (lv' := [(8, .int (nI (B.count (A1 3 t, A1 4 t)))), (7, .int (nI (A.count (A1 3 t, A1 4 t)))), (6, .int (nI t)), (0, .ref (ad 39)), (1, .int (nI kd)), (2, .int (nI ja)), (3, .int (nI jb)), (4, .int (nI ji))]) C d_M_combine_86 (by decide) rfl ?_
              refine ze_iload_n C d_M_combine_88 4 rfl rfl ?_
              refine ze_if_neN 109 C d_M_combine_89 (by decide) (by omega) (fun h89 => ?_) (fun h89 => ?_)
              · have hk0 : ¬ kd = 0 := h89
                refine ze_iload_n C d_M_combine_109 4 rfl rfl ?_
                refine ze_iconst (v := nI 1) C d_M_combine_110 (by decide) ?_
                refine ze_icmp_neN 131 C d_M_combine_111 (by decide) (by omega) (by omega) (fun h111 => ?_) (fun h111 => ?_)
                · have hk1 : ¬ kd = 1 := h111
                  refine ze_iload_n C d_M_combine_131 4 rfl rfl ?_
                  refine ze_iconst (v := nI 2) C d_M_combine_132 (by decide) ?_
                  refine ze_icmp_neN 144 C d_M_combine_133 (by decide) (by omega) (by omega) (fun h133 => ?_) (fun h133 => ?_)
                  · have hk2 : ¬ kd = 2 := h133
                    refine ze_iload C d_M_combine_144 1 rfl ?_
                    refine ze_iload C d_M_combine_146 0 rfl ?_
                    refine ze_iaddN C d_M_combine_148 ?_
                    refine ze_sub [(6, .int (nI t)), (0, .ref (ad 39)), (1, .int (nI kd)), (2, .int (nI ja)), (3, .int (nI jb)), (4, .int (nI ji))] [2, 3, 4, 5, 6, 7] rfl ?_
                    have htm : A.count (A1 3 t, A1 4 t) + (B.count (A1 3 t, A1 4 t)) = ze_tm kd (A.count (A1 3 t, A1 4 t)) (B.count (A1 3 t, A1 4 t)) := by unfold ze_tm; rw [if_neg hk0, if_neg hk1, if_neg hk2]
                    rw [htm]
                    refine ze_istore (lv' := [(9, .int (nI (ze_tm kd (A.count (A1 3 t, A1 4 t)) (B.count (A1 3 t, A1 4 t))))), (6, .int (nI t)), (0, .ref (ad 39)), (1, .int (nI kd)), (2, .int (nI ja)), (3, .int (nI jb)), (4, .int (nI ji))]) C d_M_combine_149 (by decide) rfl ?_
                    refine ze_iconst (v := nI 0) C d_M_combine_151 (by decide) ?_
                    refine ze_istore (lv' := [(10, .int (nI 0)), (9, .int (nI (ze_tm kd (A.count (A1 3 t, A1 4 t)) (B.count (A1 3 t, A1 4 t))))), (6, .int (nI t)), (0, .ref (ad 39)), (1, .int (nI kd)), (2, .int (nI ja)), (3, .int (nI jb)), (4, .int (nI ji))]) C d_M_combine_152 (by decide) rfl ?_
                    have htl : ze_tm kd (A.count (A1 3 t, A1 4 t)) (B.count (A1 3 t, A1 4 t)) ≤ 120 := Nat.le_trans ze_tm_le (by omega)
                    have inner : ∀ (r2 : Nat) (c m2 : Nat) (A2 : Nat → Nat → Int32), ze_tm kd (A.count (A1 3 t, A1 4 t)) (B.count (A1 3 t, A1 4 t)) - c = r2 → c ≤ ze_tm kd (A.count (A1 3 t, A1 4 t)) (B.count (A1 3 t, A1 4 t)) → (∀ z, z ≠ 5 → z ≠ 6 → A2 z = A1 z) → ze_Mk A2 m2 (D1.flatMap (ze_F kd A B) ++ List.replicate c (A1 3 t, A1 4 t)) → ze_V G 48 ad (ze_E (ze_i G) ad x (M, mv, inp.length, m2, 0, le, A2)) 0 0 154 [(10, .int (nI c)), (9, .int (nI (ze_tm kd (A.count (A1 3 t, A1 4 t)) (B.count (A1 3 t, A1 4 t))))), (6, .int (nI t)), (0, .ref (ad 39)), (1, .int (nI kd)), (2, .int (nI ja)), (3, .int (nI jb)), (4, .int (nI ji))] [] := by
                      intro r2
                      induction r2 using Nat.strongRecOn with
                      | ind r2 ih2 =>
                        intro c m2 A2 hr2 k1 k2 k3
                        have hm2 := k3.1
                        rw [List.length_append, List.length_replicate] at hm2
                        refine ze_iload C d_M_combine_154 0 rfl ?_
                        refine ze_iload C d_M_combine_156 1 rfl ?_
                        refine ze_icmp_geN 185 C d_M_combine_158 (by decide) (by omega) (by omega) (fun h158 => ?_) (fun h158 => ?_)
                        · have hce : c = ze_tm kd (A.count (A1 3 t, A1 4 t)) (B.count (A1 3 t, A1 4 t)) := by omega
                          refine ze_aload_n C d_M_combine_185 3 rfl rfl ?_
                          refine ze_iload_n C d_M_combine_186 5 rfl rfl ?_
                          refine ze_iload_n C d_M_combine_187 6 rfl rfl ?_
                          refine ze_iload C d_M_combine_188 2 rfl ?_
                          have o9 : ∀ z, z ≠ 5 → z ≠ 6 → A2 z = Ar z := (fun z z1 z2 => (k2 z z1 z2).trans (g3 z z1 z2))
                          have o93 := o9 3 (by decide) (by decide)
                          have o94 := o9 4 (by decide) (by decide)
                          refine ze_callV (st := []) C (c_M_next_1 (ze_l G) (ze_D G) (ze_i G) ad x M mv inp.length m2 0 le A2 A B ja jb hja hjb hA60 hB60 (by rw [o9 2 (by decide) (by decide)]; exact hcA) (by rw [o9 2 (by decide) (by decide)]; exact hcB) (by rw [o93, o94]; exact hHA) (by rw [o93, o94]; exact hHB) (D1 ++ [ze_rw A1 t]) D3 (by rw [g1, List.append_assoc]; rfl) t ht (by rw [List.getLast?_append]; simp [ze_rw, o93, o94, h3, h4])) (kv_M_84 (ze_rml (by decide) (by decide))) (by decide) ze_E_m rfl (Nat.le_of_ble_eq_true rfl) ⟨Nat.le_of_ble_eq_true rfl, Nat.le_of_ble_eq_true rfl⟩ d_M_combine_190 ?_
                          rintro _ _ _ _ ⟨rfl, rfl, _, rfl, v1, rfl, rfl, hnx⟩
                          refine ze_norm (c2 := 0) (s2 := 0) (st' := [.int v1]) rfl rfl rfl ?_
                          refine ze_istore (lv' := [(6, .int v1), (10, .int (nI c)), (9, .int (nI (ze_tm kd (A.count (A1 3 t, A1 4 t)) (B.count (A1 3 t, A1 4 t))))), (0, .ref (ad 39)), (1, .int (nI kd)), (2, .int (nI ja)), (3, .int (nI jb)), (4, .int (nI ji))]) C d_M_combine_193 (by decide) rfl ?_
                          refine ze_goto 41 C d_M_combine_195 (by decide) ?_
                          refine ze_sub [(6, .int v1), (0, .ref (ad 39)), (1, .int (nI kd)), (2, .int (nI ja)), (3, .int (nI jb)), (4, .int (nI ji))] [0, 3, 4, 5, 6, 7] rfl ?_
                          exact ih D3.length (by simp at hr; omega) (D1 ++ [ze_rw A1 t]) D3 v1 m2 A2 rfl (by rw [g1, List.append_assoc]; rfl) hnx o9 (by rw [ze_fm_snoc, ze_F, ← hce]; exact k3)
                        · refine ze_aload_n C d_M_combine_161 3 rfl rfl ?_
                          refine ze_aload_n C d_M_combine_162 3 rfl rfl ?_
                          refine ze_getf (k := 39) C fl_M_19 (by decide) ze_E_m rfl d_M_combine_163 ?_
                          refine ze_iload C d_M_combine_166 2 rfl ?_
                          refine ze_iald (k := 40 + 3) (i := t) C (by decide) (ze_E_a (j := 3)) (by show _ < 480; omega) (by decide) d_M_combine_168 ?_
                          refine ze_aload_n C d_M_combine_169 3 rfl rfl ?_
                          refine ze_getf (k := 39) C fl_M_22 (by decide) ze_E_m rfl d_M_combine_170 ?_
                          refine ze_iload C d_M_combine_173 2 rfl ?_
                          refine ze_iald (k := 40 + 4) (i := t) C (by decide) (ze_E_a (j := 4)) (by show _ < 480; omega) (by decide) d_M_combine_175 ?_
                          refine ze_callV (st := []) C (c_M_make (ze_l G) (ze_D G) (ze_i G) ad x M mv inp.length m2 0 le A2 (D1.flatMap (ze_F kd A B) ++ List.replicate c (A1 3 t, A1 4 t)) k3 (by simp at hul; omega) (A2 3 t) (A2 4 t)) (kv_M_80 (ze_rml (by decide) (by decide))) (by decide) ze_E_m rfl (Nat.le_of_ble_eq_true rfl) ⟨Nat.le_of_ble_eq_true rfl, Nat.le_of_ble_eq_true rfl⟩ d_M_combine_176 ?_
                          rintro _ _ _ _ ⟨rfl, rfl, _, rfl, rfl, A3, rfl, hk3, oA3⟩
                          refine ze_norm (c2 := 0) (s2 := 0) (st' := []) rfl rfl rfl ?_
                          refine ze_iinc (j := 0) (v := nI (c + 1)) (lv' := [(10, .int (nI (c + 1))), (9, .int (nI (ze_tm kd (A.count (A1 3 t, A1 4 t)) (B.count (A1 3 t, A1 4 t))))), (6, .int (nI t)), (0, .ref (ad 39)), (1, .int (nI kd)), (2, .int (nI ja)), (3, .int (nI jb)), (4, .int (nI ji))]) C d_M_combine_179 rfl (nI_1 _) (by decide) rfl ?_
                          refine ze_goto 154 C d_M_combine_182 (by decide) ?_
                          refine ze_sub [(10, .int (nI (c + 1))), (9, .int (nI (ze_tm kd (A.count (A1 3 t, A1 4 t)) (B.count (A1 3 t, A1 4 t))))), (6, .int (nI t)), (0, .ref (ad 39)), (1, .int (nI kd)), (2, .int (nI ja)), (3, .int (nI jb)), (4, .int (nI ji))] [0, 1, 2, 3, 4, 5, 6, 7] rfl ?_
                          exact ih2 (ze_tm kd (A.count (A1 3 t, A1 4 t)) (B.count (A1 3 t, A1 4 t)) - (c + 1)) (by omega) (c + 1) (m2 + 1) A3 rfl (by omega) (fun z z1 z2 => (oA3 z z1 z2).trans (k2 z z1 z2)) (by rw [List.replicate_succ', ← List.append_assoc]; rw [k2 3 (by decide) (by decide), k2 4 (by decide) (by decide)] at hk3; exact hk3)
                    refine ze_sub [(10, .int (nI 0)), (9, .int (nI (ze_tm kd (A.count (A1 3 t, A1 4 t)) (B.count (A1 3 t, A1 4 t))))), (6, .int (nI t)), (0, .ref (ad 39)), (1, .int (nI kd)), (2, .int (nI ja)), (3, .int (nI jb)), (4, .int (nI ji))] [0, 1, 2, 3, 4, 5, 6, 7] rfl ?_
                    exact inner _ 0 m1 A1 rfl (Nat.zero_le _) (fun _ _ _ => rfl) (by rw [List.replicate_zero, List.append_nil]; exact g4)
                  · have hk2 : kd = 2 := h133
                    refine ze_iload C d_M_combine_136 1 rfl ?_
                    refine ze_iload C d_M_combine_138 0 rfl ?_
                    by_cases hnm : B.count (A1 3 t, A1 4 t) ≤ A.count (A1 3 t, A1 4 t)
                    · refine ze_isubN C d_M_combine_140 hnm ?_
                      refine ze_goto 149 C d_M_combine_141 (by decide) ?_
                      refine ze_sub [(6, .int (nI t)), (0, .ref (ad 39)), (1, .int (nI kd)), (2, .int (nI ja)), (3, .int (nI jb)), (4, .int (nI ji))] [2, 3, 4, 5, 6, 7] rfl ?_
                      have htm : (A.count (A1 3 t, A1 4 t)) - (B.count (A1 3 t, A1 4 t)) = ze_tm kd (A.count (A1 3 t, A1 4 t)) (B.count (A1 3 t, A1 4 t)) := by unfold ze_tm; rw [if_neg hk0, if_neg hk1, if_pos hk2]
                      rw [htm]
                      refine ze_istore (lv' := [(9, .int (nI (ze_tm kd (A.count (A1 3 t, A1 4 t)) (B.count (A1 3 t, A1 4 t))))), (6, .int (nI t)), (0, .ref (ad 39)), (1, .int (nI kd)), (2, .int (nI ja)), (3, .int (nI jb)), (4, .int (nI ji))]) C d_M_combine_149 (by decide) rfl ?_
                      refine ze_iconst (v := nI 0) C d_M_combine_151 (by decide) ?_
                      refine ze_istore (lv' := [(10, .int (nI 0)), (9, .int (nI (ze_tm kd (A.count (A1 3 t, A1 4 t)) (B.count (A1 3 t, A1 4 t))))), (6, .int (nI t)), (0, .ref (ad 39)), (1, .int (nI kd)), (2, .int (nI ja)), (3, .int (nI jb)), (4, .int (nI ji))]) C d_M_combine_152 (by decide) rfl ?_
                      have htl : ze_tm kd (A.count (A1 3 t, A1 4 t)) (B.count (A1 3 t, A1 4 t)) ≤ 120 := Nat.le_trans ze_tm_le (by omega)
                      have inner : ∀ (r2 : Nat) (c m2 : Nat) (A2 : Nat → Nat → Int32), ze_tm kd (A.count (A1 3 t, A1 4 t)) (B.count (A1 3 t, A1 4 t)) - c = r2 → c ≤ ze_tm kd (A.count (A1 3 t, A1 4 t)) (B.count (A1 3 t, A1 4 t)) → (∀ z, z ≠ 5 → z ≠ 6 → A2 z = A1 z) → ze_Mk A2 m2 (D1.flatMap (ze_F kd A B) ++ List.replicate c (A1 3 t, A1 4 t)) → ze_V G 48 ad (ze_E (ze_i G) ad x (M, mv, inp.length, m2, 0, le, A2)) 0 0 154 [(10, .int (nI c)), (9, .int (nI (ze_tm kd (A.count (A1 3 t, A1 4 t)) (B.count (A1 3 t, A1 4 t))))), (6, .int (nI t)), (0, .ref (ad 39)), (1, .int (nI kd)), (2, .int (nI ja)), (3, .int (nI jb)), (4, .int (nI ji))] [] := by
                        intro r2
                        induction r2 using Nat.strongRecOn with
                        | ind r2 ih2 =>
                          intro c m2 A2 hr2 k1 k2 k3
                          have hm2 := k3.1
                          rw [List.length_append, List.length_replicate] at hm2
                          refine ze_iload C d_M_combine_154 0 rfl ?_
                          refine ze_iload C d_M_combine_156 1 rfl ?_
                          refine ze_icmp_geN 185 C d_M_combine_158 (by decide) (by omega) (by omega) (fun h158 => ?_) (fun h158 => ?_)
                          · have hce : c = ze_tm kd (A.count (A1 3 t, A1 4 t)) (B.count (A1 3 t, A1 4 t)) := by omega
                            refine ze_aload_n C d_M_combine_185 3 rfl rfl ?_
                            refine ze_iload_n C d_M_combine_186 5 rfl rfl ?_
                            refine ze_iload_n C d_M_combine_187 6 rfl rfl ?_
                            refine ze_iload C d_M_combine_188 2 rfl ?_
                            have o9 : ∀ z, z ≠ 5 → z ≠ 6 → A2 z = Ar z := (fun z z1 z2 => (k2 z z1 z2).trans (g3 z z1 z2))
                            have o93 := o9 3 (by decide) (by decide)
                            have o94 := o9 4 (by decide) (by decide)
                            refine ze_callV (st := []) C (c_M_next_1 (ze_l G) (ze_D G) (ze_i G) ad x M mv inp.length m2 0 le A2 A B ja jb hja hjb hA60 hB60 (by rw [o9 2 (by decide) (by decide)]; exact hcA) (by rw [o9 2 (by decide) (by decide)]; exact hcB) (by rw [o93, o94]; exact hHA) (by rw [o93, o94]; exact hHB) (D1 ++ [ze_rw A1 t]) D3 (by rw [g1, List.append_assoc]; rfl) t ht (by rw [List.getLast?_append]; simp [ze_rw, o93, o94, h3, h4])) (kv_M_84 (ze_rml (by decide) (by decide))) (by decide) ze_E_m rfl (Nat.le_of_ble_eq_true rfl) ⟨Nat.le_of_ble_eq_true rfl, Nat.le_of_ble_eq_true rfl⟩ d_M_combine_190 ?_
                            rintro _ _ _ _ ⟨rfl, rfl, _, rfl, v1, rfl, rfl, hnx⟩
                            refine ze_norm (c2 := 0) (s2 := 0) (st' := [.int v1]) rfl rfl rfl ?_
                            refine ze_istore (lv' := [(6, .int v1), (10, .int (nI c)), (9, .int (nI (ze_tm kd (A.count (A1 3 t, A1 4 t)) (B.count (A1 3 t, A1 4 t))))), (0, .ref (ad 39)), (1, .int (nI kd)), (2, .int (nI ja)), (3, .int (nI jb)), (4, .int (nI ji))]) C d_M_combine_193 (by decide) rfl ?_
                            refine ze_goto 41 C d_M_combine_195 (by decide) ?_
                            refine ze_sub [(6, .int v1), (0, .ref (ad 39)), (1, .int (nI kd)), (2, .int (nI ja)), (3, .int (nI jb)), (4, .int (nI ji))] [0, 3, 4, 5, 6, 7] rfl ?_
                            exact ih D3.length (by simp at hr; omega) (D1 ++ [ze_rw A1 t]) D3 v1 m2 A2 rfl (by rw [g1, List.append_assoc]; rfl) hnx o9 (by rw [ze_fm_snoc, ze_F, ← hce]; exact k3)
                          · refine ze_aload_n C d_M_combine_161 3 rfl rfl ?_
                            refine ze_aload_n C d_M_combine_162 3 rfl rfl ?_
                            refine ze_getf (k := 39) C fl_M_19 (by decide) ze_E_m rfl d_M_combine_163 ?_
                            refine ze_iload C d_M_combine_166 2 rfl ?_
                            refine ze_iald (k := 40 + 3) (i := t) C (by decide) (ze_E_a (j := 3)) (by show _ < 480; omega) (by decide) d_M_combine_168 ?_
                            refine ze_aload_n C d_M_combine_169 3 rfl rfl ?_
                            refine ze_getf (k := 39) C fl_M_22 (by decide) ze_E_m rfl d_M_combine_170 ?_
                            refine ze_iload C d_M_combine_173 2 rfl ?_
                            refine ze_iald (k := 40 + 4) (i := t) C (by decide) (ze_E_a (j := 4)) (by show _ < 480; omega) (by decide) d_M_combine_175 ?_
                            refine ze_callV (st := []) C (c_M_make (ze_l G) (ze_D G) (ze_i G) ad x M mv inp.length m2 0 le A2 (D1.flatMap (ze_F kd A B) ++ List.replicate c (A1 3 t, A1 4 t)) k3 (by simp at hul; omega) (A2 3 t) (A2 4 t)) (kv_M_80 (ze_rml (by decide) (by decide))) (by decide) ze_E_m rfl (Nat.le_of_ble_eq_true rfl) ⟨Nat.le_of_ble_eq_true rfl, Nat.le_of_ble_eq_true rfl⟩ d_M_combine_176 ?_
                            rintro _ _ _ _ ⟨rfl, rfl, _, rfl, rfl, A3, rfl, hk3, oA3⟩
                            refine ze_norm (c2 := 0) (s2 := 0) (st' := []) rfl rfl rfl ?_
                            refine ze_iinc (j := 0) (v := nI (c + 1)) (lv' := [(10, .int (nI (c + 1))), (9, .int (nI (ze_tm kd (A.count (A1 3 t, A1 4 t)) (B.count (A1 3 t, A1 4 t))))), (6, .int (nI t)), (0, .ref (ad 39)), (1, .int (nI kd)), (2, .int (nI ja)), (3, .int (nI jb)), (4, .int (nI ji))]) C d_M_combine_179 rfl (nI_1 _) (by decide) rfl ?_
                            refine ze_goto 154 C d_M_combine_182 (by decide) ?_
                            refine ze_sub [(10, .int (nI (c + 1))), (9, .int (nI (ze_tm kd (A.count (A1 3 t, A1 4 t)) (B.count (A1 3 t, A1 4 t))))), (6, .int (nI t)), (0, .ref (ad 39)), (1, .int (nI kd)), (2, .int (nI ja)), (3, .int (nI jb)), (4, .int (nI ji))] [0, 1, 2, 3, 4, 5, 6, 7] rfl ?_
                            exact ih2 (ze_tm kd (A.count (A1 3 t, A1 4 t)) (B.count (A1 3 t, A1 4 t)) - (c + 1)) (by omega) (c + 1) (m2 + 1) A3 rfl (by omega) (fun z z1 z2 => (oA3 z z1 z2).trans (k2 z z1 z2)) (by rw [List.replicate_succ', ← List.append_assoc]; rw [k2 3 (by decide) (by decide), k2 4 (by decide) (by decide)] at hk3; exact hk3)
                      refine ze_sub [(10, .int (nI 0)), (9, .int (nI (ze_tm kd (A.count (A1 3 t, A1 4 t)) (B.count (A1 3 t, A1 4 t))))), (6, .int (nI t)), (0, .ref (ad 39)), (1, .int (nI kd)), (2, .int (nI ja)), (3, .int (nI jb)), (4, .int (nI ji))] [0, 1, 2, 3, 4, 5, 6, 7] rfl ?_
                      exact inner _ 0 m1 A1 rfl (Nat.zero_le _) (fun _ _ _ => rfl) (by rw [List.replicate_zero, List.append_nil]; exact g4)
                    · refine ze_isub C d_M_combine_140 ?_
                      refine ze_goto 149 C d_M_combine_141 (by decide) ?_
                      refine ze_sub [(6, .int (nI t)), (0, .ref (ad 39)), (1, .int (nI kd)), (2, .int (nI ja)), (3, .int (nI jb)), (4, .int (nI ji))] [2, 3, 4, 5, 6, 7] rfl ?_
                      refine ze_istore (lv' := [(9, .int (nI (A.count (A1 3 t, A1 4 t)) - nI (B.count (A1 3 t, A1 4 t)))), (6, .int (nI t)), (0, .ref (ad 39)), (1, .int (nI kd)), (2, .int (nI ja)), (3, .int (nI jb)), (4, .int (nI ji))]) C d_M_combine_149 (by decide) rfl ?_
                      refine ze_iconst (v := nI 0) C d_M_combine_151 (by decide) ?_
                      refine ze_istore (lv' := [(10, .int (nI 0)), (9, .int (nI (A.count (A1 3 t, A1 4 t)) - nI (B.count (A1 3 t, A1 4 t)))), (6, .int (nI t)), (0, .ref (ad 39)), (1, .int (nI kd)), (2, .int (nI ja)), (3, .int (nI jb)), (4, .int (nI ji))]) C d_M_combine_152 (by decide) rfl ?_
                      have htm0 : ze_tm kd (A.count (A1 3 t, A1 4 t)) (B.count (A1 3 t, A1 4 t)) = 0 := by unfold ze_tm; rw [if_neg hk0, if_neg hk1, if_pos hk2]; omega
                      refine ze_iload C d_M_combine_154 0 rfl ?_
                      refine ze_iload C d_M_combine_156 1 rfl ?_
                      refine ze_icmp_ge 185 C d_M_combine_158 (by decide) (fun h158 => ?_) (fun h158 => absurd h158 (fun z => z (by rw [nI_0]; exact Int32.le_of_lt (pk_sneg (by omega) (by omega)))))
                      refine ze_aload_n C d_M_combine_185 3 rfl rfl ?_
                      refine ze_iload_n C d_M_combine_186 5 rfl rfl ?_
                      refine ze_iload_n C d_M_combine_187 6 rfl rfl ?_
                      refine ze_iload C d_M_combine_188 2 rfl ?_
                      have o9 : ∀ z, z ≠ 5 → z ≠ 6 → A1 z = Ar z := g3
                      have o93 := o9 3 (by decide) (by decide)
                      have o94 := o9 4 (by decide) (by decide)
                      refine ze_callV (st := []) C (c_M_next_1 (ze_l G) (ze_D G) (ze_i G) ad x M mv inp.length m1 0 le A1 A B ja jb hja hjb hA60 hB60 (by rw [o9 2 (by decide) (by decide)]; exact hcA) (by rw [o9 2 (by decide) (by decide)]; exact hcB) (by rw [o93, o94]; exact hHA) (by rw [o93, o94]; exact hHB) (D1 ++ [ze_rw A1 t]) D3 (by rw [g1, List.append_assoc]; rfl) t ht (by rw [List.getLast?_append]; simp [ze_rw, o93, o94, h3, h4])) (kv_M_84 (ze_rml (by decide) (by decide))) (by decide) ze_E_m rfl (Nat.le_of_ble_eq_true rfl) ⟨Nat.le_of_ble_eq_true rfl, Nat.le_of_ble_eq_true rfl⟩ d_M_combine_190 ?_
                      rintro _ _ _ _ ⟨rfl, rfl, _, rfl, v1, rfl, rfl, hnx⟩
                      refine ze_norm (c2 := 0) (s2 := 0) (st' := [.int v1]) rfl rfl rfl ?_
                      refine ze_istore (lv' := [(6, .int v1), (10, .int (nI 0)), (9, .int (nI (A.count (A1 3 t, A1 4 t)) - nI (B.count (A1 3 t, A1 4 t)))), (0, .ref (ad 39)), (1, .int (nI kd)), (2, .int (nI ja)), (3, .int (nI jb)), (4, .int (nI ji))]) C d_M_combine_193 (by decide) rfl ?_
                      refine ze_goto 41 C d_M_combine_195 (by decide) ?_
                      refine ze_sub [(6, .int v1), (0, .ref (ad 39)), (1, .int (nI kd)), (2, .int (nI ja)), (3, .int (nI jb)), (4, .int (nI ji))] [0, 3, 4, 5, 6, 7] rfl ?_
                      exact ih D3.length (by simp at hr; omega) (D1 ++ [ze_rw A1 t]) D3 v1 m1 A1 rfl (by rw [g1, List.append_assoc]; rfl) hnx o9 (by rw [ze_fm_snoc, ze_F, htm0, List.replicate_zero, List.append_nil]; exact g4)
                · have hk1 : kd = 1 := h111
                  refine ze_iload C d_M_combine_114 1 rfl ?_
                  refine ze_iload C d_M_combine_116 0 rfl ?_
                  refine ze_icmp_geN 126 C d_M_combine_118 (by decide) (by omega) (by omega) (fun h118 => ?_) (fun h118 => ?_)
                  · refine ze_iload C d_M_combine_126 0 rfl ?_
                    refine ze_goto 149 C d_M_combine_128 (by decide) ?_
                    refine ze_sub [(6, .int (nI t)), (0, .ref (ad 39)), (1, .int (nI kd)), (2, .int (nI ja)), (3, .int (nI jb)), (4, .int (nI ji))] [2, 3, 4, 5, 6, 7] rfl ?_
                    have htm : B.count (A1 3 t, A1 4 t) = ze_tm kd (A.count (A1 3 t, A1 4 t)) (B.count (A1 3 t, A1 4 t)) := by unfold ze_tm; rw [if_neg hk0, if_pos hk1]; omega
                    rw [htm]
                    refine ze_istore (lv' := [(9, .int (nI (ze_tm kd (A.count (A1 3 t, A1 4 t)) (B.count (A1 3 t, A1 4 t))))), (6, .int (nI t)), (0, .ref (ad 39)), (1, .int (nI kd)), (2, .int (nI ja)), (3, .int (nI jb)), (4, .int (nI ji))]) C d_M_combine_149 (by decide) rfl ?_
                    refine ze_iconst (v := nI 0) C d_M_combine_151 (by decide) ?_
                    refine ze_istore (lv' := [(10, .int (nI 0)), (9, .int (nI (ze_tm kd (A.count (A1 3 t, A1 4 t)) (B.count (A1 3 t, A1 4 t))))), (6, .int (nI t)), (0, .ref (ad 39)), (1, .int (nI kd)), (2, .int (nI ja)), (3, .int (nI jb)), (4, .int (nI ji))]) C d_M_combine_152 (by decide) rfl ?_
                    have htl : ze_tm kd (A.count (A1 3 t, A1 4 t)) (B.count (A1 3 t, A1 4 t)) ≤ 120 := Nat.le_trans ze_tm_le (by omega)
                    have inner : ∀ (r2 : Nat) (c m2 : Nat) (A2 : Nat → Nat → Int32), ze_tm kd (A.count (A1 3 t, A1 4 t)) (B.count (A1 3 t, A1 4 t)) - c = r2 → c ≤ ze_tm kd (A.count (A1 3 t, A1 4 t)) (B.count (A1 3 t, A1 4 t)) → (∀ z, z ≠ 5 → z ≠ 6 → A2 z = A1 z) → ze_Mk A2 m2 (D1.flatMap (ze_F kd A B) ++ List.replicate c (A1 3 t, A1 4 t)) → ze_V G 48 ad (ze_E (ze_i G) ad x (M, mv, inp.length, m2, 0, le, A2)) 0 0 154 [(10, .int (nI c)), (9, .int (nI (ze_tm kd (A.count (A1 3 t, A1 4 t)) (B.count (A1 3 t, A1 4 t))))), (6, .int (nI t)), (0, .ref (ad 39)), (1, .int (nI kd)), (2, .int (nI ja)), (3, .int (nI jb)), (4, .int (nI ji))] [] := by
                      intro r2
                      induction r2 using Nat.strongRecOn with
                      | ind r2 ih2 =>
                        intro c m2 A2 hr2 k1 k2 k3
                        have hm2 := k3.1
                        rw [List.length_append, List.length_replicate] at hm2
                        refine ze_iload C d_M_combine_154 0 rfl ?_
                        refine ze_iload C d_M_combine_156 1 rfl ?_
                        refine ze_icmp_geN 185 C d_M_combine_158 (by decide) (by omega) (by omega) (fun h158 => ?_) (fun h158 => ?_)
                        · have hce : c = ze_tm kd (A.count (A1 3 t, A1 4 t)) (B.count (A1 3 t, A1 4 t)) := by omega
                          refine ze_aload_n C d_M_combine_185 3 rfl rfl ?_
                          refine ze_iload_n C d_M_combine_186 5 rfl rfl ?_
                          refine ze_iload_n C d_M_combine_187 6 rfl rfl ?_
                          refine ze_iload C d_M_combine_188 2 rfl ?_
                          have o9 : ∀ z, z ≠ 5 → z ≠ 6 → A2 z = Ar z := (fun z z1 z2 => (k2 z z1 z2).trans (g3 z z1 z2))
                          have o93 := o9 3 (by decide) (by decide)
                          have o94 := o9 4 (by decide) (by decide)
                          refine ze_callV (st := []) C (c_M_next_1 (ze_l G) (ze_D G) (ze_i G) ad x M mv inp.length m2 0 le A2 A B ja jb hja hjb hA60 hB60 (by rw [o9 2 (by decide) (by decide)]; exact hcA) (by rw [o9 2 (by decide) (by decide)]; exact hcB) (by rw [o93, o94]; exact hHA) (by rw [o93, o94]; exact hHB) (D1 ++ [ze_rw A1 t]) D3 (by rw [g1, List.append_assoc]; rfl) t ht (by rw [List.getLast?_append]; simp [ze_rw, o93, o94, h3, h4])) (kv_M_84 (ze_rml (by decide) (by decide))) (by decide) ze_E_m rfl (Nat.le_of_ble_eq_true rfl) ⟨Nat.le_of_ble_eq_true rfl, Nat.le_of_ble_eq_true rfl⟩ d_M_combine_190 ?_
                          rintro _ _ _ _ ⟨rfl, rfl, _, rfl, v1, rfl, rfl, hnx⟩
                          refine ze_norm (c2 := 0) (s2 := 0) (st' := [.int v1]) rfl rfl rfl ?_
                          refine ze_istore (lv' := [(6, .int v1), (10, .int (nI c)), (9, .int (nI (ze_tm kd (A.count (A1 3 t, A1 4 t)) (B.count (A1 3 t, A1 4 t))))), (0, .ref (ad 39)), (1, .int (nI kd)), (2, .int (nI ja)), (3, .int (nI jb)), (4, .int (nI ji))]) C d_M_combine_193 (by decide) rfl ?_
                          refine ze_goto 41 C d_M_combine_195 (by decide) ?_
                          refine ze_sub [(6, .int v1), (0, .ref (ad 39)), (1, .int (nI kd)), (2, .int (nI ja)), (3, .int (nI jb)), (4, .int (nI ji))] [0, 3, 4, 5, 6, 7] rfl ?_
                          exact ih D3.length (by simp at hr; omega) (D1 ++ [ze_rw A1 t]) D3 v1 m2 A2 rfl (by rw [g1, List.append_assoc]; rfl) hnx o9 (by rw [ze_fm_snoc, ze_F, ← hce]; exact k3)
                        · refine ze_aload_n C d_M_combine_161 3 rfl rfl ?_
                          refine ze_aload_n C d_M_combine_162 3 rfl rfl ?_
                          refine ze_getf (k := 39) C fl_M_19 (by decide) ze_E_m rfl d_M_combine_163 ?_
                          refine ze_iload C d_M_combine_166 2 rfl ?_
                          refine ze_iald (k := 40 + 3) (i := t) C (by decide) (ze_E_a (j := 3)) (by show _ < 480; omega) (by decide) d_M_combine_168 ?_
                          refine ze_aload_n C d_M_combine_169 3 rfl rfl ?_
                          refine ze_getf (k := 39) C fl_M_22 (by decide) ze_E_m rfl d_M_combine_170 ?_
                          refine ze_iload C d_M_combine_173 2 rfl ?_
                          refine ze_iald (k := 40 + 4) (i := t) C (by decide) (ze_E_a (j := 4)) (by show _ < 480; omega) (by decide) d_M_combine_175 ?_
                          refine ze_callV (st := []) C (c_M_make (ze_l G) (ze_D G) (ze_i G) ad x M mv inp.length m2 0 le A2 (D1.flatMap (ze_F kd A B) ++ List.replicate c (A1 3 t, A1 4 t)) k3 (by simp at hul; omega) (A2 3 t) (A2 4 t)) (kv_M_80 (ze_rml (by decide) (by decide))) (by decide) ze_E_m rfl (Nat.le_of_ble_eq_true rfl) ⟨Nat.le_of_ble_eq_true rfl, Nat.le_of_ble_eq_true rfl⟩ d_M_combine_176 ?_
                          rintro _ _ _ _ ⟨rfl, rfl, _, rfl, rfl, A3, rfl, hk3, oA3⟩
                          refine ze_norm (c2 := 0) (s2 := 0) (st' := []) rfl rfl rfl ?_
                          refine ze_iinc (j := 0) (v := nI (c + 1)) (lv' := [(10, .int (nI (c + 1))), (9, .int (nI (ze_tm kd (A.count (A1 3 t, A1 4 t)) (B.count (A1 3 t, A1 4 t))))), (6, .int (nI t)), (0, .ref (ad 39)), (1, .int (nI kd)), (2, .int (nI ja)), (3, .int (nI jb)), (4, .int (nI ji))]) C d_M_combine_179 rfl (nI_1 _) (by decide) rfl ?_
                          refine ze_goto 154 C d_M_combine_182 (by decide) ?_
                          refine ze_sub [(10, .int (nI (c + 1))), (9, .int (nI (ze_tm kd (A.count (A1 3 t, A1 4 t)) (B.count (A1 3 t, A1 4 t))))), (6, .int (nI t)), (0, .ref (ad 39)), (1, .int (nI kd)), (2, .int (nI ja)), (3, .int (nI jb)), (4, .int (nI ji))] [0, 1, 2, 3, 4, 5, 6, 7] rfl ?_
                          exact ih2 (ze_tm kd (A.count (A1 3 t, A1 4 t)) (B.count (A1 3 t, A1 4 t)) - (c + 1)) (by omega) (c + 1) (m2 + 1) A3 rfl (by omega) (fun z z1 z2 => (oA3 z z1 z2).trans (k2 z z1 z2)) (by rw [List.replicate_succ', ← List.append_assoc]; rw [k2 3 (by decide) (by decide), k2 4 (by decide) (by decide)] at hk3; exact hk3)
                    refine ze_sub [(10, .int (nI 0)), (9, .int (nI (ze_tm kd (A.count (A1 3 t, A1 4 t)) (B.count (A1 3 t, A1 4 t))))), (6, .int (nI t)), (0, .ref (ad 39)), (1, .int (nI kd)), (2, .int (nI ja)), (3, .int (nI jb)), (4, .int (nI ji))] [0, 1, 2, 3, 4, 5, 6, 7] rfl ?_
                    exact inner _ 0 m1 A1 rfl (Nat.zero_le _) (fun _ _ _ => rfl) (by rw [List.replicate_zero, List.append_nil]; exact g4)
                  · refine ze_iload C d_M_combine_121 1 rfl ?_
                    refine ze_goto 149 C d_M_combine_123 (by decide) ?_
                    refine ze_sub [(6, .int (nI t)), (0, .ref (ad 39)), (1, .int (nI kd)), (2, .int (nI ja)), (3, .int (nI jb)), (4, .int (nI ji))] [2, 3, 4, 5, 6, 7] rfl ?_
                    have htm : A.count (A1 3 t, A1 4 t) = ze_tm kd (A.count (A1 3 t, A1 4 t)) (B.count (A1 3 t, A1 4 t)) := by unfold ze_tm; rw [if_neg hk0, if_pos hk1]; omega
                    rw [htm]
                    refine ze_istore (lv' := [(9, .int (nI (ze_tm kd (A.count (A1 3 t, A1 4 t)) (B.count (A1 3 t, A1 4 t))))), (6, .int (nI t)), (0, .ref (ad 39)), (1, .int (nI kd)), (2, .int (nI ja)), (3, .int (nI jb)), (4, .int (nI ji))]) C d_M_combine_149 (by decide) rfl ?_
                    refine ze_iconst (v := nI 0) C d_M_combine_151 (by decide) ?_
                    refine ze_istore (lv' := [(10, .int (nI 0)), (9, .int (nI (ze_tm kd (A.count (A1 3 t, A1 4 t)) (B.count (A1 3 t, A1 4 t))))), (6, .int (nI t)), (0, .ref (ad 39)), (1, .int (nI kd)), (2, .int (nI ja)), (3, .int (nI jb)), (4, .int (nI ji))]) C d_M_combine_152 (by decide) rfl ?_
                    have htl : ze_tm kd (A.count (A1 3 t, A1 4 t)) (B.count (A1 3 t, A1 4 t)) ≤ 120 := Nat.le_trans ze_tm_le (by omega)
                    have inner : ∀ (r2 : Nat) (c m2 : Nat) (A2 : Nat → Nat → Int32), ze_tm kd (A.count (A1 3 t, A1 4 t)) (B.count (A1 3 t, A1 4 t)) - c = r2 → c ≤ ze_tm kd (A.count (A1 3 t, A1 4 t)) (B.count (A1 3 t, A1 4 t)) → (∀ z, z ≠ 5 → z ≠ 6 → A2 z = A1 z) → ze_Mk A2 m2 (D1.flatMap (ze_F kd A B) ++ List.replicate c (A1 3 t, A1 4 t)) → ze_V G 48 ad (ze_E (ze_i G) ad x (M, mv, inp.length, m2, 0, le, A2)) 0 0 154 [(10, .int (nI c)), (9, .int (nI (ze_tm kd (A.count (A1 3 t, A1 4 t)) (B.count (A1 3 t, A1 4 t))))), (6, .int (nI t)), (0, .ref (ad 39)), (1, .int (nI kd)), (2, .int (nI ja)), (3, .int (nI jb)), (4, .int (nI ji))] [] := by
                      intro r2
                      induction r2 using Nat.strongRecOn with
                      | ind r2 ih2 =>
                        intro c m2 A2 hr2 k1 k2 k3
                        have hm2 := k3.1
                        rw [List.length_append, List.length_replicate] at hm2
                        refine ze_iload C d_M_combine_154 0 rfl ?_
                        refine ze_iload C d_M_combine_156 1 rfl ?_
                        refine ze_icmp_geN 185 C d_M_combine_158 (by decide) (by omega) (by omega) (fun h158 => ?_) (fun h158 => ?_)
                        · have hce : c = ze_tm kd (A.count (A1 3 t, A1 4 t)) (B.count (A1 3 t, A1 4 t)) := by omega
                          refine ze_aload_n C d_M_combine_185 3 rfl rfl ?_
                          refine ze_iload_n C d_M_combine_186 5 rfl rfl ?_
                          refine ze_iload_n C d_M_combine_187 6 rfl rfl ?_
                          refine ze_iload C d_M_combine_188 2 rfl ?_
                          have o9 : ∀ z, z ≠ 5 → z ≠ 6 → A2 z = Ar z := (fun z z1 z2 => (k2 z z1 z2).trans (g3 z z1 z2))
                          have o93 := o9 3 (by decide) (by decide)
                          have o94 := o9 4 (by decide) (by decide)
                          refine ze_callV (st := []) C (c_M_next_1 (ze_l G) (ze_D G) (ze_i G) ad x M mv inp.length m2 0 le A2 A B ja jb hja hjb hA60 hB60 (by rw [o9 2 (by decide) (by decide)]; exact hcA) (by rw [o9 2 (by decide) (by decide)]; exact hcB) (by rw [o93, o94]; exact hHA) (by rw [o93, o94]; exact hHB) (D1 ++ [ze_rw A1 t]) D3 (by rw [g1, List.append_assoc]; rfl) t ht (by rw [List.getLast?_append]; simp [ze_rw, o93, o94, h3, h4])) (kv_M_84 (ze_rml (by decide) (by decide))) (by decide) ze_E_m rfl (Nat.le_of_ble_eq_true rfl) ⟨Nat.le_of_ble_eq_true rfl, Nat.le_of_ble_eq_true rfl⟩ d_M_combine_190 ?_
                          rintro _ _ _ _ ⟨rfl, rfl, _, rfl, v1, rfl, rfl, hnx⟩
                          refine ze_norm (c2 := 0) (s2 := 0) (st' := [.int v1]) rfl rfl rfl ?_
                          refine ze_istore (lv' := [(6, .int v1), (10, .int (nI c)), (9, .int (nI (ze_tm kd (A.count (A1 3 t, A1 4 t)) (B.count (A1 3 t, A1 4 t))))), (0, .ref (ad 39)), (1, .int (nI kd)), (2, .int (nI ja)), (3, .int (nI jb)), (4, .int (nI ji))]) C d_M_combine_193 (by decide) rfl ?_
                          refine ze_goto 41 C d_M_combine_195 (by decide) ?_
                          refine ze_sub [(6, .int v1), (0, .ref (ad 39)), (1, .int (nI kd)), (2, .int (nI ja)), (3, .int (nI jb)), (4, .int (nI ji))] [0, 3, 4, 5, 6, 7] rfl ?_
                          exact ih D3.length (by simp at hr; omega) (D1 ++ [ze_rw A1 t]) D3 v1 m2 A2 rfl (by rw [g1, List.append_assoc]; rfl) hnx o9 (by rw [ze_fm_snoc, ze_F, ← hce]; exact k3)
                        · refine ze_aload_n C d_M_combine_161 3 rfl rfl ?_
                          refine ze_aload_n C d_M_combine_162 3 rfl rfl ?_
                          refine ze_getf (k := 39) C fl_M_19 (by decide) ze_E_m rfl d_M_combine_163 ?_
                          refine ze_iload C d_M_combine_166 2 rfl ?_
                          refine ze_iald (k := 40 + 3) (i := t) C (by decide) (ze_E_a (j := 3)) (by show _ < 480; omega) (by decide) d_M_combine_168 ?_
                          refine ze_aload_n C d_M_combine_169 3 rfl rfl ?_
                          refine ze_getf (k := 39) C fl_M_22 (by decide) ze_E_m rfl d_M_combine_170 ?_
                          refine ze_iload C d_M_combine_173 2 rfl ?_
                          refine ze_iald (k := 40 + 4) (i := t) C (by decide) (ze_E_a (j := 4)) (by show _ < 480; omega) (by decide) d_M_combine_175 ?_
                          refine ze_callV (st := []) C (c_M_make (ze_l G) (ze_D G) (ze_i G) ad x M mv inp.length m2 0 le A2 (D1.flatMap (ze_F kd A B) ++ List.replicate c (A1 3 t, A1 4 t)) k3 (by simp at hul; omega) (A2 3 t) (A2 4 t)) (kv_M_80 (ze_rml (by decide) (by decide))) (by decide) ze_E_m rfl (Nat.le_of_ble_eq_true rfl) ⟨Nat.le_of_ble_eq_true rfl, Nat.le_of_ble_eq_true rfl⟩ d_M_combine_176 ?_
                          rintro _ _ _ _ ⟨rfl, rfl, _, rfl, rfl, A3, rfl, hk3, oA3⟩
                          refine ze_norm (c2 := 0) (s2 := 0) (st' := []) rfl rfl rfl ?_
                          refine ze_iinc (j := 0) (v := nI (c + 1)) (lv' := [(10, .int (nI (c + 1))), (9, .int (nI (ze_tm kd (A.count (A1 3 t, A1 4 t)) (B.count (A1 3 t, A1 4 t))))), (6, .int (nI t)), (0, .ref (ad 39)), (1, .int (nI kd)), (2, .int (nI ja)), (3, .int (nI jb)), (4, .int (nI ji))]) C d_M_combine_179 rfl (nI_1 _) (by decide) rfl ?_
                          refine ze_goto 154 C d_M_combine_182 (by decide) ?_
                          refine ze_sub [(10, .int (nI (c + 1))), (9, .int (nI (ze_tm kd (A.count (A1 3 t, A1 4 t)) (B.count (A1 3 t, A1 4 t))))), (6, .int (nI t)), (0, .ref (ad 39)), (1, .int (nI kd)), (2, .int (nI ja)), (3, .int (nI jb)), (4, .int (nI ji))] [0, 1, 2, 3, 4, 5, 6, 7] rfl ?_
                          exact ih2 (ze_tm kd (A.count (A1 3 t, A1 4 t)) (B.count (A1 3 t, A1 4 t)) - (c + 1)) (by omega) (c + 1) (m2 + 1) A3 rfl (by omega) (fun z z1 z2 => (oA3 z z1 z2).trans (k2 z z1 z2)) (by rw [List.replicate_succ', ← List.append_assoc]; rw [k2 3 (by decide) (by decide), k2 4 (by decide) (by decide)] at hk3; exact hk3)
                    refine ze_sub [(10, .int (nI 0)), (9, .int (nI (ze_tm kd (A.count (A1 3 t, A1 4 t)) (B.count (A1 3 t, A1 4 t))))), (6, .int (nI t)), (0, .ref (ad 39)), (1, .int (nI kd)), (2, .int (nI ja)), (3, .int (nI jb)), (4, .int (nI ji))] [0, 1, 2, 3, 4, 5, 6, 7] rfl ?_
                    exact inner _ 0 m1 A1 rfl (Nat.zero_le _) (fun _ _ _ => rfl) (by rw [List.replicate_zero, List.append_nil]; exact g4)
              · have hk0 : kd = 0 := h89
                refine ze_iload C d_M_combine_92 1 rfl ?_
                refine ze_iload C d_M_combine_94 0 rfl ?_
                refine ze_icmp_leN 104 C d_M_combine_96 (by decide) (by omega) (by omega) (fun h96 => ?_) (fun h96 => ?_)
                · refine ze_iload C d_M_combine_104 0 rfl ?_
                  refine ze_goto 149 C d_M_combine_106 (by decide) ?_
                  refine ze_sub [(6, .int (nI t)), (0, .ref (ad 39)), (1, .int (nI kd)), (2, .int (nI ja)), (3, .int (nI jb)), (4, .int (nI ji))] [2, 3, 4, 5, 6, 7] rfl ?_
                  have htm : B.count (A1 3 t, A1 4 t) = ze_tm kd (A.count (A1 3 t, A1 4 t)) (B.count (A1 3 t, A1 4 t)) := by unfold ze_tm; rw [if_pos hk0]; omega
                  rw [htm]
                  refine ze_istore (lv' := [(9, .int (nI (ze_tm kd (A.count (A1 3 t, A1 4 t)) (B.count (A1 3 t, A1 4 t))))), (6, .int (nI t)), (0, .ref (ad 39)), (1, .int (nI kd)), (2, .int (nI ja)), (3, .int (nI jb)), (4, .int (nI ji))]) C d_M_combine_149 (by decide) rfl ?_
                  refine ze_iconst (v := nI 0) C d_M_combine_151 (by decide) ?_
                  refine ze_istore (lv' := [(10, .int (nI 0)), (9, .int (nI (ze_tm kd (A.count (A1 3 t, A1 4 t)) (B.count (A1 3 t, A1 4 t))))), (6, .int (nI t)), (0, .ref (ad 39)), (1, .int (nI kd)), (2, .int (nI ja)), (3, .int (nI jb)), (4, .int (nI ji))]) C d_M_combine_152 (by decide) rfl ?_
                  have htl : ze_tm kd (A.count (A1 3 t, A1 4 t)) (B.count (A1 3 t, A1 4 t)) ≤ 120 := Nat.le_trans ze_tm_le (by omega)
                  have inner : ∀ (r2 : Nat) (c m2 : Nat) (A2 : Nat → Nat → Int32), ze_tm kd (A.count (A1 3 t, A1 4 t)) (B.count (A1 3 t, A1 4 t)) - c = r2 → c ≤ ze_tm kd (A.count (A1 3 t, A1 4 t)) (B.count (A1 3 t, A1 4 t)) → (∀ z, z ≠ 5 → z ≠ 6 → A2 z = A1 z) → ze_Mk A2 m2 (D1.flatMap (ze_F kd A B) ++ List.replicate c (A1 3 t, A1 4 t)) → ze_V G 48 ad (ze_E (ze_i G) ad x (M, mv, inp.length, m2, 0, le, A2)) 0 0 154 [(10, .int (nI c)), (9, .int (nI (ze_tm kd (A.count (A1 3 t, A1 4 t)) (B.count (A1 3 t, A1 4 t))))), (6, .int (nI t)), (0, .ref (ad 39)), (1, .int (nI kd)), (2, .int (nI ja)), (3, .int (nI jb)), (4, .int (nI ji))] [] := by
                    intro r2
                    induction r2 using Nat.strongRecOn with
                    | ind r2 ih2 =>
                      intro c m2 A2 hr2 k1 k2 k3
                      have hm2 := k3.1
                      rw [List.length_append, List.length_replicate] at hm2
                      refine ze_iload C d_M_combine_154 0 rfl ?_
                      refine ze_iload C d_M_combine_156 1 rfl ?_
                      refine ze_icmp_geN 185 C d_M_combine_158 (by decide) (by omega) (by omega) (fun h158 => ?_) (fun h158 => ?_)
                      · have hce : c = ze_tm kd (A.count (A1 3 t, A1 4 t)) (B.count (A1 3 t, A1 4 t)) := by omega
                        refine ze_aload_n C d_M_combine_185 3 rfl rfl ?_
                        refine ze_iload_n C d_M_combine_186 5 rfl rfl ?_
                        refine ze_iload_n C d_M_combine_187 6 rfl rfl ?_
                        refine ze_iload C d_M_combine_188 2 rfl ?_
                        have o9 : ∀ z, z ≠ 5 → z ≠ 6 → A2 z = Ar z := (fun z z1 z2 => (k2 z z1 z2).trans (g3 z z1 z2))
                        have o93 := o9 3 (by decide) (by decide)
                        have o94 := o9 4 (by decide) (by decide)
                        refine ze_callV (st := []) C (c_M_next_1 (ze_l G) (ze_D G) (ze_i G) ad x M mv inp.length m2 0 le A2 A B ja jb hja hjb hA60 hB60 (by rw [o9 2 (by decide) (by decide)]; exact hcA) (by rw [o9 2 (by decide) (by decide)]; exact hcB) (by rw [o93, o94]; exact hHA) (by rw [o93, o94]; exact hHB) (D1 ++ [ze_rw A1 t]) D3 (by rw [g1, List.append_assoc]; rfl) t ht (by rw [List.getLast?_append]; simp [ze_rw, o93, o94, h3, h4])) (kv_M_84 (ze_rml (by decide) (by decide))) (by decide) ze_E_m rfl (Nat.le_of_ble_eq_true rfl) ⟨Nat.le_of_ble_eq_true rfl, Nat.le_of_ble_eq_true rfl⟩ d_M_combine_190 ?_
                        rintro _ _ _ _ ⟨rfl, rfl, _, rfl, v1, rfl, rfl, hnx⟩
                        refine ze_norm (c2 := 0) (s2 := 0) (st' := [.int v1]) rfl rfl rfl ?_
                        refine ze_istore (lv' := [(6, .int v1), (10, .int (nI c)), (9, .int (nI (ze_tm kd (A.count (A1 3 t, A1 4 t)) (B.count (A1 3 t, A1 4 t))))), (0, .ref (ad 39)), (1, .int (nI kd)), (2, .int (nI ja)), (3, .int (nI jb)), (4, .int (nI ji))]) C d_M_combine_193 (by decide) rfl ?_
                        refine ze_goto 41 C d_M_combine_195 (by decide) ?_
                        refine ze_sub [(6, .int v1), (0, .ref (ad 39)), (1, .int (nI kd)), (2, .int (nI ja)), (3, .int (nI jb)), (4, .int (nI ji))] [0, 3, 4, 5, 6, 7] rfl ?_
                        exact ih D3.length (by simp at hr; omega) (D1 ++ [ze_rw A1 t]) D3 v1 m2 A2 rfl (by rw [g1, List.append_assoc]; rfl) hnx o9 (by rw [ze_fm_snoc, ze_F, ← hce]; exact k3)
                      · refine ze_aload_n C d_M_combine_161 3 rfl rfl ?_
                        refine ze_aload_n C d_M_combine_162 3 rfl rfl ?_
                        refine ze_getf (k := 39) C fl_M_19 (by decide) ze_E_m rfl d_M_combine_163 ?_
                        refine ze_iload C d_M_combine_166 2 rfl ?_
                        refine ze_iald (k := 40 + 3) (i := t) C (by decide) (ze_E_a (j := 3)) (by show _ < 480; omega) (by decide) d_M_combine_168 ?_
                        refine ze_aload_n C d_M_combine_169 3 rfl rfl ?_
                        refine ze_getf (k := 39) C fl_M_22 (by decide) ze_E_m rfl d_M_combine_170 ?_
                        refine ze_iload C d_M_combine_173 2 rfl ?_
                        refine ze_iald (k := 40 + 4) (i := t) C (by decide) (ze_E_a (j := 4)) (by show _ < 480; omega) (by decide) d_M_combine_175 ?_
                        refine ze_callV (st := []) C (c_M_make (ze_l G) (ze_D G) (ze_i G) ad x M mv inp.length m2 0 le A2 (D1.flatMap (ze_F kd A B) ++ List.replicate c (A1 3 t, A1 4 t)) k3 (by simp at hul; omega) (A2 3 t) (A2 4 t)) (kv_M_80 (ze_rml (by decide) (by decide))) (by decide) ze_E_m rfl (Nat.le_of_ble_eq_true rfl) ⟨Nat.le_of_ble_eq_true rfl, Nat.le_of_ble_eq_true rfl⟩ d_M_combine_176 ?_
                        rintro _ _ _ _ ⟨rfl, rfl, _, rfl, rfl, A3, rfl, hk3, oA3⟩
                        refine ze_norm (c2 := 0) (s2 := 0) (st' := []) rfl rfl rfl ?_
                        refine ze_iinc (j := 0) (v := nI (c + 1)) (lv' := [(10, .int (nI (c + 1))), (9, .int (nI (ze_tm kd (A.count (A1 3 t, A1 4 t)) (B.count (A1 3 t, A1 4 t))))), (6, .int (nI t)), (0, .ref (ad 39)), (1, .int (nI kd)), (2, .int (nI ja)), (3, .int (nI jb)), (4, .int (nI ji))]) C d_M_combine_179 rfl (nI_1 _) (by decide) rfl ?_
                        refine ze_goto 154 C d_M_combine_182 (by decide) ?_
                        refine ze_sub [(10, .int (nI (c + 1))), (9, .int (nI (ze_tm kd (A.count (A1 3 t, A1 4 t)) (B.count (A1 3 t, A1 4 t))))), (6, .int (nI t)), (0, .ref (ad 39)), (1, .int (nI kd)), (2, .int (nI ja)), (3, .int (nI jb)), (4, .int (nI ji))] [0, 1, 2, 3, 4, 5, 6, 7] rfl ?_
                        exact ih2 (ze_tm kd (A.count (A1 3 t, A1 4 t)) (B.count (A1 3 t, A1 4 t)) - (c + 1)) (by omega) (c + 1) (m2 + 1) A3 rfl (by omega) (fun z z1 z2 => (oA3 z z1 z2).trans (k2 z z1 z2)) (by rw [List.replicate_succ', ← List.append_assoc]; rw [k2 3 (by decide) (by decide), k2 4 (by decide) (by decide)] at hk3; exact hk3)
                  refine ze_sub [(10, .int (nI 0)), (9, .int (nI (ze_tm kd (A.count (A1 3 t, A1 4 t)) (B.count (A1 3 t, A1 4 t))))), (6, .int (nI t)), (0, .ref (ad 39)), (1, .int (nI kd)), (2, .int (nI ja)), (3, .int (nI jb)), (4, .int (nI ji))] [0, 1, 2, 3, 4, 5, 6, 7] rfl ?_
                  exact inner _ 0 m1 A1 rfl (Nat.zero_le _) (fun _ _ _ => rfl) (by rw [List.replicate_zero, List.append_nil]; exact g4)
                · refine ze_iload C d_M_combine_99 1 rfl ?_
                  refine ze_goto 149 C d_M_combine_101 (by decide) ?_
                  refine ze_sub [(6, .int (nI t)), (0, .ref (ad 39)), (1, .int (nI kd)), (2, .int (nI ja)), (3, .int (nI jb)), (4, .int (nI ji))] [2, 3, 4, 5, 6, 7] rfl ?_
                  have htm : A.count (A1 3 t, A1 4 t) = ze_tm kd (A.count (A1 3 t, A1 4 t)) (B.count (A1 3 t, A1 4 t)) := by unfold ze_tm; rw [if_pos hk0]; omega
                  rw [htm]
                  refine ze_istore (lv' := [(9, .int (nI (ze_tm kd (A.count (A1 3 t, A1 4 t)) (B.count (A1 3 t, A1 4 t))))), (6, .int (nI t)), (0, .ref (ad 39)), (1, .int (nI kd)), (2, .int (nI ja)), (3, .int (nI jb)), (4, .int (nI ji))]) C d_M_combine_149 (by decide) rfl ?_
                  refine ze_iconst (v := nI 0) C d_M_combine_151 (by decide) ?_
                  refine ze_istore (lv' := [(10, .int (nI 0)), (9, .int (nI (ze_tm kd (A.count (A1 3 t, A1 4 t)) (B.count (A1 3 t, A1 4 t))))), (6, .int (nI t)), (0, .ref (ad 39)), (1, .int (nI kd)), (2, .int (nI ja)), (3, .int (nI jb)), (4, .int (nI ji))]) C d_M_combine_152 (by decide) rfl ?_
                  have htl : ze_tm kd (A.count (A1 3 t, A1 4 t)) (B.count (A1 3 t, A1 4 t)) ≤ 120 := Nat.le_trans ze_tm_le (by omega)
                  have inner : ∀ (r2 : Nat) (c m2 : Nat) (A2 : Nat → Nat → Int32), ze_tm kd (A.count (A1 3 t, A1 4 t)) (B.count (A1 3 t, A1 4 t)) - c = r2 → c ≤ ze_tm kd (A.count (A1 3 t, A1 4 t)) (B.count (A1 3 t, A1 4 t)) → (∀ z, z ≠ 5 → z ≠ 6 → A2 z = A1 z) → ze_Mk A2 m2 (D1.flatMap (ze_F kd A B) ++ List.replicate c (A1 3 t, A1 4 t)) → ze_V G 48 ad (ze_E (ze_i G) ad x (M, mv, inp.length, m2, 0, le, A2)) 0 0 154 [(10, .int (nI c)), (9, .int (nI (ze_tm kd (A.count (A1 3 t, A1 4 t)) (B.count (A1 3 t, A1 4 t))))), (6, .int (nI t)), (0, .ref (ad 39)), (1, .int (nI kd)), (2, .int (nI ja)), (3, .int (nI jb)), (4, .int (nI ji))] [] := by
                    intro r2
                    induction r2 using Nat.strongRecOn with
                    | ind r2 ih2 =>
                      intro c m2 A2 hr2 k1 k2 k3
                      have hm2 := k3.1
                      rw [List.length_append, List.length_replicate] at hm2
                      refine ze_iload C d_M_combine_154 0 rfl ?_
                      refine ze_iload C d_M_combine_156 1 rfl ?_
                      refine ze_icmp_geN 185 C d_M_combine_158 (by decide) (by omega) (by omega) (fun h158 => ?_) (fun h158 => ?_)
                      · have hce : c = ze_tm kd (A.count (A1 3 t, A1 4 t)) (B.count (A1 3 t, A1 4 t)) := by omega
                        refine ze_aload_n C d_M_combine_185 3 rfl rfl ?_
                        refine ze_iload_n C d_M_combine_186 5 rfl rfl ?_
                        refine ze_iload_n C d_M_combine_187 6 rfl rfl ?_
                        refine ze_iload C d_M_combine_188 2 rfl ?_
                        have o9 : ∀ z, z ≠ 5 → z ≠ 6 → A2 z = Ar z := (fun z z1 z2 => (k2 z z1 z2).trans (g3 z z1 z2))
                        have o93 := o9 3 (by decide) (by decide)
                        have o94 := o9 4 (by decide) (by decide)
                        refine ze_callV (st := []) C (c_M_next_1 (ze_l G) (ze_D G) (ze_i G) ad x M mv inp.length m2 0 le A2 A B ja jb hja hjb hA60 hB60 (by rw [o9 2 (by decide) (by decide)]; exact hcA) (by rw [o9 2 (by decide) (by decide)]; exact hcB) (by rw [o93, o94]; exact hHA) (by rw [o93, o94]; exact hHB) (D1 ++ [ze_rw A1 t]) D3 (by rw [g1, List.append_assoc]; rfl) t ht (by rw [List.getLast?_append]; simp [ze_rw, o93, o94, h3, h4])) (kv_M_84 (ze_rml (by decide) (by decide))) (by decide) ze_E_m rfl (Nat.le_of_ble_eq_true rfl) ⟨Nat.le_of_ble_eq_true rfl, Nat.le_of_ble_eq_true rfl⟩ d_M_combine_190 ?_
                        rintro _ _ _ _ ⟨rfl, rfl, _, rfl, v1, rfl, rfl, hnx⟩
                        refine ze_norm (c2 := 0) (s2 := 0) (st' := [.int v1]) rfl rfl rfl ?_
                        refine ze_istore (lv' := [(6, .int v1), (10, .int (nI c)), (9, .int (nI (ze_tm kd (A.count (A1 3 t, A1 4 t)) (B.count (A1 3 t, A1 4 t))))), (0, .ref (ad 39)), (1, .int (nI kd)), (2, .int (nI ja)), (3, .int (nI jb)), (4, .int (nI ji))]) C d_M_combine_193 (by decide) rfl ?_
                        refine ze_goto 41 C d_M_combine_195 (by decide) ?_
                        refine ze_sub [(6, .int v1), (0, .ref (ad 39)), (1, .int (nI kd)), (2, .int (nI ja)), (3, .int (nI jb)), (4, .int (nI ji))] [0, 3, 4, 5, 6, 7] rfl ?_
                        exact ih D3.length (by simp at hr; omega) (D1 ++ [ze_rw A1 t]) D3 v1 m2 A2 rfl (by rw [g1, List.append_assoc]; rfl) hnx o9 (by rw [ze_fm_snoc, ze_F, ← hce]; exact k3)
                      · refine ze_aload_n C d_M_combine_161 3 rfl rfl ?_
                        refine ze_aload_n C d_M_combine_162 3 rfl rfl ?_
                        refine ze_getf (k := 39) C fl_M_19 (by decide) ze_E_m rfl d_M_combine_163 ?_
                        refine ze_iload C d_M_combine_166 2 rfl ?_
                        refine ze_iald (k := 40 + 3) (i := t) C (by decide) (ze_E_a (j := 3)) (by show _ < 480; omega) (by decide) d_M_combine_168 ?_
                        refine ze_aload_n C d_M_combine_169 3 rfl rfl ?_
                        refine ze_getf (k := 39) C fl_M_22 (by decide) ze_E_m rfl d_M_combine_170 ?_
                        refine ze_iload C d_M_combine_173 2 rfl ?_
                        refine ze_iald (k := 40 + 4) (i := t) C (by decide) (ze_E_a (j := 4)) (by show _ < 480; omega) (by decide) d_M_combine_175 ?_
                        refine ze_callV (st := []) C (c_M_make (ze_l G) (ze_D G) (ze_i G) ad x M mv inp.length m2 0 le A2 (D1.flatMap (ze_F kd A B) ++ List.replicate c (A1 3 t, A1 4 t)) k3 (by simp at hul; omega) (A2 3 t) (A2 4 t)) (kv_M_80 (ze_rml (by decide) (by decide))) (by decide) ze_E_m rfl (Nat.le_of_ble_eq_true rfl) ⟨Nat.le_of_ble_eq_true rfl, Nat.le_of_ble_eq_true rfl⟩ d_M_combine_176 ?_
                        rintro _ _ _ _ ⟨rfl, rfl, _, rfl, rfl, A3, rfl, hk3, oA3⟩
                        refine ze_norm (c2 := 0) (s2 := 0) (st' := []) rfl rfl rfl ?_
                        refine ze_iinc (j := 0) (v := nI (c + 1)) (lv' := [(10, .int (nI (c + 1))), (9, .int (nI (ze_tm kd (A.count (A1 3 t, A1 4 t)) (B.count (A1 3 t, A1 4 t))))), (6, .int (nI t)), (0, .ref (ad 39)), (1, .int (nI kd)), (2, .int (nI ja)), (3, .int (nI jb)), (4, .int (nI ji))]) C d_M_combine_179 rfl (nI_1 _) (by decide) rfl ?_
                        refine ze_goto 154 C d_M_combine_182 (by decide) ?_
                        refine ze_sub [(10, .int (nI (c + 1))), (9, .int (nI (ze_tm kd (A.count (A1 3 t, A1 4 t)) (B.count (A1 3 t, A1 4 t))))), (6, .int (nI t)), (0, .ref (ad 39)), (1, .int (nI kd)), (2, .int (nI ja)), (3, .int (nI jb)), (4, .int (nI ji))] [0, 1, 2, 3, 4, 5, 6, 7] rfl ?_
                        exact ih2 (ze_tm kd (A.count (A1 3 t, A1 4 t)) (B.count (A1 3 t, A1 4 t)) - (c + 1)) (by omega) (c + 1) (m2 + 1) A3 rfl (by omega) (fun z z1 z2 => (oA3 z z1 z2).trans (k2 z z1 z2)) (by rw [List.replicate_succ', ← List.append_assoc]; rw [k2 3 (by decide) (by decide), k2 4 (by decide) (by decide)] at hk3; exact hk3)
                  refine ze_sub [(10, .int (nI 0)), (9, .int (nI (ze_tm kd (A.count (A1 3 t, A1 4 t)) (B.count (A1 3 t, A1 4 t))))), (6, .int (nI t)), (0, .ref (ad 39)), (1, .int (nI kd)), (2, .int (nI ja)), (3, .int (nI jb)), (4, .int (nI ji))] [0, 1, 2, 3, 4, 5, 6, 7] rfl ?_
                  exact inner _ 0 m1 A1 rfl (Nat.zero_le _) (fun _ _ _ => rfl) (by rw [List.replicate_zero, List.append_nil]; exact g4)
        exact loop _ [] (ze_un A B) v1 0 Ar rfl rfl hnx (fun _ _ _ => rfl) ze_Mk_0
      · refine ze_iload C d_M_combine_29 0 rfl ?_
        exact ze_iret C Rt d_M_combine_31 (⟨rfl, rfl, _, rfl, by rw [hsp0, ze_rfs_ne (σ := (inp, sl, mv, M)) h26], by rw [hsp0, ze_rfs_ne (σ := (inp, sl, mv, M)) h26]; exact ⟨ma1, co1, le, Ar, rfl, hR, hM.1, hM.2⟩⟩)
