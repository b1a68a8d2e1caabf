theorem ze_A34 {Ar A1 A2 A3 : Nat → Nat → Int32} {L : List ze_Row} {b p s1 s2 : Nat} {f g : Nat → Int32} (h : ze_Hl (A1 3) (A1 4) b (L.take p)) (hf : ze_Hl f g 0 L) (hp : p < L.length) (e2 : A2 = va_up A1 3 (upd (A1 3) (b + p) (f p))) (e3 : A3 = va_up A2 4 (upd (A2 4) (b + p) (g p))) : ze_Hl (A3 3) (A3 4) b (L.take (p + 1)) ∧ (∀ q, q ≠ b + p → A3 3 q = A1 3 q ∧ A3 4 q = A1 4 q) ∧ (∀ z, z ≠ 3 → z ≠ 4 → A3 z = A1 z) := by
  have a3 : A3 3 = upd (A1 3) (b + p) (f p) := by rw [ze_ao e3 3 (by decide), ze_au e2]
  have a4 : A3 4 = upd (A1 4) (b + p) (g p) := by rw [ze_au e3, ze_ao e2 4 (by decide)]
  refine ⟨?_, fun q hq => ?_, fun z z1 z2 => (ze_ao e3 z z2).trans (ze_ao e2 z z1)⟩
  · have ht := ze_Hl_take hf hp
    rw [Nat.zero_add] at ht
    rw [ht, a3, a4]
    have h2 := ze_Hl_snoc (r := (f p, g p)) h
    rw [List.length_take, Nat.min_eq_left (by omega)] at h2
    exact h2
  · rw [a3, a4]
    exact ⟨pk_un hq, pk_un hq⟩

set_option maxRecDepth 100000 in
set_option maxHeartbeats 4000000 in
theorem c_M_finish (l : Launch) (D : va_G) (ids : Nat → ClassId) (ad : Nat → Nat) (x : ze_XS) (M : Nat) (mv : Int64) (ty ma co le : Nat) (Ar : Nat → Nat → Int32) (inp : List ze_Row) (sl : Nat → Option (List ze_Row)) (hR : ze_rA Ar inp sl) (hM : 3 ≤ M ∧ M ≤ 6) (j : Nat) (hj : j < 8) (hty : ty = inp.length) (q : List ze_Row × Nat) (hk : ze_Mk Ar ma q.1) (hco : ¬ 60 < q.1.length → co = q.2) (hma : ma < 100000) : ze_MM l D ids ad x y_M_finish ws_M_finish 3 (M, mv, ty, ma, co, le, Ar) [.ref (ad 39), .int (nI j)] (fun v ms' => v = some (.int (sp_fin (inp, sl, mv, M) j q).1) ∧ ze_rM ms' (sp_fin (inp, sl, mv, M) j q).2) := by
  refine ze_enter (cc := b_M_finish) (maxL := 3) (ret := (some .int)) (by decide +kernel) rfl (Nat.le_of_ble_eq_true rfl) ?_
  rintro G rfl rfl rfl - C Rt
  refine ze_lv (lv' := [(0, .ref (ad 39)), (1, .int (nI j))]) rfl ?_
  have hk1 := hk.1
  have hin := hR.1
  refine ze_aload_n C d_M_finish_0 0 rfl rfl ?_
  refine ze_getf (k := 39) C fl_M_55 (by decide) ze_E_m rfl d_M_finish_1 ?_
  refine ze_bipush (v := nI 60) C d_M_finish_4 (by decide) ?_
  refine ze_icmp_leN 12 C d_M_finish_6 (by decide) (by omega) (by omega) (fun h6 => ?_) (fun h6 => ?_)
  · have h60 : ¬ 60 < q.1.length := by omega
    refine ze_iconst (v := nI 0) C d_M_finish_12 (by decide) ?_
    refine ze_istore_n (lv' := [(2, .int (nI 0)), (0, .ref (ad 39)), (1, .int (nI j))]) C d_M_finish_13 rfl (by decide) rfl ?_
    have hS0 : ze_Hl (Ar 5) (Ar 6) 0 q.1 := by have := hk.2; rw [List.take_of_length_le (by omega)] at this; exact this
    have loop : ∀ (r : Nat) (p : Nat) (A1 : Nat → Nat → Int32), q.1.length - p = r → p ≤ q.1.length → (∀ z, z ≠ 3 → z ≠ 4 → A1 z = Ar z) → ze_Hl (A1 3) (A1 4) (60 * j) (q.1.take p) → (∀ q, q < 60 * j ∨ 60 * j + 60 ≤ q → A1 3 q = Ar 3 q ∧ A1 4 q = Ar 4 q) → ze_V G 48 ad (ze_E (ze_i G) ad x (M, mv, ty, ma, co, le, A1)) 0 0 14 [(2, .int (nI p)), (0, .ref (ad 39)), (1, .int (nI j))] [] := by
      intro r
      induction r using Nat.strongRecOn with
      | ind r ih =>
        intro p A1 hr g1 g2 g3 g4
        have hS1 : ze_Hl (A1 5) (A1 6) 0 q.1 := by rw [g2 5 (by decide) (by decide), g2 6 (by decide) (by decide)]; exact hS0
        refine ze_iload_n C d_M_finish_14 0 rfl rfl ?_
        refine ze_aload_n C d_M_finish_15 1 rfl rfl ?_
        refine ze_getf (k := 39) C fl_M_55 (by decide) ze_E_m rfl d_M_finish_16 ?_
        refine ze_icmp_geN 62 C d_M_finish_19 (by decide) (by omega) (by omega) (fun h19 => ?_) (fun h19 => ?_)
        · rw [List.take_of_length_le (by omega)] at g3
          refine ze_aload_n C d_M_finish_62 1 rfl rfl ?_
          refine ze_getf (k := 39) C fl_M_16 (by decide) ze_E_m rfl d_M_finish_63 ?_
          refine ze_iload_n C d_M_finish_66 2 rfl rfl ?_
          refine ze_aload_n C d_M_finish_67 1 rfl rfl ?_
          refine ze_getf (k := 39) C fl_M_55 (by decide) ze_E_m rfl d_M_finish_68 ?_
          refine ze_iast (k := 40 + 2) (i := j) C (by decide) (ze_E_a (j := 2)) (by show _ < 8; omega) (by decide) d_M_finish_71 ?_
          refine ze_eqE (ze_up_a (j := 2)) ?_
          refine ze_genA (fun A4 eA4 => ?_)
          refine ze_aload_n C d_M_finish_72 1 rfl rfl ?_
          refine ze_aload_n C d_M_finish_73 1 rfl rfl ?_
          refine ze_getf (k := 39) C fl_M_51 (by decide) ze_E_m rfl d_M_finish_74 ?_
          refine ze_aload_n C d_M_finish_77 1 rfl rfl ?_
          refine ze_getf (k := 39) C fl_M_58 (by decide) ze_E_m rfl d_M_finish_78 ?_
          refine ze_ladd C d_M_finish_81 ?_
          refine ze_putf (k := 39) C fp_M_51 (by decide) ze_E_m rfl rfl (Nat.le_of_ble_eq_true rfl) d_M_finish_82 ?_
          refine ze_eqE (ze_up_m (ms' := (M, mv + (lN co), ty, ma, co, le, A4)) rfl rfl) ?_
          refine ze_aload_n C d_M_finish_85 1 rfl rfl ?_
          refine ze_getf (k := 39) C fl_M_55 (by decide) ze_E_m rfl d_M_finish_86 ?_
          exact ze_iret C Rt d_M_finish_89 (⟨rfl, rfl, _, rfl, by rw [sp_fin, if_neg h60, ← hk1], by rw [sp_fin, if_neg h60, ← hco h60]; exact ⟨ma, co, le, A4, by rw [← hty], ze_rA_set hR hj (L := q.1) (by omega) (by rw [ze_ao eA4 0 (by decide)]; exact g2 0 (by decide) (by decide)) (by rw [ze_ao eA4 1 (by decide)]; exact g2 1 (by decide) (by decide)) (by rw [ze_au eA4, g2 2 (by decide) (by decide), hk1]) (by rw [ze_ao eA4 3 (by decide), ze_ao eA4 4 (by decide)]; exact g3) (by rw [ze_ao eA4 3 (by decide), ze_ao eA4 4 (by decide)]; exact g4), hM.1, hM.2⟩⟩)
        · refine ze_aload_n C d_M_finish_22 1 rfl rfl ?_
          refine ze_getf (k := 39) C fl_M_19 (by decide) ze_E_m rfl d_M_finish_23 ?_
          refine ze_bipush (v := nI 60) C d_M_finish_26 (by decide) ?_
          refine ze_iload_n C d_M_finish_28 2 rfl rfl ?_
          refine ze_imulN C d_M_finish_29 ?_
          refine ze_iload_n C d_M_finish_30 0 rfl rfl ?_
          refine ze_iaddN C d_M_finish_31 ?_
          refine ze_aload_n C d_M_finish_32 1 rfl rfl ?_
          refine ze_getf (k := 39) C fl_M_25 (by decide) ze_E_m rfl d_M_finish_33 ?_
          refine ze_iload_n C d_M_finish_36 0 rfl rfl ?_
          refine ze_iald (k := 40 + 5) (i := p) C (by decide) (ze_E_a (j := 5)) (by show _ < 60; omega) (by decide) d_M_finish_37 ?_
          refine ze_iast (k := 40 + 3) (i := 60 * j + p) C (by decide) (ze_E_a (j := 3)) (by show _ < 480; omega) (by decide) d_M_finish_38 ?_
          refine ze_eqE (ze_up_a (j := 3)) ?_
          refine ze_genA (fun A2 eA2 => ?_)
          refine ze_aload_n C d_M_finish_39 1 rfl rfl ?_
          refine ze_getf (k := 39) C fl_M_22 (by decide) ze_E_m rfl d_M_finish_40 ?_
          refine ze_bipush (v := nI 60) C d_M_finish_43 (by decide) ?_
          refine ze_iload_n C d_M_finish_45 2 rfl rfl ?_
          refine ze_imulN C d_M_finish_46 ?_
          refine ze_iload_n C d_M_finish_47 0 rfl rfl ?_
          refine ze_iaddN C d_M_finish_48 ?_
          refine ze_aload_n C d_M_finish_49 1 rfl rfl ?_
          refine ze_getf (k := 39) C fl_M_28 (by decide) ze_E_m rfl d_M_finish_50 ?_
          refine ze_iload_n C d_M_finish_53 0 rfl rfl ?_
          refine ze_iald (k := 40 + 6) (i := p) C (by decide) (ze_E_a (j := 6)) (by show _ < 60; omega) (by decide) d_M_finish_54 ?_
          rw [ze_ao eA2 6 (by decide)]
          refine ze_iast (k := 40 + 4) (i := 60 * j + p) C (by decide) (ze_E_a (j := 4)) (by show _ < 480; omega) (by decide) d_M_finish_55 ?_
          refine ze_eqE (ze_up_a (j := 4)) ?_
          refine ze_genA (fun A3 eA3 => ?_)
          refine ze_iinc (j := 0) (v := nI (p + 1)) (lv' := [(2, .int (nI (p + 1))), (0, .ref (ad 39)), (1, .int (nI j))]) C d_M_finish_56 rfl (nI_1 _) (by decide) rfl ?_
          refine ze_goto 14 C d_M_finish_59 (by decide) ?_
          refine ze_sub [(2, .int (nI (p + 1))), (0, .ref (ad 39)), (1, .int (nI j))] [0, 1, 2] rfl ?_
          obtain ⟨b1, b2, b3⟩ := ze_A34 (Ar := Ar) (s1 := 0) (s2 := 0) g3 hS1 (by omega) eA2 eA3
          exact ih (q.1.length - (p + 1)) (by omega) (p + 1) A3 rfl (by omega) (fun z z1 z2 => (b3 z z1 z2).trans (g2 z z1 z2)) b1 (fun q hq => ⟨((b2 q (by omega)).1).trans (g4 q hq).1, ((b2 q (by omega)).2).trans (g4 q hq).2⟩)
    refine ze_sub [(2, .int (nI 0)), (0, .ref (ad 39)), (1, .int (nI j))] [0, 1, 2] rfl ?_
    exact loop _ 0 Ar rfl (Nat.zero_le _) (fun _ _ _ => rfl) ze_Hl_nil (fun _ _ => ⟨rfl, rfl⟩)
  · refine ze_bipush (v := -4) C d_M_finish_9 (by decide) ?_
    exact ze_iret C Rt d_M_finish_11 (⟨rfl, rfl, _, rfl, by rw [sp_fin, if_pos (by omega)], by rw [sp_fin, if_pos (by omega)]; exact ⟨ma, co, le, Ar, by rw [← hty], hR, hM.1, hM.2⟩⟩)

set_option maxRecDepth 100000 in
set_option maxHeartbeats 4000000 in
theorem c_M_store (l : Launch) (D : va_G) (ids : Nat → ClassId) (ad : Nat → Nat) (x : ze_XS) (M : Nat) (mv : Int64) (ma co le : Nat) (Ar : Nat → Nat → Int32) (inp : List ze_Row) (sl : Nat → Option (List ze_Row)) (hR : ze_rA Ar inp sl) (hM : 3 ≤ M ∧ M ≤ 6) (into : Int32) : ze_MM l D ids ad x y_M_store ws_M_store 20 (M, mv, inp.length, ma, co, le, Ar) [.ref (ad 39), .int into] (fun v ms' => v = some (.int (sp_store (inp, sl, mv, M) into).1) ∧ ze_rM ms' (sp_store (inp, sl, mv, M) into).2) := by
  refine ze_enter (cc := b_M_store) (maxL := 3) (ret := (some .int)) (by decide +kernel) rfl (Nat.le_of_ble_eq_true rfl) ?_
  rintro G rfl rfl rfl - C Rt
  refine ze_lv (lv' := [(0, .ref (ad 39)), (1, .int into)]) rfl ?_
  have hin := hR.1
  refine ze_iload_n C d_M_store_0 1 rfl rfl ?_
  refine ze_callS (st := []) C (c_M_slot (ze_l G) (ze_D G) (ze_i G) _ _ _ into) (ks_M_47 (ze_rml (by decide) (by decide))) rfl (Nat.le_of_ble_eq_true rfl) ⟨Nat.le_of_ble_eq_true rfl, Nat.le_of_ble_eq_true rfl⟩ d_M_store_1 ?_
  rintro _ _ _ _ ⟨rfl, rfl, rfl, rfl⟩
  refine ze_norm (c2 := 0) (s2 := 0) (st' := [.int (ze_bi (ze_isS into))]) rfl rfl rfl ?_
  refine ze_if_ne 9 C d_M_store_4 (by decide) (fun h4 => ?_) (fun h4 => ?_)
  · obtain ⟨j, hj, rfl⟩ := ze_isS_nI (ze_bi1 h4)
    have hnj := ze_n_nI (j := j) (by omega)
    refine ze_aload_n C d_M_store_9 0 rfl rfl ?_
    refine ze_getf (k := 39) C fl_M_16 (by decide) ze_E_m rfl d_M_store_10 ?_
    refine ze_iload_n C d_M_store_13 1 rfl rfl ?_
    refine ze_iald (k := 40 + 2) (i := j) C (by decide) (ze_E_a (j := 2)) (by show _ < 8; omega) (by decide) d_M_store_14 ?_
    refine ze_if_lt 21 C d_M_store_15 (by decide) (fun h15 => ?_) (fun h15 => ?_)
    · have hoff := ze_rA_neg hR hj h15
      have hsp : sp_store (inp, sl, mv, M) (nI j) = (nI inp.length, ([], va_up sl j (some inp), mv + lN (ze_sz inp.length), M)) := by rw [sp_store, if_neg (by rw [ze_isS_j hj]; decide)]; simp only [hnj, hoff]
      refine ze_iconst (v := nI 0) C d_M_store_21 (by decide) ?_
      refine ze_istore_n (lv' := [(2, .int (nI 0)), (0, .ref (ad 39)), (1, .int (nI j))]) C d_M_store_22 rfl (by decide) rfl ?_
      have hS0 : ze_Hl (Ar 0) (Ar 1) 0 inp := hR.2.1
      have loop : ∀ (r : Nat) (p : Nat) (A1 : Nat → Nat → Int32), inp.length - p = r → p ≤ inp.length → (∀ z, z ≠ 3 → z ≠ 4 → A1 z = Ar z) → ze_Hl (A1 3) (A1 4) (60 * j) (inp.take p) → (∀ q, q < 60 * j ∨ 60 * j + 60 ≤ q → A1 3 q = Ar 3 q ∧ A1 4 q = Ar 4 q) → ze_V G 48 ad (ze_E (ze_i G) ad x (M, mv, inp.length, ma, co, le, A1)) 0 0 23 [(2, .int (nI p)), (0, .ref (ad 39)), (1, .int (nI j))] [] := by
        intro r
        induction r using Nat.strongRecOn with
        | ind r ih =>
          intro p A1 hr g1 g2 g3 g4
          have hS1 : ze_Hl (A1 0) (A1 1) 0 inp := by rw [g2 0 (by decide) (by decide), g2 1 (by decide) (by decide)]; exact hS0
          refine ze_iload_n C d_M_store_23 0 rfl rfl ?_
          refine ze_aload_n C d_M_store_24 1 rfl rfl ?_
          refine ze_getf (k := 39) C fl_M_44 (by decide) ze_E_m rfl d_M_store_25 ?_
          refine ze_icmp_geN 71 C d_M_store_28 (by decide) (by omega) (by omega) (fun h28 => ?_) (fun h28 => ?_)
          · rw [List.take_of_length_le (by omega)] at g3
            refine ze_aload_n C d_M_store_71 1 rfl rfl ?_
            refine ze_getf (k := 39) C fl_M_16 (by decide) ze_E_m rfl d_M_store_72 ?_
            refine ze_iload_n C d_M_store_75 2 rfl rfl ?_
            refine ze_aload_n C d_M_store_76 1 rfl rfl ?_
            refine ze_getf (k := 39) C fl_M_44 (by decide) ze_E_m rfl d_M_store_77 ?_
            refine ze_iast (k := 40 + 2) (i := j) C (by decide) (ze_E_a (j := 2)) (by show _ < 8; omega) (by decide) d_M_store_80 ?_
            refine ze_eqE (ze_up_a (j := 2)) ?_
            refine ze_genA (fun A4 eA4 => ?_)
            refine ze_aload_n C d_M_store_81 1 rfl rfl ?_
            refine ze_aload_n C d_M_store_82 1 rfl rfl ?_
            refine ze_getf (k := 39) C fl_M_51 (by decide) ze_E_m rfl d_M_store_83 ?_
            refine ze_aload_n C d_M_store_86 1 rfl rfl ?_
            refine ze_getf (k := 39) C fl_M_44 (by decide) ze_E_m rfl d_M_store_87 ?_
            refine ze_callS (st := [.long mv, .ref (ad 39)]) C (c_M_size (ze_l G) (ze_D G) (ze_i G) _ _ _ inp.length (by omega)) (ks_M_38 (ze_rml (by decide) (by decide))) rfl (Nat.le_of_ble_eq_true rfl) ⟨Nat.le_of_ble_eq_true rfl, Nat.le_of_ble_eq_true rfl⟩ d_M_store_90 ?_
            rintro _ _ _ _ ⟨rfl, rfl, rfl, rfl⟩
            refine ze_norm (c2 := 0) (s2 := 0) (st' := [.int (nI (ze_sz inp.length)), .long mv, .ref (ad 39)]) rfl rfl rfl ?_
            have hz90 := ze_sz_le inp.length
            refine ze_i2lN C d_M_store_93 (by omega) ?_
            refine ze_ladd C d_M_store_94 ?_
            refine ze_putf (k := 39) C fp_M_51 (by decide) ze_E_m rfl rfl (Nat.le_of_ble_eq_true rfl) d_M_store_95 ?_
            refine ze_eqE (ze_up_m (ms' := (M, mv + (lN (ze_sz inp.length)), inp.length, ma, co, le, A4)) rfl rfl) ?_
            refine ze_aload_n C d_M_store_98 1 rfl rfl ?_
            refine ze_iconst (v := nI 0) C d_M_store_99 (by decide) ?_
            refine ze_putf (k := 39) C fp_M_44 (by decide) ze_E_m rfl rfl (Nat.le_of_ble_eq_true rfl) d_M_store_100 ?_
            refine ze_eqE (ze_up_m (ms' := (M, mv + (lN (ze_sz inp.length)), 0, ma, co, le, A4)) rfl rfl) ?_
            refine ze_aload_n C d_M_store_103 1 rfl rfl ?_
            refine ze_getf (k := 39) C fl_M_16 (by decide) ze_E_m rfl d_M_store_104 ?_
            refine ze_iload_n C d_M_store_107 2 rfl rfl ?_
            refine ze_iald (k := 40 + 2) (i := j) C (by decide) (ze_E_a (j := 2)) (by show _ < 8; omega) (by decide) d_M_store_108 ?_
            exact ze_iret C Rt d_M_store_109 (⟨rfl, rfl, _, rfl, by rw [hsp, ze_au eA4, pk_us], by rw [hsp]; exact ⟨ma, co, le, A4, rfl, ze_rA_in (ze_rA_set hR hj (L := inp) (by omega) (by rw [ze_ao eA4 0 (by decide)]; exact g2 0 (by decide) (by decide)) (by rw [ze_ao eA4 1 (by decide)]; exact g2 1 (by decide) (by decide)) (by rw [ze_au eA4, g2 2 (by decide) (by decide)]) (by rw [ze_ao eA4 3 (by decide), ze_ao eA4 4 (by decide)]; exact g3) (by rw [ze_ao eA4 3 (by decide), ze_ao eA4 4 (by decide)]; exact g4)) (by simp) ze_Hl_nil (fun _ _ _ => rfl), hM.1, hM.2⟩⟩)
          · refine ze_aload_n C d_M_store_31 1 rfl rfl ?_
            refine ze_getf (k := 39) C fl_M_19 (by decide) ze_E_m rfl d_M_store_32 ?_
            refine ze_bipush (v := nI 60) C d_M_store_35 (by decide) ?_
            refine ze_iload_n C d_M_store_37 2 rfl rfl ?_
            refine ze_imulN C d_M_store_38 ?_
            refine ze_iload_n C d_M_store_39 0 rfl rfl ?_
            refine ze_iaddN C d_M_store_40 ?_
            refine ze_aload_n C d_M_store_41 1 rfl rfl ?_
            refine ze_getf (k := 39) C fl_M_7 (by decide) ze_E_m rfl d_M_store_42 ?_
            refine ze_iload_n C d_M_store_45 0 rfl rfl ?_
            refine ze_iald (k := 40 + 0) (i := p) C (by decide) (ze_E_a (j := 0)) (by show _ < 60; omega) (by decide) d_M_store_46 ?_
            refine ze_iast (k := 40 + 3) (i := 60 * j + p) C (by decide) (ze_E_a (j := 3)) (by show _ < 480; omega) (by decide) d_M_store_47 ?_
            refine ze_eqE (ze_up_a (j := 3)) ?_
            refine ze_genA (fun A2 eA2 => ?_)
            refine ze_aload_n C d_M_store_48 1 rfl rfl ?_
            refine ze_getf (k := 39) C fl_M_22 (by decide) ze_E_m rfl d_M_store_49 ?_
            refine ze_bipush (v := nI 60) C d_M_store_52 (by decide) ?_
            refine ze_iload_n C d_M_store_54 2 rfl rfl ?_
            refine ze_imulN C d_M_store_55 ?_
            refine ze_iload_n C d_M_store_56 0 rfl rfl ?_
            refine ze_iaddN C d_M_store_57 ?_
            refine ze_aload_n C d_M_store_58 1 rfl rfl ?_
            refine ze_getf (k := 39) C fl_M_13 (by decide) ze_E_m rfl d_M_store_59 ?_
            refine ze_iload_n C d_M_store_62 0 rfl rfl ?_
            refine ze_iald (k := 40 + 1) (i := p) C (by decide) (ze_E_a (j := 1)) (by show _ < 60; omega) (by decide) d_M_store_63 ?_
            rw [ze_ao eA2 1 (by decide)]
            refine ze_iast (k := 40 + 4) (i := 60 * j + p) C (by decide) (ze_E_a (j := 4)) (by show _ < 480; omega) (by decide) d_M_store_64 ?_
            refine ze_eqE (ze_up_a (j := 4)) ?_
            refine ze_genA (fun A3 eA3 => ?_)
            refine ze_iinc (j := 0) (v := nI (p + 1)) (lv' := [(2, .int (nI (p + 1))), (0, .ref (ad 39)), (1, .int (nI j))]) C d_M_store_65 rfl (nI_1 _) (by decide) rfl ?_
            refine ze_goto 23 C d_M_store_68 (by decide) ?_
            refine ze_sub [(2, .int (nI (p + 1))), (0, .ref (ad 39)), (1, .int (nI j))] [0, 1, 2] rfl ?_
            obtain ⟨b1, b2, b3⟩ := ze_A34 (Ar := Ar) (s1 := 0) (s2 := 0) g3 hS1 (by omega) eA2 eA3
            exact ih (inp.length - (p + 1)) (by omega) (p + 1) A3 rfl (by omega) (fun z z1 z2 => (b3 z z1 z2).trans (g2 z z1 z2)) b1 (fun q hq => ⟨((b2 q (by omega)).1).trans (g4 q hq).1, ((b2 q (by omega)).2).trans (g4 q hq).2⟩)
      refine ze_sub [(2, .int (nI 0)), (0, .ref (ad 39)), (1, .int (nI j))] [0, 1, 2] rfl ?_
      exact loop _ 0 Ar rfl (Nat.zero_le _) (fun _ _ _ => rfl) ze_Hl_nil (fun _ _ => ⟨rfl, rfl⟩)
    · obtain ⟨L, hL, -⟩ := ze_rA_pos hR hj h15
      have hsp : sp_store (inp, sl, mv, M) (nI j) = (-3, (inp, sl, mv, M)) := by rw [sp_store, if_neg (by rw [ze_isS_j hj]; decide)]; simp only [hnj, hL]
      refine ze_bipush (v := -3) C d_M_store_18 (by decide) ?_
      exact ze_iret C Rt d_M_store_20 (⟨rfl, rfl, _, rfl, by rw [hsp], by rw [hsp]; exact ⟨ma, co, le, Ar, rfl, hR, hM.1, hM.2⟩⟩)
  · refine ze_iconst (v := -1) C d_M_store_7 (by decide) ?_
    exact ze_iret C Rt d_M_store_8 (⟨rfl, rfl, _, rfl, by rw [sp_store, if_pos (ze_bi0.mp h4)], by rw [sp_store, if_pos (ze_bi0.mp h4)]; exact ⟨ma, co, le, Ar, rfl, hR, hM.1, hM.2⟩⟩)

set_option maxRecDepth 100000 in
set_option maxHeartbeats 4000000 in
theorem c_M_refuse (l : Launch) (D : va_G) (ids : Nat → ClassId) (ad : Nat → Nat) (x : ze_XS) (M : Nat) (mv : Int64) (ty ma co le : Nat) (Ar : Nat → Nat → Int32) (inp : List ze_Row) (sl : Nat → Option (List ze_Row)) (hR : ze_rA Ar inp sl) (hM : 3 ≤ M ∧ M ≤ 6) (ok : Bool) (a b into : Int32) : ze_MM l D ids ad x y_M_refuse ws_M_refuse 3 (M, mv, ty, ma, co, le, Ar) [.ref (ad 39), .int (ze_bi ok), .int a, .int b, .int into] (fun v ms' => v = some (.int (ze_rfs sl ok a b into)) ∧ ∃ ma' co', ms' = (M, mv, ty, ma', co', le, Ar) ∧ (ze_rfs sl ok a b into = 0 → ma' = 0 ∧ co' = 0)) := by
  refine ze_enter (cc := b_M_refuse) (maxL := 5) (ret := (some .int)) (by decide +kernel) rfl (Nat.le_of_ble_eq_true rfl) ?_
  rintro G rfl rfl rfl - C Rt
  refine ze_lv (lv' := [(0, .ref (ad 39)), (1, .int (ze_bi ok)), (2, .int a), (3, .int b), (4, .int into)]) rfl ?_
  refine ze_iload_n C d_M_refuse_0 1 rfl rfl ?_
  refine ze_if_eq 26 C d_M_refuse_1 (by decide) (fun h1 => ?_) (fun h1 => ?_)
  · refine ze_iconst (v := -1) C d_M_refuse_26 (by decide) ?_
    exact ze_iret C Rt d_M_refuse_27 (⟨rfl, rfl, _, rfl, by simp only [ze_rfs, ze_bi0.mp h1, Bool.false_and]; rfl, ma, co, rfl, fun z => by simp only [ze_rfs, ze_bi0.mp h1, Bool.false_and] at z; exact absurd (show (-1 : Int32) = 0 from z) (by decide)⟩)
  · have hok := ze_bi1 h1
    refine ze_iload_n C d_M_refuse_4 2 rfl rfl ?_
    refine ze_callS (st := []) C (c_M_slot (ze_l G) (ze_D G) (ze_i G) _ _ _ a) (ks_M_47 (ze_rml (by decide) (by decide))) rfl (Nat.le_of_ble_eq_true rfl) ⟨Nat.le_of_ble_eq_true rfl, Nat.le_of_ble_eq_true rfl⟩ d_M_refuse_5 ?_
    rintro _ _ _ _ ⟨rfl, rfl, rfl, rfl⟩
    refine ze_norm (c2 := 0) (s2 := 0) (st' := [.int (ze_bi (ze_isS a))]) rfl rfl rfl ?_
    refine ze_if_eq 26 C d_M_refuse_8 (by decide) (fun h8 => ?_) (fun h8 => ?_)
    · refine ze_iconst (v := -1) C d_M_refuse_26 (by decide) ?_
      exact ze_iret C Rt d_M_refuse_27 (⟨rfl, rfl, _, rfl, by simp only [ze_rfs, ze_bi0.mp h8, Bool.and_false, Bool.false_and]; rfl, ma, co, rfl, fun z => by simp only [ze_rfs, ze_bi0.mp h8, Bool.and_false, Bool.false_and] at z; exact absurd (show (-1 : Int32) = 0 from z) (by decide)⟩)
    · obtain ⟨ja, hja, rfl⟩ := ze_isS_nI (ze_bi1 h8)
      refine ze_iload_n C d_M_refuse_11 3 rfl rfl ?_
      refine ze_callS (st := []) C (c_M_slot (ze_l G) (ze_D G) (ze_i G) _ _ _ b) (ks_M_47 (ze_rml (by decide) (by decide))) rfl (Nat.le_of_ble_eq_true rfl) ⟨Nat.le_of_ble_eq_true rfl, Nat.le_of_ble_eq_true rfl⟩ d_M_refuse_12 ?_
      rintro _ _ _ _ ⟨rfl, rfl, rfl, rfl⟩
      refine ze_norm (c2 := 0) (s2 := 0) (st' := [.int (ze_bi (ze_isS b))]) rfl rfl rfl ?_
      refine ze_if_eq 26 C d_M_refuse_15 (by decide) (fun h15 => ?_) (fun h15 => ?_)
      · refine ze_iconst (v := -1) C d_M_refuse_26 (by decide) ?_
        exact ze_iret C Rt d_M_refuse_27 (⟨rfl, rfl, _, rfl, by simp only [ze_rfs, ze_bi0.mp h15, Bool.and_false, Bool.false_and]; rfl, ma, co, rfl, fun z => by simp only [ze_rfs, ze_bi0.mp h15, Bool.and_false, Bool.false_and] at z; exact absurd (show (-1 : Int32) = 0 from z) (by decide)⟩)
      · obtain ⟨jb, hjb, rfl⟩ := ze_isS_nI (ze_bi1 h15)
        refine ze_iload C d_M_refuse_18 4 rfl ?_
        refine ze_callS (st := []) C (c_M_slot (ze_l G) (ze_D G) (ze_i G) _ _ _ into) (ks_M_47 (ze_rml (by decide) (by decide))) rfl (Nat.le_of_ble_eq_true rfl) ⟨Nat.le_of_ble_eq_true rfl, Nat.le_of_ble_eq_true rfl⟩ d_M_refuse_20 ?_
        rintro _ _ _ _ ⟨rfl, rfl, rfl, rfl⟩
        refine ze_norm (c2 := 0) (s2 := 0) (st' := [.int (ze_bi (ze_isS into))]) rfl rfl rfl ?_
        refine ze_if_ne 28 C d_M_refuse_23 (by decide) (fun h23 => ?_) (fun h23 => ?_)
        · obtain ⟨ji, hji, rfl⟩ := ze_isS_nI (ze_bi1 h23)
          refine ze_aload_n C d_M_refuse_28 0 rfl rfl ?_
          refine ze_iconst (v := nI 0) C d_M_refuse_29 (by decide) ?_
          refine ze_putf (k := 39) C fp_M_55 (by decide) ze_E_m rfl rfl (Nat.le_of_ble_eq_true rfl) d_M_refuse_30 ?_
          refine ze_eqE (ze_up_m (ms' := (M, mv, ty, 0, co, le, Ar)) rfl rfl) ?_
          refine ze_aload_n C d_M_refuse_33 0 rfl rfl ?_
          refine ze_lconst (v := lN 0) C d_M_refuse_34 (by decide) ?_
          refine ze_putf (k := 39) C fp_M_58 (by decide) ze_E_m rfl rfl (Nat.le_of_ble_eq_true rfl) d_M_refuse_35 ?_
          refine ze_eqE (ze_up_m (ms' := (M, mv, ty, 0, 0, le, Ar)) rfl rfl) ?_
          refine ze_aload_n C d_M_refuse_38 0 rfl rfl ?_
          refine ze_getf (k := 39) C fl_M_16 (by decide) ze_E_m rfl d_M_refuse_39 ?_
          refine ze_iload_n C d_M_refuse_42 2 rfl rfl ?_
          refine ze_iald (k := 40 + 2) (i := ja) C (by decide) (ze_E_a (j := 2)) (by show _ < 8; omega) (by decide) d_M_refuse_43 ?_
          refine ze_if_lt 56 C d_M_refuse_44 (by decide) (fun h44 => ?_) (fun h44 => ?_)
          · refine ze_bipush (v := -2) C d_M_refuse_56 (by decide) ?_
            refine ze_goto 77 C d_M_refuse_58 (by decide) ?_
            exact ze_iret C Rt d_M_refuse_77 (⟨rfl, rfl, _, rfl, by simp only [ze_rfs, hok, ze_isS_j hja, ze_isS_j hjb, ze_isS_j hji, ze_n_nI (Nat.lt_trans hja (by decide : 8 < 2 ^ 31)), ze_n_nI (Nat.lt_trans hjb (by decide : 8 < 2 ^ 31)), ze_n_nI (Nat.lt_trans hji (by decide : 8 < 2 ^ 31)), ze_rA_neg hR hja h44]; rfl, 0, 0, rfl, fun _ => ⟨rfl, rfl⟩⟩)
          · refine ze_aload_n C d_M_refuse_47 0 rfl rfl ?_
            refine ze_getf (k := 39) C fl_M_16 (by decide) ze_E_m rfl d_M_refuse_48 ?_
            refine ze_iload_n C d_M_refuse_51 3 rfl rfl ?_
            refine ze_iald (k := 40 + 2) (i := jb) C (by decide) (ze_E_a (j := 2)) (by show _ < 8; omega) (by decide) d_M_refuse_52 ?_
            refine ze_if_ge 61 C d_M_refuse_53 (by decide) (fun h53 => ?_) (fun h53 => ?_)
            · refine ze_aload_n C d_M_refuse_61 0 rfl rfl ?_
              refine ze_getf (k := 39) C fl_M_16 (by decide) ze_E_m rfl d_M_refuse_62 ?_
              refine ze_iload C d_M_refuse_65 4 rfl ?_
              refine ze_iald (k := 40 + 2) (i := ji) C (by decide) (ze_E_a (j := 2)) (by show _ < 8; omega) (by decide) d_M_refuse_67 ?_
              refine ze_if_lt 76 C d_M_refuse_68 (by decide) (fun h68 => ?_) (fun h68 => ?_)
              · refine ze_iconst (v := nI 0) C d_M_refuse_76 (by decide) ?_
                exact ze_iret C Rt d_M_refuse_77 (⟨rfl, rfl, _, rfl, by obtain ⟨A, hA, -⟩ := ze_rA_pos hR hja h44; obtain ⟨B, hB, -⟩ := ze_rA_pos hR hjb (Int32.not_lt.mpr h53); simp only [ze_rfs, hok, ze_isS_j hja, ze_isS_j hjb, ze_isS_j hji, ze_n_nI (Nat.lt_trans hja (by decide : 8 < 2 ^ 31)), ze_n_nI (Nat.lt_trans hjb (by decide : 8 < 2 ^ 31)), ze_n_nI (Nat.lt_trans hji (by decide : 8 < 2 ^ 31)), hA, hB, ze_rA_neg hR hji h68]; rfl, 0, 0, rfl, fun _ => ⟨rfl, rfl⟩⟩)
              · refine ze_bipush (v := -3) C d_M_refuse_71 (by decide) ?_
                refine ze_goto 77 C d_M_refuse_73 (by decide) ?_
                exact ze_iret C Rt d_M_refuse_77 (⟨rfl, rfl, _, rfl, by obtain ⟨A, hA, -⟩ := ze_rA_pos hR hja h44; obtain ⟨B, hB, -⟩ := ze_rA_pos hR hjb (Int32.not_lt.mpr h53); obtain ⟨I, hI, -⟩ := ze_rA_pos hR hji h68; simp only [ze_rfs, hok, ze_isS_j hja, ze_isS_j hjb, ze_isS_j hji, ze_n_nI (Nat.lt_trans hja (by decide : 8 < 2 ^ 31)), ze_n_nI (Nat.lt_trans hjb (by decide : 8 < 2 ^ 31)), ze_n_nI (Nat.lt_trans hji (by decide : 8 < 2 ^ 31)), hA, hB, hI]; rfl, 0, 0, rfl, fun _ => ⟨rfl, rfl⟩⟩)
            · refine ze_bipush (v := -2) C d_M_refuse_56 (by decide) ?_
              refine ze_goto 77 C d_M_refuse_58 (by decide) ?_
              exact ze_iret C Rt d_M_refuse_77 (⟨rfl, rfl, _, rfl, by obtain ⟨A, hA, -⟩ := ze_rA_pos hR hja h44; simp only [ze_rfs, hok, ze_isS_j hja, ze_isS_j hjb, ze_isS_j hji, ze_n_nI (Nat.lt_trans hja (by decide : 8 < 2 ^ 31)), ze_n_nI (Nat.lt_trans hjb (by decide : 8 < 2 ^ 31)), ze_n_nI (Nat.lt_trans hji (by decide : 8 < 2 ^ 31)), hA, ze_rA_neg hR hjb (Int32.not_le.mp h53)]; rfl, 0, 0, rfl, fun _ => ⟨rfl, rfl⟩⟩)
        · refine ze_iconst (v := -1) C d_M_refuse_26 (by decide) ?_
          exact ze_iret C Rt d_M_refuse_27 (⟨rfl, rfl, _, rfl, by simp only [ze_rfs, ze_bi0.mp h23, Bool.and_false, Bool.false_and]; rfl, ma, co, rfl, fun z => by simp only [ze_rfs, ze_bi0.mp h23, Bool.and_false, Bool.false_and] at z; exact absurd (show (-1 : Int32) = 0 from z) (by decide)⟩)

set_option maxRecDepth 100000 in
set_option maxHeartbeats 4000000 in
theorem c_M_blocks (l : Launch) (D : va_G) (ids : Nat → ClassId) (ad : Nat → Nat) (x : ze_XS) (M : Nat) (mv : Int64) (ma co le : Nat) (Ar : Nat → Nat → Int32) (inp : List ze_Row) (sl : Nat → Option (List ze_Row)) (hR : ze_rA Ar inp sl) (hM : 3 ≤ M ∧ M ≤ 6) : ze_MM l D ids ad x y_M_blocks ws_M_blocks 20 (M, mv, inp.length, ma, co, le, Ar) [.ref (ad 39)] (fun v ms' => v = some (.int (nI (sp_blocks (inp, sl, mv, M)))) ∧ ze_rM ms' (inp, sl, mv, M)) := by
  refine ze_enter (cc := b_M_blocks) (maxL := 3) (ret := (some .int)) (by decide +kernel) rfl (Nat.le_of_ble_eq_true rfl) ?_
  rintro G rfl rfl rfl - C Rt
  refine ze_lv (lv' := [(0, .ref (ad 39))]) rfl ?_
  have loop : ∀ (r : Nat) (p t : Nat), 8 - p = r → p ≤ 8 → t = ((List.range p).map (ze_bk sl)).sum → t ≤ 60 * p → ze_V G 48 ad (ze_E (ze_i G) ad x (M, mv, inp.length, ma, co, le, Ar)) 0 0 4 [(2, .int (nI p)), (1, .int (nI t)), (0, .ref (ad 39))] [] := by
    intro r
    induction r using Nat.strongRecOn with
    | ind r ih =>
      intro p t hr g1 g2 g3
      refine ze_iload_n C d_M_blocks_4 0 rfl rfl ?_
      refine ze_bipush (v := nI 8) C d_M_blocks_5 (by decide) ?_
      refine ze_icmp_geN 41 C d_M_blocks_7 (by decide) (by omega) (by omega) (fun h7 => ?_) (fun h7 => ?_)
      · refine ze_iload_n C d_M_blocks_41 1 rfl rfl ?_
        exact ze_iret C Rt d_M_blocks_42 (⟨rfl, rfl, _, rfl, by rw [ze_bk_sum, g2, show p = 8 by omega], ⟨ma, co, le, Ar, rfl, hR, hM.1, hM.2⟩⟩)
      · refine ze_iload_n C d_M_blocks_10 1 rfl rfl ?_
        refine ze_aload_n C d_M_blocks_11 2 rfl rfl ?_
        refine ze_getf (k := 39) C fl_M_16 (by decide) ze_E_m rfl d_M_blocks_12 ?_
        refine ze_iload_n C d_M_blocks_15 0 rfl rfl ?_
        refine ze_iald (k := 40 + 2) (i := p) C (by decide) (ze_E_a (j := 2)) (by show _ < 8; omega) (by decide) d_M_blocks_16 ?_
        by_cases hpos : Ar 2 p < 0
        · have hoff := ze_rA_neg hR (by omega) hpos
          rw [hR.2.2.1 p (by omega) hoff]
          refine ze_if_le 32 C d_M_blocks_17 (by decide) (fun h17 => ?_) (fun h17 => absurd h17 (by decide))
          refine ze_iconst (v := nI 0) C d_M_blocks_32 (by decide) ?_
          refine ze_iaddN C d_M_blocks_33 ?_
          refine ze_istore_n (lv' := [(1, .int (nI (t + 0))), (2, .int (nI p)), (0, .ref (ad 39))]) C d_M_blocks_34 rfl (by decide) rfl ?_
          refine ze_iinc (j := 1) (v := nI (p + 1)) (lv' := [(2, .int (nI (p + 1))), (1, .int (nI (t + 0))), (0, .ref (ad 39))]) C d_M_blocks_35 rfl (nI_1 _) (by decide) rfl ?_
          refine ze_goto 4 C d_M_blocks_38 (by decide) ?_
          refine ze_sub [(2, .int (nI (p + 1))), (1, .int (nI (t + 0))), (0, .ref (ad 39))] [0, 1, 2] rfl ?_
          exact ih (8 - (p + 1)) (by omega) (p + 1) _ rfl (by omega) (by rw [ze_bk_succ, g2, ze_bk, hoff]) (by omega)
        · obtain ⟨L, hL, hL1, hL2, -⟩ := ze_rA_pos hR (by omega) hpos
          rw [hL2]
          refine ze_if_leN 32 C d_M_blocks_17 (by decide) (by omega) (fun h17 => ?_) (fun h17 => ?_)
          · have h17 : L.length = 0 := by omega
            refine ze_iconst (v := nI 0) C d_M_blocks_32 (by decide) ?_
            refine ze_iaddN C d_M_blocks_33 ?_
            refine ze_istore_n (lv' := [(1, .int (nI (t + 0))), (2, .int (nI p)), (0, .ref (ad 39))]) C d_M_blocks_34 rfl (by decide) rfl ?_
            refine ze_iinc (j := 1) (v := nI (p + 1)) (lv' := [(2, .int (nI (p + 1))), (1, .int (nI (t + 0))), (0, .ref (ad 39))]) C d_M_blocks_35 rfl (nI_1 _) (by decide) rfl ?_
            refine ze_goto 4 C d_M_blocks_38 (by decide) ?_
            refine ze_sub [(2, .int (nI (p + 1))), (1, .int (nI (t + 0))), (0, .ref (ad 39))] [0, 1, 2] rfl ?_
            exact ih (8 - (p + 1)) (by omega) (p + 1) _ rfl (by omega) (by rw [ze_bk_succ, g2, ze_bk, hL]; simp only [h17]; rfl) (by omega)
          · refine ze_aload_n C d_M_blocks_20 2 rfl rfl ?_
            refine ze_getf (k := 39) C fl_M_16 (by decide) ze_E_m rfl d_M_blocks_21 ?_
            refine ze_iload_n C d_M_blocks_24 0 rfl rfl ?_
            refine ze_iald (k := 40 + 2) (i := p) C (by decide) (ze_E_a (j := 2)) (by show _ < 8; omega) (by decide) d_M_blocks_25 ?_
            rw [hL2]
            refine ze_callS (st := [.int (nI t)]) C (c_M_size (ze_l G) (ze_D G) (ze_i G) _ _ _ L.length (by omega)) (ks_M_38 (ze_rml (by decide) (by decide))) rfl (Nat.le_of_ble_eq_true rfl) ⟨Nat.le_of_ble_eq_true rfl, Nat.le_of_ble_eq_true rfl⟩ d_M_blocks_26 ?_
            rintro _ _ _ _ ⟨rfl, rfl, rfl, rfl⟩
            refine ze_norm (c2 := 0) (s2 := 0) (st' := [.int (nI (ze_sz L.length)), .int (nI t)]) rfl rfl rfl ?_
            have hz26 := ze_sz_le L.length
            refine ze_goto 33 C d_M_blocks_29 (by decide) ?_
            refine ze_iaddN C d_M_blocks_33 ?_
            refine ze_istore_n (lv' := [(1, .int (nI (t + (ze_sz L.length)))), (2, .int (nI p)), (0, .ref (ad 39))]) C d_M_blocks_34 rfl (by decide) rfl ?_
            refine ze_iinc (j := 1) (v := nI (p + 1)) (lv' := [(2, .int (nI (p + 1))), (1, .int (nI (t + (ze_sz L.length)))), (0, .ref (ad 39))]) C d_M_blocks_35 rfl (nI_1 _) (by decide) rfl ?_
            refine ze_goto 4 C d_M_blocks_38 (by decide) ?_
            refine ze_sub [(2, .int (nI (p + 1))), (1, .int (nI (t + ze_sz L.length))), (0, .ref (ad 39))] [0, 1, 2] rfl ?_
            exact ih (8 - (p + 1)) (by omega) (p + 1) _ rfl (by omega) (by rw [ze_bk_succ, g2, ze_bk, hL]) (by omega)
  refine ze_iconst (v := nI 0) C d_M_blocks_0 (by decide) ?_
  refine ze_istore_n (lv' := [(1, .int (nI 0)), (0, .ref (ad 39))]) C d_M_blocks_1 rfl (by decide) rfl ?_
  refine ze_iconst (v := nI 0) C d_M_blocks_2 (by decide) ?_
  refine ze_istore_n (lv' := [(2, .int (nI 0)), (1, .int (nI 0)), (0, .ref (ad 39))]) C d_M_blocks_3 rfl (by decide) rfl ?_
  exact loop _ 0 0 rfl (by decide) rfl (Nat.le_refl _)

theorem ze_ps_dec {M r : Nat} (hM : 3 ≤ M) (h : 1 < r) : (r + (M - 1) - 1) / (M - 1) < r := by
  rw [Nat.div_lt_iff_lt_mul (by omega)]
  obtain ⟨a, b, e1, e2⟩ : ∃ a b, M - 1 = a + 2 ∧ r = b + 2 := ⟨M - 3, r - 2, by omega, by omega⟩
  rw [e1, e2, Nat.add_mul, Nat.mul_add]
  have : 0 ≤ b * a := Nat.zero_le _
  omega

theorem ze_ps_fuel (M : Nat) (hM : 3 ≤ M) : ∀ (k m r : Nat), r ≤ k → r ≤ m → ze_ps M k r = ze_ps M m r
  | 0, m, r, h1, h2 => by
    have : r = 0 := by omega
    subst this
    cases m with
    | zero => rfl
    | succ m => rw [ze_ps, ze_ps, if_neg (by omega)]
  | k + 1, 0, r, h1, h2 => by
    have : r = 0 := by omega
    subst this
    rw [ze_ps, ze_ps, if_neg (by omega)]
  | k + 1, m + 1, r, h1, h2 => by
    rw [ze_ps, ze_ps]
    by_cases h : 1 < r
    · rw [if_pos h, if_pos h]
      have h3 := ze_ps_dec (M := M) (r := r) hM h
      rw [ze_ps_fuel M hM k m _ (by omega) (by omega)]
    · rw [if_neg h, if_neg h]

set_option maxRecDepth 100000 in
set_option maxHeartbeats 4000000 in
theorem c_M_sortCost (l : Launch) (D : va_G) (ids : Nat → ClassId) (ad : Nat → Nat) (x : ze_XS) (M : Nat) (mv : Int64) (ty ma co le : Nat) (Ar : Nat → Nat → Int32) (hM : 3 ≤ M ∧ M ≤ 6) (a : Nat) (ha : a ≤ 60) : ze_MM l D ids ad x y_M_sortCost ws_M_sortCost 3 (M, mv, ty, ma, co, le, Ar) [.ref (ad 39), .int (nI a)] (fun v ms' => v = some (.long (lN (ze_sc M a))) ∧ ms' = (M, mv, ty, ma, co, le, Ar)) := by
  refine ze_enter (cc := b_M_sortCost) (maxL := 5) (ret := (some .long)) (by decide +kernel) rfl (Nat.le_of_ble_eq_true rfl) ?_
  rintro G rfl rfl rfl - C Rt
  refine ze_lv (lv' := [(0, .ref (ad 39)), (1, .int (nI a))]) rfl ?_
  have hzs := ze_sz_le a
  have loop : ∀ (r : Nat) (k q : Nat), q = r → k ≤ 100 - q → q ≤ 60 → k + ze_ps M q q = ze_ps M 60 ((ze_sz a + M - 1) / M) → ze_V G 48 ad (ze_E (ze_i G) ad x (M, mv, ty, ma, co, le, Ar)) 0 0 28 [(4, .int (nI k)), (3, .int (nI q)), (2, .int (nI (ze_sz a))), (0, .ref (ad 39)), (1, .int (nI a))] [] := by
    intro r
    induction r using Nat.strongRecOn with
    | ind r ih =>
      intro k q hr g1 g2 g3
      refine ze_iload_n C d_M_sortCost_28 1 rfl rfl ?_
      refine ze_iconst (v := nI 1) C d_M_sortCost_29 (by decide) ?_
      refine ze_icmp_leN 58 C d_M_sortCost_30 (by decide) (by omega) (by omega) (fun h30 => ?_) (fun h30 => ?_)
      · refine ze_ldc2 (v := lN 2) C d_M_sortCost_58 (List.mem_cons_of_mem _ zw_344) ?_
        refine ze_iload_n C d_M_sortCost_61 2 rfl rfl ?_
        refine ze_i2lN C d_M_sortCost_62 (by omega) ?_
        refine ze_lmulN C d_M_sortCost_63 ?_
        refine ze_iconst (v := nI 1) C d_M_sortCost_64 (by decide) ?_
        refine ze_iload C d_M_sortCost_65 0 rfl ?_
        refine ze_iaddN C d_M_sortCost_67 ?_
        refine ze_i2lN C d_M_sortCost_68 (by omega) ?_
        refine ze_lmulN C d_M_sortCost_69 ?_
        exact ze_lret C Rt d_M_sortCost_70 (⟨rfl, rfl, _, rfl, by unfold ze_sc; rw [← g3, show ze_ps M q q = 0 from by cases q with | zero => rfl | succ q => rw [ze_ps, if_neg (by omega)]]; rfl, rfl⟩)
      · refine ze_iload_n C d_M_sortCost_33 1 rfl rfl ?_
        refine ze_aload_n C d_M_sortCost_34 3 rfl rfl ?_
        refine ze_getf (k := 39) C fl_M_34 (by decide) ze_E_m rfl d_M_sortCost_35 ?_
        refine ze_iaddN C d_M_sortCost_38 ?_
        refine ze_iconst (v := nI 2) C d_M_sortCost_39 (by decide) ?_
        refine ze_isubN C d_M_sortCost_40 (by omega) ?_
        refine ze_aload_n C d_M_sortCost_41 3 rfl rfl ?_
        refine ze_getf (k := 39) C fl_M_34 (by decide) ze_E_m rfl d_M_sortCost_42 ?_
        refine ze_iconst (v := nI 1) C d_M_sortCost_45 (by decide) ?_
        refine ze_isubN C d_M_sortCost_46 (by omega) ?_
        refine ze_idivN C d_M_sortCost_47 (by omega) (by omega) (by omega) ?_
        refine ze_istore_n (lv' := [(3, .int (nI (((q + M) - 2) / (M - 1)))), (4, .int (nI k)), (2, .int (nI (ze_sz a))), (0, .ref (ad 39)), (1, .int (nI a))]) C d_M_sortCost_48 rfl (by decide) rfl ?_
        refine ze_iload C d_M_sortCost_49 1 rfl ?_
        refine ze_iconst (v := nI 1) C d_M_sortCost_51 (by decide) ?_
        refine ze_iaddN C d_M_sortCost_52 ?_
        refine ze_istore (lv' := [(4, .int (nI (k + 1))), (3, .int (nI (((q + M) - 2) / (M - 1)))), (2, .int (nI (ze_sz a))), (0, .ref (ad 39)), (1, .int (nI a))]) C d_M_sortCost_53 (by decide) rfl ?_
        refine ze_goto 28 C d_M_sortCost_55 (by decide) ?_
        refine ze_sub [(4, .int (nI (k + 1))), (3, .int (nI ((q + M - 2) / (M - 1)))), (2, .int (nI (ze_sz a))), (0, .ref (ad 39)), (1, .int (nI a))] [0, 1, 2, 3, 4] rfl ?_
        have e1 : (q + M - 2) / (M - 1) = (q + (M - 1) - 1) / (M - 1) := by rw [show q + M - 2 = q + (M - 1) - 1 by omega]
        have h3 := ze_ps_dec (M := M) (r := q) hM.1 h30
        rw [e1]
        refine ih _ (by omega) (k + 1) _ rfl (by omega) (by omega) ?_
        have e2 : ze_ps M q q = ze_ps M (q - 1) ((q + (M - 1) - 1) / (M - 1)) + 1 := by conv => lhs; rw [show q = (q - 1) + 1 by omega]; rw [ze_ps, if_pos (by omega), show q - 1 + 1 = q by omega]
        rw [← g3, e2, ze_ps_fuel M hM.1 _ (q - 1) _ (Nat.le_refl _) (by omega)]
        omega
  refine ze_iload_n C d_M_sortCost_0 1 rfl rfl ?_
  refine ze_callS (st := []) C (c_M_size (ze_l G) (ze_D G) (ze_i G) _ _ _ a (by omega)) (ks_M_38 (ze_rml (by decide) (by decide))) rfl (Nat.le_of_ble_eq_true rfl) ⟨Nat.le_of_ble_eq_true rfl, Nat.le_of_ble_eq_true rfl⟩ d_M_sortCost_1 ?_
  rintro _ _ _ _ ⟨rfl, rfl, rfl, rfl⟩
  refine ze_norm (c2 := 0) (s2 := 0) (st' := [.int (nI (ze_sz a))]) rfl rfl rfl ?_
  have hz1 := ze_sz_le a
  refine ze_istore_n (lv' := [(2, .int (nI (ze_sz a))), (0, .ref (ad 39)), (1, .int (nI a))]) C d_M_sortCost_4 rfl (by decide) rfl ?_
  refine ze_iload_n C d_M_sortCost_5 0 rfl rfl ?_
  refine ze_if_neN 11 C d_M_sortCost_6 (by decide) (by omega) (fun h6 => ?_) (fun h6 => ?_)
  · refine ze_iload_n C d_M_sortCost_11 0 rfl rfl ?_
    refine ze_aload_n C d_M_sortCost_12 1 rfl rfl ?_
    refine ze_getf (k := 39) C fl_M_34 (by decide) ze_E_m rfl d_M_sortCost_13 ?_
    refine ze_iaddN C d_M_sortCost_16 ?_
    refine ze_iconst (v := nI 1) C d_M_sortCost_17 (by decide) ?_
    refine ze_isubN C d_M_sortCost_18 (by omega) ?_
    refine ze_aload_n C d_M_sortCost_19 1 rfl rfl ?_
    refine ze_getf (k := 39) C fl_M_34 (by decide) ze_E_m rfl d_M_sortCost_20 ?_
    refine ze_idivN C d_M_sortCost_23 (by omega) (by omega) (by omega) ?_
    refine ze_istore_n (lv' := [(3, .int (nI (((ze_sz a + M) - 1) / M))), (2, .int (nI (ze_sz a))), (0, .ref (ad 39)), (1, .int (nI a))]) C d_M_sortCost_24 rfl (by decide) rfl ?_
    refine ze_iconst (v := nI 0) C d_M_sortCost_25 (by decide) ?_
    refine ze_istore (lv' := [(4, .int (nI 0)), (3, .int (nI (((ze_sz a + M) - 1) / M))), (2, .int (nI (ze_sz a))), (0, .ref (ad 39)), (1, .int (nI a))]) C d_M_sortCost_26 (by decide) rfl ?_
    have hq : (ze_sz a + M - 1) / M ≤ 60 := by have := Nat.div_le_self (ze_sz a + M - 1) M; have h2 : (ze_sz a + M - 1) / M ≤ (ze_sz a + M - 1) / 3 := Nat.div_le_div_left (by omega) (by omega); omega
    exact loop _ 0 _ rfl (by omega) hq (by rw [Nat.zero_add]; exact ze_ps_fuel M hM.1 _ _ _ (Nat.le_refl _) hq)
  · refine ze_lconst (v := lN 0) C d_M_sortCost_9 (by decide) ?_
    exact ze_lret C Rt d_M_sortCost_10 (⟨rfl, rfl, _, rfl, by unfold ze_sc; rw [h6, Nat.mul_zero, Nat.zero_mul], rfl⟩)
