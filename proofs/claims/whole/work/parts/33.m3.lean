set_option maxRecDepth 100000 in
set_option maxHeartbeats 4000000 in
theorem c_M_select (l : Launch) (D : va_G) (ids : Nat → ClassId) (ad : Nat → Nat) (x : ze_XS) (M : Nat) (mv : Int64) (ma co le : Nat) (Ar : Nat → Nat → Int32) (inp : List ze_Row) (sl : Nat → Option (List ze_Row)) (hR : ze_rA Ar inp sl) (hM : 3 ≤ M ∧ M ≤ 6) (fr low high into : Int32) : ze_MM l D ids ad x y_M_select ws_M_select 20 (M, mv, inp.length, ma, co, le, Ar) [.ref (ad 39), .int fr, .int low, .int high, .int into] (fun v ms' => v = some (.int (sp_select (inp, sl, mv, M) fr low high into).1) ∧ ze_rM ms' (sp_select (inp, sl, mv, M) fr low high into).2) := by
  refine ze_enter (cc := b_M_select) (maxL := 8) (ret := (some .int)) (by decide +kernel) rfl (Nat.le_of_ble_eq_true rfl) ?_
  rintro G rfl rfl rfl - C Rt
  refine ze_lv (lv' := [(0, .ref (ad 39)), (1, .int fr), (2, .int low), (3, .int high), (4, .int into)]) rfl ?_
  have hin := hR.1
  refine ze_aload_n C d_M_select_0 0 rfl rfl ?_
  refine ze_iconst (v := ze_bi true) C d_M_select_1 (by decide) ?_
  refine ze_iload_n C d_M_select_2 1 rfl rfl ?_
  refine ze_iload_n C d_M_select_3 1 rfl rfl ?_
  refine ze_iload C d_M_select_4 4 rfl ?_
  refine ze_callV (st := []) C (c_M_refuse (ze_l G) (ze_D G) (ze_i G) ad x M mv inp.length ma co le Ar inp sl hR hM true fr fr into) (kv_M_65 (ze_rml (by decide) (by decide))) (by decide) ze_E_m rfl (Nat.le_of_ble_eq_true rfl) ⟨Nat.le_of_ble_eq_true rfl, Nat.le_of_ble_eq_true rfl⟩ d_M_select_6 ?_
  rintro _ _ _ _ ⟨rfl, rfl, _, rfl, rfl, ma1, co1, rfl, hz0⟩
  refine ze_norm (c2 := 0) (s2 := 0) (st' := [.int (ze_rfs sl true fr fr into)]) rfl rfl rfl ?_
  refine ze_istore (lv' := [(5, .int (ze_rfs sl true fr fr into)), (0, .ref (ad 39)), (1, .int fr), (2, .int low), (3, .int high), (4, .int into)]) C d_M_select_9 (by decide) rfl ?_
  refine ze_iload C d_M_select_11 0 rfl ?_
  refine ze_if_eq 19 C d_M_select_13 (by decide) (fun h13 => ?_) (fun h13 => ?_)
  · obtain ⟨rfl, rfl⟩ := hz0 h13
    obtain ⟨ja, jb, ji, A, B, hja, hjb, hji, ea, eb, rfl, hne, hneb, hA, hB, hI, hok, hop⟩ := ze_rfs_0 (σ := (inp, sl, mv, M)) h13
    have eab : ja = jb := (nI_eq (by omega) (by omega)).mp (ea.symm.trans eb)
    subst eab
    subst ea
    simp only at hA hB hI
    rw [hA] at hB
    cases hB
    obtain ⟨hA60, hcA, hHA⟩ := hR.2.2.2 ja hja A hA
    refine ze_sub [(0, .ref (ad 39)), (1, .int (nI ja)), (2, .int low), (3, .int high), (4, .int (nI ji))] [1, 2, 3, 4, 5] rfl ?_
    have hsp : sp_select (inp, sl, mv, M) (nI ja) low high (nI ji) = sp_fin (inp, sl, mv, M) ji (ze_sel low high A, ze_sz A.length + ze_sz (ze_sel low high A).length) := by rw [sp_select, hop]
    refine ze_iconst (v := nI 0) C d_M_select_19 (by decide) ?_
    refine ze_istore (lv' := [(6, .int (nI 0)), (0, .ref (ad 39)), (1, .int (nI ja)), (2, .int low), (3, .int high), (4, .int (nI ji))]) C d_M_select_20 (by decide) rfl ?_
    have loop : ∀ (r : Nat) (p m1 : Nat) (A1 : Nat → Nat → Int32), A.length - p = r → p ≤ A.length → (∀ z, z ≠ 5 → z ≠ 6 → A1 z = Ar z) → ze_Mk A1 m1 (ze_sel low high (A.take p)) → m1 ≤ p → ze_V G 48 ad (ze_E (ze_i G) ad x (M, mv, inp.length, m1, 0, le, A1)) 0 0 22 [(6, .int (nI p)), (0, .ref (ad 39)), (1, .int (nI ja)), (2, .int low), (3, .int high), (4, .int (nI ji))] [] := by
      intro r
      induction r using Nat.strongRecOn with
      | ind r ih =>
        intro p m1 A1 hr g1 g2 g3 g4
        have hc1 : A1 2 ja = nI A.length := by rw [g2 2 (by decide) (by decide)]; exact hcA
        have hH1 : ze_Hl (A1 3) (A1 4) (60 * ja) A := by rw [g2 3 (by decide) (by decide), g2 4 (by decide) (by decide)]; exact hHA
        refine ze_iload C d_M_select_22 0 rfl ?_
        refine ze_aload_n C d_M_select_24 1 rfl rfl ?_
        refine ze_getf (k := 39) C fl_M_16 (by decide) ze_E_m rfl d_M_select_25 ?_
        refine ze_iload_n C d_M_select_28 2 rfl rfl ?_
        refine ze_iald (k := 40 + 2) (i := ja) C (by decide) (ze_E_a (j := 2)) (by show _ < 8; omega) (by decide) d_M_select_29 ?_
        rw [hc1]
        refine ze_icmp_geN 83 C d_M_select_30 (by decide) (by omega) (by omega) (fun h30 => ?_) (fun h30 => ?_)
        · rw [List.take_of_length_le (by omega)] at g3
          have hm1 := g3.1
          have hR1 := ze_rA_56 hR (fun z z1 z2 _ => g2 z z1 z2)
          refine ze_aload_n C d_M_select_83 1 rfl rfl ?_
          refine ze_aload_n C d_M_select_84 1 rfl rfl ?_
          refine ze_getf (k := 39) C fl_M_16 (by decide) ze_E_m rfl d_M_select_85 ?_
          refine ze_iload_n C d_M_select_88 2 rfl rfl ?_
          refine ze_iald (k := 40 + 2) (i := ja) C (by decide) (ze_E_a (j := 2)) (by show _ < 8; omega) (by decide) d_M_select_89 ?_
          rw [hc1]
          refine ze_callS (st := [.ref (ad 39)]) C (c_M_size (ze_l G) (ze_D G) (ze_i G) _ _ _ A.length (by omega)) (ks_M_38 (ze_rml (by decide) (by decide))) rfl (Nat.le_of_ble_eq_true rfl) ⟨Nat.le_of_ble_eq_true rfl, Nat.le_of_ble_eq_true rfl⟩ d_M_select_90 ?_
          rintro _ _ _ _ ⟨rfl, rfl, rfl, rfl⟩
          refine ze_norm (c2 := 0) (s2 := 0) (st' := [.int (nI (ze_sz A.length)), .ref (ad 39)]) rfl rfl rfl ?_
          have hz90 := ze_sz_le A.length
          refine ze_aload_n C d_M_select_93 1 rfl rfl ?_
          refine ze_getf (k := 39) C fl_M_55 (by decide) ze_E_m rfl d_M_select_94 ?_
          refine ze_callS (st := [.int (nI (ze_sz A.length)), .ref (ad 39)]) C (c_M_size (ze_l G) (ze_D G) (ze_i G) _ _ _ m1 (by omega)) (ks_M_38 (ze_rml (by decide) (by decide))) rfl (Nat.le_of_ble_eq_true rfl) ⟨Nat.le_of_ble_eq_true rfl, Nat.le_of_ble_eq_true rfl⟩ d_M_select_97 ?_
          rintro _ _ _ _ ⟨rfl, rfl, rfl, rfl⟩
          refine ze_norm (c2 := 0) (s2 := 0) (st' := [.int (nI (ze_sz m1)), .int (nI (ze_sz A.length)), .ref (ad 39)]) rfl rfl rfl ?_
          have hz97 := ze_sz_le m1
          refine ze_iaddN C d_M_select_100 ?_
          refine ze_i2lN C d_M_select_101 (by omega) ?_
          refine ze_putf (k := 39) C fp_M_58 (by decide) ze_E_m rfl rfl (Nat.le_of_ble_eq_true rfl) d_M_select_102 ?_
          refine ze_eqE (ze_up_m (ms' := (M, mv, inp.length, m1, ze_sz A.length + (ze_sz m1), le, A1)) rfl rfl) ?_
          refine ze_aload_n C d_M_select_105 1 rfl rfl ?_
          refine ze_iload C d_M_select_106 5 rfl ?_
          refine ze_callV (st := []) C (c_M_finish (ze_l G) (ze_D G) (ze_i G) ad x M mv inp.length m1 (ze_sz A.length + (ze_sz m1)) le A1 inp sl hR1 hM ji hji rfl (ze_sel low high A, ze_sz A.length + ze_sz (ze_sel low high A).length) g3 (fun _ => by rw [hm1]) (by omega)) (kv_M_77 (ze_rml (by decide) (by decide))) (by decide) ze_E_m rfl (Nat.le_of_ble_eq_true rfl) ⟨Nat.le_of_ble_eq_true rfl, Nat.le_of_ble_eq_true rfl⟩ d_M_select_108 ?_
          rintro _ _ _ _ ⟨rfl, rfl, ms', rfl, rfl, hr⟩
          refine ze_norm (c2 := 0) (s2 := 0) (st' := [.int (sp_fin (inp, sl, mv, M) ji (ze_sel low high A, ze_sz A.length + ze_sz (ze_sel low high A).length)).1]) rfl rfl rfl ?_
          exact ze_iret C Rt d_M_select_111 ⟨rfl, rfl, _, rfl, by rw [hsp], by rw [hsp]; exact hr⟩
        · refine ze_aload_n C d_M_select_33 1 rfl rfl ?_
          refine ze_getf (k := 39) C fl_M_19 (by decide) ze_E_m rfl d_M_select_34 ?_
          refine ze_bipush (v := nI 60) C d_M_select_37 (by decide) ?_
          refine ze_iload_n C d_M_select_39 2 rfl rfl ?_
          refine ze_imulN C d_M_select_40 ?_
          refine ze_iload C d_M_select_41 0 rfl ?_
          refine ze_iaddN C d_M_select_43 ?_
          refine ze_iald (k := 40 + 3) (i := 60 * ja + p) C (by decide) (ze_E_a (j := 3)) (by show _ < 480; omega) (by decide) d_M_select_44 ?_
          refine ze_istore (lv' := [(7, .int (A1 3 (60 * ja + p))), (6, .int (nI p)), (0, .ref (ad 39)), (1, .int (nI ja)), (2, .int low), (3, .int high), (4, .int (nI ji))]) C d_M_select_45 (by decide) rfl ?_
          refine ze_iload_n C d_M_select_47 4 rfl rfl ?_
          refine ze_iload C d_M_select_48 0 rfl ?_
          refine ze_icmp_gt 77 C d_M_select_50 (by decide) (fun h50 => ?_) (fun h50 => ?_)
          · refine ze_iinc (j := 1) (v := nI (p + 1)) (lv' := [(6, .int (nI (p + 1))), (7, .int (A1 3 (60 * ja + p))), (0, .ref (ad 39)), (1, .int (nI ja)), (2, .int low), (3, .int high), (4, .int (nI ji))]) C d_M_select_77 rfl (nI_1 _) (by decide) rfl ?_
            refine ze_goto 22 C d_M_select_80 (by decide) ?_
            refine ze_sub [(6, .int (nI (p + 1))), (0, .ref (ad 39)), (1, .int (nI ja)), (2, .int low), (3, .int high), (4, .int (nI ji))] [0, 2, 3, 4, 5, 6] rfl ?_
            exact ih (A.length - (p + 1)) (by omega) (p + 1) m1 A1 rfl (by omega) g2 (by rw [ze_Hl_take hH1 (by omega), ze_sel_snoc, if_neg (fun z => absurd z.1 (Int32.not_le.mpr h50))]; exact g3) (by omega)
          · refine ze_iload C d_M_select_53 0 rfl ?_
            refine ze_iload_n C d_M_select_55 5 rfl rfl ?_
            refine ze_icmp_gt 77 C d_M_select_56 (by decide) (fun h56 => ?_) (fun h56 => ?_)
            · refine ze_iinc (j := 1) (v := nI (p + 1)) (lv' := [(6, .int (nI (p + 1))), (7, .int (A1 3 (60 * ja + p))), (0, .ref (ad 39)), (1, .int (nI ja)), (2, .int low), (3, .int high), (4, .int (nI ji))]) C d_M_select_77 rfl (nI_1 _) (by decide) rfl ?_
              refine ze_goto 22 C d_M_select_80 (by decide) ?_
              refine ze_sub [(6, .int (nI (p + 1))), (0, .ref (ad 39)), (1, .int (nI ja)), (2, .int low), (3, .int high), (4, .int (nI ji))] [0, 2, 3, 4, 5, 6] rfl ?_
              exact ih (A.length - (p + 1)) (by omega) (p + 1) m1 A1 rfl (by omega) g2 (by rw [ze_Hl_take hH1 (by omega), ze_sel_snoc, if_neg (fun z => absurd z.2 (Int32.not_le.mpr h56))]; exact g3) (by omega)
            · refine ze_aload_n C d_M_select_59 2 rfl rfl ?_
              refine ze_iload C d_M_select_60 0 rfl ?_
              refine ze_aload_n C d_M_select_62 2 rfl rfl ?_
              refine ze_getf (k := 39) C fl_M_22 (by decide) ze_E_m rfl d_M_select_63 ?_
              refine ze_bipush (v := nI 60) C d_M_select_66 (by decide) ?_
              refine ze_iload_n C d_M_select_68 3 rfl rfl ?_
              refine ze_imulN C d_M_select_69 ?_
              refine ze_iload C d_M_select_70 1 rfl ?_
              refine ze_iaddN C d_M_select_72 ?_
              refine ze_iald (k := 40 + 4) (i := 60 * ja + p) C (by decide) (ze_E_a (j := 4)) (by show _ < 480; omega) (by decide) d_M_select_73 ?_
              refine ze_callV (st := []) C (c_M_make (ze_l G) (ze_D G) (ze_i G) ad x M mv inp.length m1 0 le A1 (ze_sel low high (A.take p)) g3 (by omega) (A1 3 (60 * ja + p)) (A1 4 (60 * ja + p))) (kv_M_80 (ze_rml (by decide) (by decide))) (by decide) ze_E_m rfl (Nat.le_of_ble_eq_true rfl) ⟨Nat.le_of_ble_eq_true rfl, Nat.le_of_ble_eq_true rfl⟩ d_M_select_74 ?_
              rintro _ _ _ _ ⟨rfl, rfl, _, rfl, rfl, A2, rfl, hk2, oA2⟩
              refine ze_norm (c2 := 0) (s2 := 0) (st' := []) rfl rfl rfl ?_
              refine ze_iinc (j := 1) (v := nI (p + 1)) (lv' := [(6, .int (nI (p + 1))), (7, .int (A1 3 (60 * ja + p))), (0, .ref (ad 39)), (1, .int (nI ja)), (2, .int low), (3, .int high), (4, .int (nI ji))]) C d_M_select_77 rfl (nI_1 _) (by decide) rfl ?_
              refine ze_goto 22 C d_M_select_80 (by decide) ?_
              refine ze_sub [(6, .int (nI (p + 1))), (0, .ref (ad 39)), (1, .int (nI ja)), (2, .int low), (3, .int high), (4, .int (nI ji))] [0, 2, 3, 4, 5, 6] rfl ?_
              exact ih (A.length - (p + 1)) (by omega) (p + 1) (m1 + 1) A2 rfl (by omega) (fun z z1 z2 => (oA2 z z1 z2).trans (g2 z z1 z2)) (by rw [ze_Hl_take hH1 (by omega), ze_sel_snoc, if_pos ⟨Int32.not_lt.mp h50, Int32.not_lt.mp h56⟩]; exact hk2) (by omega)
    refine ze_sub [(6, .int (nI 0)), (0, .ref (ad 39)), (1, .int (nI ja)), (2, .int low), (3, .int high), (4, .int (nI ji))] [0, 1, 2, 3, 4, 5] rfl ?_
    exact loop _ 0 0 Ar rfl (Nat.zero_le _) (fun _ _ _ => rfl) ze_Mk_0 (Nat.le_refl _)
  · refine ze_iload C d_M_select_16 0 rfl ?_
    exact ze_iret C Rt d_M_select_18 (⟨rfl, rfl, _, rfl, by rw [sp_select, ze_rfs_ne (σ := (inp, sl, mv, M)) h13], by rw [sp_select, ze_rfs_ne (σ := (inp, sl, mv, M)) h13]; exact ⟨ma1, co1, le, Ar, rfl, hR, hM.1, hM.2⟩⟩)

theorem ze_bf_1 {lt : Nat → Nat → Bool} {i j : Nat} (h : lt i j = true) : ze_bf lt i j = true := by simp [ze_bf, h]
theorem ze_bf_2 {lt : Nat → Nat → Bool} {i j : Nat} (h1 : lt i j = false) (h2 : lt j i = false) : ze_bf lt i j = decide (i < j) := by simp [ze_bf, h1, h2]
theorem ze_bf_3 {lt : Nat → Nat → Bool} {i j : Nat} (h1 : lt i j = false) (h2 : lt j i = true) : ze_bf lt i j = false := by simp [ze_bf, h1, h2]
theorem ze_cp_gt {k v l w : Int32} (h1 : ¬ ze_cp k v l w < 0) (h2 : ¬ ze_cp k v l w = 0) : ze_lt 2 (l, w) (k, v) = true := by
  rw [ze_cp_lt] at h1
  rw [ze_cp_eq] at h2
  cases h : ze_lt 2 (l, w) (k, v) with
  | true => rfl
  | false =>
    have := ze_lt_tri (Bool.eq_false_iff.mpr h1) h
    simp only [Prod.mk.injEq] at this
    exact absurd this h2
theorem ze_lt_02 {k v l w : Int32} : ze_lt 2 (k, 0) (l, 0) = ze_lt 0 (k, v) (l, w) := by
  rw [Bool.eq_iff_iff, ze_lt_iff, ze_lt_iff]
  simp
theorem ze_lt_12 {k v l w : Int32} : ze_lt 2 (0, v) (0, w) = ze_lt 1 (k, v) (l, w) := by
  rw [Bool.eq_iff_iff, ze_lt_iff, ze_lt_iff]
  simp
/-- a comparison that knows the order of rows i and j -/
def ze_co (c : Int32) (lt : Nat → Nat → Bool) (i j : Nat) : Prop := (c < 0 → lt i j = true) ∧ (¬ c < 0 → lt i j = false) ∧ (c = 0 → lt j i = false) ∧ (¬ c < 0 → ¬ c = 0 → lt j i = true)
theorem ze_co_of {k v l w k' v' l' w' : Int32} {lt : Nat → Nat → Bool} {i j : Nat} (h1 : ze_lt 2 (k, v) (l, w) = lt i j) (h2 : ze_lt 2 (l, w) (k, v) = lt j i) : ze_co (ze_cp k v l w) lt i j := by
  refine ⟨fun h => by rw [← h1]; exact ze_cp_lt.mp h, fun h => by rw [← h1]; exact Bool.eq_false_iff.mpr (fun z => h (ze_cp_lt.mpr z)), fun h => ?_, fun ha hb => by rw [← h2]; exact ze_cp_gt ha hb⟩
  obtain ⟨rfl, rfl⟩ := ze_cp_eq.mp h
  rw [← h2]
  exact ze_lt_irr

theorem ze_lt_o2 {o : Nat} {a b : ze_Row} (h0 : o ≠ 0) (h1 : o ≠ 1) : ze_lt 2 a b = ze_lt o a b := by
  rw [Bool.eq_iff_iff, ze_lt_iff, ze_lt_iff]
  simp [h0, h1]

set_option maxRecDepth 100000 in
set_option maxHeartbeats 4000000 in
theorem c_M_before (l : Launch) (D : va_G) (ids : Nat → ClassId) (ad : Nat → Nat) (x : ze_XS) (M : Nat) (mv : Int64) (ty ma co le : Nat) (Ar : Nat → Nat → Int32) (L : List ze_Row) (s : Nat) (hs : s < 8) (hL : L.length ≤ 60) (hH : ze_Hl (Ar 3) (Ar 4) (60 * s) L) (i j : Nat) (hi : i < L.length) (hj : j < L.length) (od : Nat) (ho : od ≤ 2) : ze_MM l D ids ad x y_M_before ws_M_before 3 (M, mv, ty, ma, co, le, Ar) [.ref (ad 39), .int (nI (60 * s)), .int (nI i), .int (nI j), .int (nI od)] (fun v ms' => v = some (.int (ze_bi (ze_bf (ze_li od L) i j))) ∧ ms' = (M, mv, ty, ma, co, le, Ar)) := by
  refine ze_enter (cc := b_M_before) (maxL := 8) (ret := (some .boolean)) (by decide +kernel) rfl (Nat.le_of_ble_eq_true rfl) ?_
  rintro G rfl rfl rfl - C Rt
  refine ze_lv (lv' := [(0, .ref (ad 39)), (1, .int (nI (60 * s))), (2, .int (nI i)), (3, .int (nI j)), (4, .int (nI od))]) rfl ?_
  have ri : L.getD i (0, 0) = (Ar 3 (60 * s + i), Ar 4 (60 * s + i)) := by rw [List.getD_eq_getElem?_getD, ze_Hl_row hH hi]; rfl
  have rj : L.getD j (0, 0) = (Ar 3 (60 * s + j), Ar 4 (60 * s + j)) := by rw [List.getD_eq_getElem?_getD, ze_Hl_row hH hj]; rfl
  refine ze_iload_n C d_M_before_0 1 rfl rfl ?_
  refine ze_iload_n C d_M_before_1 2 rfl rfl ?_
  refine ze_iaddN C d_M_before_2 ?_
  refine ze_istore (lv' := [(5, .int (nI (60 * s + i))), (0, .ref (ad 39)), (1, .int (nI (60 * s))), (2, .int (nI i)), (3, .int (nI j)), (4, .int (nI od))]) C d_M_before_3 (by decide) rfl ?_
  refine ze_iload_n C d_M_before_5 2 rfl rfl ?_
  refine ze_iload_n C d_M_before_6 4 rfl rfl ?_
  refine ze_iaddN C d_M_before_7 ?_
  refine ze_istore (lv' := [(6, .int (nI (60 * s + j))), (5, .int (nI (60 * s + i))), (0, .ref (ad 39)), (1, .int (nI (60 * s))), (2, .int (nI i)), (3, .int (nI j)), (4, .int (nI od))]) C d_M_before_8 (by decide) rfl ?_
  refine ze_iload C d_M_before_10 6 rfl ?_
  refine ze_if_neN 37 C d_M_before_12 (by decide) (by omega) (fun h12 => ?_) (fun h12 => ?_)
  · refine ze_iload C d_M_before_37 6 rfl ?_
    refine ze_iconst (v := nI 1) C d_M_before_39 (by decide) ?_
    refine ze_icmp_neN 65 C d_M_before_40 (by decide) (by omega) (by omega) (fun h40 => ?_) (fun h40 => ?_)
    · refine ze_aload_n C d_M_before_65 2 rfl rfl ?_
      refine ze_getf (k := 39) C fl_M_19 (by decide) ze_E_m rfl d_M_before_66 ?_
      refine ze_iload C d_M_before_69 1 rfl ?_
      refine ze_iald (k := 40 + 3) (i := 60 * s + i) C (by decide) (ze_E_a (j := 3)) (by show _ < 480; omega) (by decide) d_M_before_71 ?_
      refine ze_aload_n C d_M_before_72 2 rfl rfl ?_
      refine ze_getf (k := 39) C fl_M_22 (by decide) ze_E_m rfl d_M_before_73 ?_
      refine ze_iload C d_M_before_76 1 rfl ?_
      refine ze_iald (k := 40 + 4) (i := 60 * s + i) C (by decide) (ze_E_a (j := 4)) (by show _ < 480; omega) (by decide) d_M_before_78 ?_
      refine ze_aload_n C d_M_before_79 2 rfl rfl ?_
      refine ze_getf (k := 39) C fl_M_19 (by decide) ze_E_m rfl d_M_before_80 ?_
      refine ze_iload C d_M_before_83 0 rfl ?_
      refine ze_iald (k := 40 + 3) (i := 60 * s + j) C (by decide) (ze_E_a (j := 3)) (by show _ < 480; omega) (by decide) d_M_before_85 ?_
      refine ze_aload_n C d_M_before_86 2 rfl rfl ?_
      refine ze_getf (k := 39) C fl_M_22 (by decide) ze_E_m rfl d_M_before_87 ?_
      refine ze_iload C d_M_before_90 0 rfl ?_
      refine ze_iald (k := 40 + 4) (i := 60 * s + j) C (by decide) (ze_E_a (j := 4)) (by show _ < 480; omega) (by decide) d_M_before_92 ?_
      refine ze_callS (st := []) C (c_M_compare (ze_l G) (ze_D G) (ze_i G) _ _ _ (Ar 3 (60 * s + i)) (Ar 4 (60 * s + i)) (Ar 3 (60 * s + j)) (Ar 4 (60 * s + j))) (ks_M_61 (ze_rml (by decide) (by decide))) rfl (Nat.le_of_ble_eq_true rfl) ⟨Nat.le_of_ble_eq_true rfl, Nat.le_of_ble_eq_true rfl⟩ d_M_before_93 ?_
      rintro _ _ _ _ ⟨rfl, rfl, rfl, rfl⟩
      refine ze_norm (c2 := 0) (s2 := 0) (st' := [.int (ze_cp (Ar 3 (60 * s + i)) (Ar 4 (60 * s + i)) (Ar 3 (60 * s + j)) (Ar 4 (60 * s + j)))]) rfl rfl rfl ?_
      have hc : ze_co (ze_cp (Ar 3 (60 * s + i)) (Ar 4 (60 * s + i)) (Ar 3 (60 * s + j)) (Ar 4 (60 * s + j))) (ze_li od L) i j := ze_co_of (k' := 0) (v' := 0) (l' := 0) (w' := 0) (by rw [ze_li, ri, rj]; exact ze_lt_o2 (by omega) (by omega)) (by rw [ze_li, ri, rj]; exact ze_lt_o2 (by omega) (by omega))
      generalize ze_cp (Ar 3 (60 * s + i)) (Ar 4 (60 * s + i)) (Ar 3 (60 * s + j)) (Ar 4 (60 * s + j)) = c at hc ⊢
      refine ze_istore (lv' := [(7, .int c), (6, .int (nI (60 * s + j))), (5, .int (nI (60 * s + i))), (0, .ref (ad 39)), (1, .int (nI (60 * s))), (2, .int (nI i)), (3, .int (nI j)), (4, .int (nI od))]) C d_M_before_96 (by decide) rfl ?_
      refine ze_iload C d_M_before_98 0 rfl ?_
      refine ze_if_lt 113 C d_M_before_100 (by decide) (fun h100 => ?_) (fun h100 => ?_)
      · refine ze_iconst (v := nI 1) C d_M_before_113 (by decide) ?_
        refine ze_goto 118 C d_M_before_114 (by decide) ?_
        exact ze_zret C Rt (by decide) d_M_before_118 (⟨rfl, rfl, _, rfl, by rw [ze_bf_1 (hc.1 h100)]; rfl, rfl⟩)
      · refine ze_iload C d_M_before_103 0 rfl ?_
        refine ze_if_ne 117 C d_M_before_105 (by decide) (fun h105 => ?_) (fun h105 => ?_)
        · refine ze_iconst (v := nI 0) C d_M_before_117 (by decide) ?_
          exact ze_zret C Rt (by decide) d_M_before_118 (⟨rfl, rfl, _, rfl, by rw [ze_bf_3 (hc.2.1 h100) (hc.2.2.2 h100 h105)]; rfl, rfl⟩)
        · refine ze_iload_n C d_M_before_108 5 rfl rfl ?_
          refine ze_iload_n C d_M_before_109 6 rfl rfl ?_
          refine ze_icmp_geN 117 C d_M_before_110 (by decide) (by omega) (by omega) (fun h110 => ?_) (fun h110 => ?_)
          · refine ze_iconst (v := nI 0) C d_M_before_117 (by decide) ?_
            exact ze_zret C Rt (by decide) d_M_before_118 (⟨rfl, rfl, _, rfl, by rw [ze_bf_2 (hc.2.1 h100) (hc.2.2.1 h105), decide_eq_false (by omega)]; rfl, rfl⟩)
          · refine ze_iconst (v := nI 1) C d_M_before_113 (by decide) ?_
            refine ze_goto 118 C d_M_before_114 (by decide) ?_
            exact ze_zret C Rt (by decide) d_M_before_118 (⟨rfl, rfl, _, rfl, by rw [ze_bf_2 (hc.2.1 h100) (hc.2.2.1 h105), decide_eq_true h110]; rfl, rfl⟩)
    · have hod : od = 1 := h40
      refine ze_iconst (v := 0) C d_M_before_43 (by decide) ?_
      refine ze_aload_n C d_M_before_44 2 rfl rfl ?_
      refine ze_getf (k := 39) C fl_M_22 (by decide) ze_E_m rfl d_M_before_45 ?_
      refine ze_iload C d_M_before_48 1 rfl ?_
      refine ze_iald (k := 40 + 4) (i := 60 * s + i) C (by decide) (ze_E_a (j := 4)) (by show _ < 480; omega) (by decide) d_M_before_50 ?_
      refine ze_iconst (v := 0) C d_M_before_51 (by decide) ?_
      refine ze_aload_n C d_M_before_52 2 rfl rfl ?_
      refine ze_getf (k := 39) C fl_M_22 (by decide) ze_E_m rfl d_M_before_53 ?_
      refine ze_iload C d_M_before_56 0 rfl ?_
      refine ze_iald (k := 40 + 4) (i := 60 * s + j) C (by decide) (ze_E_a (j := 4)) (by show _ < 480; omega) (by decide) d_M_before_58 ?_
      refine ze_callS (st := []) C (c_M_compare (ze_l G) (ze_D G) (ze_i G) _ _ _ 0 (Ar 4 (60 * s + i)) 0 (Ar 4 (60 * s + j))) (ks_M_61 (ze_rml (by decide) (by decide))) rfl (Nat.le_of_ble_eq_true rfl) ⟨Nat.le_of_ble_eq_true rfl, Nat.le_of_ble_eq_true rfl⟩ d_M_before_59 ?_
      rintro _ _ _ _ ⟨rfl, rfl, rfl, rfl⟩
      refine ze_norm (c2 := 0) (s2 := 0) (st' := [.int (ze_cp 0 (Ar 4 (60 * s + i)) 0 (Ar 4 (60 * s + j)))]) rfl rfl rfl ?_
      have hc : ze_co (ze_cp 0 (Ar 4 (60 * s + i)) 0 (Ar 4 (60 * s + j))) (ze_li od L) i j := ze_co_of (k' := 0) (v' := 0) (l' := 0) (w' := 0) (by rw [ze_li, ri, rj, hod]; exact ze_lt_12) (by rw [ze_li, ri, rj, hod]; exact ze_lt_12)
      generalize ze_cp 0 (Ar 4 (60 * s + i)) 0 (Ar 4 (60 * s + j)) = c at hc ⊢
      refine ze_goto 96 C d_M_before_62 (by decide) ?_
      refine ze_istore (lv' := [(7, .int c), (6, .int (nI (60 * s + j))), (5, .int (nI (60 * s + i))), (0, .ref (ad 39)), (1, .int (nI (60 * s))), (2, .int (nI i)), (3, .int (nI j)), (4, .int (nI od))]) C d_M_before_96 (by decide) rfl ?_
      refine ze_iload C d_M_before_98 0 rfl ?_
      refine ze_if_lt 113 C d_M_before_100 (by decide) (fun h100 => ?_) (fun h100 => ?_)
      · refine ze_iconst (v := nI 1) C d_M_before_113 (by decide) ?_
        refine ze_goto 118 C d_M_before_114 (by decide) ?_
        exact ze_zret C Rt (by decide) d_M_before_118 (⟨rfl, rfl, _, rfl, by rw [ze_bf_1 (hc.1 h100)]; rfl, rfl⟩)
      · refine ze_iload C d_M_before_103 0 rfl ?_
        refine ze_if_ne 117 C d_M_before_105 (by decide) (fun h105 => ?_) (fun h105 => ?_)
        · refine ze_iconst (v := nI 0) C d_M_before_117 (by decide) ?_
          exact ze_zret C Rt (by decide) d_M_before_118 (⟨rfl, rfl, _, rfl, by rw [ze_bf_3 (hc.2.1 h100) (hc.2.2.2 h100 h105)]; rfl, rfl⟩)
        · refine ze_iload_n C d_M_before_108 5 rfl rfl ?_
          refine ze_iload_n C d_M_before_109 6 rfl rfl ?_
          refine ze_icmp_geN 117 C d_M_before_110 (by decide) (by omega) (by omega) (fun h110 => ?_) (fun h110 => ?_)
          · refine ze_iconst (v := nI 0) C d_M_before_117 (by decide) ?_
            exact ze_zret C Rt (by decide) d_M_before_118 (⟨rfl, rfl, _, rfl, by rw [ze_bf_2 (hc.2.1 h100) (hc.2.2.1 h105), decide_eq_false (by omega)]; rfl, rfl⟩)
          · refine ze_iconst (v := nI 1) C d_M_before_113 (by decide) ?_
            refine ze_goto 118 C d_M_before_114 (by decide) ?_
            exact ze_zret C Rt (by decide) d_M_before_118 (⟨rfl, rfl, _, rfl, by rw [ze_bf_2 (hc.2.1 h100) (hc.2.2.1 h105), decide_eq_true h110]; rfl, rfl⟩)
  · have hod : od = 0 := h12
    refine ze_aload_n C d_M_before_15 2 rfl rfl ?_
    refine ze_getf (k := 39) C fl_M_19 (by decide) ze_E_m rfl d_M_before_16 ?_
    refine ze_iload C d_M_before_19 1 rfl ?_
    refine ze_iald (k := 40 + 3) (i := 60 * s + i) C (by decide) (ze_E_a (j := 3)) (by show _ < 480; omega) (by decide) d_M_before_21 ?_
    refine ze_iconst (v := 0) C d_M_before_22 (by decide) ?_
    refine ze_aload_n C d_M_before_23 2 rfl rfl ?_
    refine ze_getf (k := 39) C fl_M_19 (by decide) ze_E_m rfl d_M_before_24 ?_
    refine ze_iload C d_M_before_27 0 rfl ?_
    refine ze_iald (k := 40 + 3) (i := 60 * s + j) C (by decide) (ze_E_a (j := 3)) (by show _ < 480; omega) (by decide) d_M_before_29 ?_
    refine ze_iconst (v := 0) C d_M_before_30 (by decide) ?_
    refine ze_callS (st := []) C (c_M_compare (ze_l G) (ze_D G) (ze_i G) _ _ _ (Ar 3 (60 * s + i)) 0 (Ar 3 (60 * s + j)) 0) (ks_M_61 (ze_rml (by decide) (by decide))) rfl (Nat.le_of_ble_eq_true rfl) ⟨Nat.le_of_ble_eq_true rfl, Nat.le_of_ble_eq_true rfl⟩ d_M_before_31 ?_
    rintro _ _ _ _ ⟨rfl, rfl, rfl, rfl⟩
    refine ze_norm (c2 := 0) (s2 := 0) (st' := [.int (ze_cp (Ar 3 (60 * s + i)) 0 (Ar 3 (60 * s + j)) 0)]) rfl rfl rfl ?_
    have hc : ze_co (ze_cp (Ar 3 (60 * s + i)) 0 (Ar 3 (60 * s + j)) 0) (ze_li od L) i j := ze_co_of (k' := 0) (v' := 0) (l' := 0) (w' := 0) (by rw [ze_li, ri, rj, hod]; exact ze_lt_02) (by rw [ze_li, ri, rj, hod]; exact ze_lt_02)
    generalize ze_cp (Ar 3 (60 * s + i)) 0 (Ar 3 (60 * s + j)) 0 = c at hc ⊢
    refine ze_goto 96 C d_M_before_34 (by decide) ?_
    refine ze_istore (lv' := [(7, .int c), (6, .int (nI (60 * s + j))), (5, .int (nI (60 * s + i))), (0, .ref (ad 39)), (1, .int (nI (60 * s))), (2, .int (nI i)), (3, .int (nI j)), (4, .int (nI od))]) C d_M_before_96 (by decide) rfl ?_
    refine ze_iload C d_M_before_98 0 rfl ?_
    refine ze_if_lt 113 C d_M_before_100 (by decide) (fun h100 => ?_) (fun h100 => ?_)
    · refine ze_iconst (v := nI 1) C d_M_before_113 (by decide) ?_
      refine ze_goto 118 C d_M_before_114 (by decide) ?_
      exact ze_zret C Rt (by decide) d_M_before_118 (⟨rfl, rfl, _, rfl, by rw [ze_bf_1 (hc.1 h100)]; rfl, rfl⟩)
    · refine ze_iload C d_M_before_103 0 rfl ?_
      refine ze_if_ne 117 C d_M_before_105 (by decide) (fun h105 => ?_) (fun h105 => ?_)
      · refine ze_iconst (v := nI 0) C d_M_before_117 (by decide) ?_
        exact ze_zret C Rt (by decide) d_M_before_118 (⟨rfl, rfl, _, rfl, by rw [ze_bf_3 (hc.2.1 h100) (hc.2.2.2 h100 h105)]; rfl, rfl⟩)
      · refine ze_iload_n C d_M_before_108 5 rfl rfl ?_
        refine ze_iload_n C d_M_before_109 6 rfl rfl ?_
        refine ze_icmp_geN 117 C d_M_before_110 (by decide) (by omega) (by omega) (fun h110 => ?_) (fun h110 => ?_)
        · refine ze_iconst (v := nI 0) C d_M_before_117 (by decide) ?_
          exact ze_zret C Rt (by decide) d_M_before_118 (⟨rfl, rfl, _, rfl, by rw [ze_bf_2 (hc.2.1 h100) (hc.2.2.1 h105), decide_eq_false (by omega)]; rfl, rfl⟩)
        · refine ze_iconst (v := nI 1) C d_M_before_113 (by decide) ?_
          refine ze_goto 118 C d_M_before_114 (by decide) ?_
          exact ze_zret C Rt (by decide) d_M_before_118 (⟨rfl, rfl, _, rfl, by rw [ze_bf_2 (hc.2.1 h100) (hc.2.2.1 h105), decide_eq_true h110]; rfl, rfl⟩)
