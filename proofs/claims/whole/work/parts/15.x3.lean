def ze_bk (sl : Nat → Option (List ze_Row)) (j : Nat) : Nat := match sl j with
  | none => 0
  | some L => ze_sz L.length
theorem ze_bk_sum (inp : List ze_Row) (sl : Nat → Option (List ze_Row)) (mv : Int64) (M : Nat) : sp_blocks (inp, sl, mv, M) = ((List.range 8).map (ze_bk sl)).sum := rfl
theorem ze_bk_succ (sl : Nat → Option (List ze_Row)) (p : Nat) : ((List.range (p + 1)).map (ze_bk sl)).sum = ((List.range p).map (ze_bk sl)).sum + ze_bk sl p := by
  rw [List.range_succ, List.map_append, List.sum_append]
  simp

set_option maxRecDepth 100000 in
set_option maxHeartbeats 4000000 in
theorem c_X_blocks (l : Launch) (D : va_G) (ids : Nat → ClassId) (ad : Nat → Nat) (ms : ze_MS) (M : Nat) (T : Nat → ze_T) (hd : Nat → Bool) (mv : Int64) (inp : List ze_Row) (sl : Nat → Option (List ze_Row)) (hR : ze_rX (M, T, hd, mv) (inp, sl, mv, M)) : ze_MX l D ids ad ms y_X_blocks ws_X_blocks 20 (M, T, hd, mv) [.ref (ad 0)] (fun v x' => v = some (.int (nI (sp_blocks (inp, sl, mv, M)))) ∧ ze_rX x' (inp, sl, mv, M)) := by
  refine ze_enter (cc := b_X_blocks) (maxL := 3) (ret := (some .int)) (by decide +kernel) rfl (Nat.le_of_ble_eq_true rfl) ?_
  rintro G rfl rfl rfl - C Rt
  refine ze_lv (lv' := [(0, .ref (ad 0))]) rfl ?_
  obtain ⟨-, hM3, hM6, -, hin, -, -⟩ := id hR
  simp only at hin hM3 hM6
  have loop : ∀ (r p t : Nat), 8 - p = r → p ≤ 8 → t = ((List.range p).map (ze_bk sl)).sum → t ≤ 60 * p → ze_V G 48 ad (ze_E (ze_i G) ad (M, T, hd, mv) ms) 0 0 4 [(2, .int (nI p)), (1, .int (nI t)), (0, .ref (ad 0))] [] := by
    intro r
    induction r using Nat.strongRecOn with
    | ind r ih =>
      intro p t hr h1 h2 h3
      refine ze_iload_n C d_X_blocks_4 0 rfl rfl ?_
      refine ze_bipush (v := nI 8) C d_X_blocks_5 (by decide) ?_
      refine ze_icmp_geN 40 C d_X_blocks_7 (by decide) (by omega) (by omega) (fun h7 => ?_) (fun h7 => ?_)
      · refine ze_iload_n C d_X_blocks_40 1 rfl rfl ?_
        exact ze_iret C Rt d_X_blocks_41 (⟨rfl, rfl, _, rfl, by rw [ze_bk_sum, h2, show p = 8 by omega], hR⟩)
      · refine ze_aload_n C d_X_blocks_10 2 rfl rfl ?_
        refine ze_getf C fl_X_29 (by decide) ze_E_x rfl d_X_blocks_11 ?_
        refine ze_iload_n C d_X_blocks_14 0 rfl rfl ?_
        refine ze_zald (k := 2) (i := p) C (by decide) ze_E_held (by omega) (by decide) d_X_blocks_15 ?_
        refine ze_if_eq 34 C d_X_blocks_16 (by decide) (fun h16 => ?_) (fun h16 => ?_)
        · have hoff := ze_rX_off hR (by omega) (ze_bi0.mp h16)
          refine ze_iinc (j := 0) (v := nI (p + 1)) (lv' := [(2, .int (nI (p + 1))), (1, .int (nI t)), (0, .ref (ad 0))]) C d_X_blocks_34 rfl (nI_1 _) (by decide) rfl ?_
          refine ze_goto 4 C d_X_blocks_37 (by decide) ?_
          refine ze_sub [(2, .int (nI (p + 1))), (1, .int (nI t)), (0, .ref (ad 0))] [0, 1, 2] rfl ?_
          exact ih (8 - (p + 1)) (by omega) (p + 1) _ rfl (by omega) (by rw [ze_bk_succ, h2, ze_bk, hoff]; rfl) (by omega)
        · obtain ⟨L, hL, hL2⟩ := ze_rX_on hR (by omega) (ze_bi1 h16)
          have hcp : (T p).2.2.1 ≤ 60 := by rw [hL2.1]; exact hL2.2.1
          refine ze_iload_n C d_X_blocks_19 1 rfl rfl ?_
          refine ze_aload_n C d_X_blocks_20 2 rfl rfl ?_
          refine ze_getf C fl_X_24 (by decide) ze_E_x rfl d_X_blocks_21 ?_
          refine ze_iload_n C d_X_blocks_24 0 rfl rfl ?_
          refine ze_aald (k := 1) (i := p) C (by decide) ze_E_tabs (by omega) (by decide) rfl d_X_blocks_25 ?_
          refine ze_getf (k := 3 + 3 * p) C fl_X_50 (by omega) (ze_E_t (i := p) (by omega)) rfl d_X_blocks_26 ?_
          refine ze_callS (st := [.int (nI t)]) C (c_X_sizeOf (ze_l G) (ze_D G) (ze_i G) _ _ _ ((T p).2.2.1) (by omega)) (ks_X_68 (ze_rml (by decide) (by decide))) rfl (Nat.le_of_ble_eq_true rfl) ⟨Nat.le_of_ble_eq_true rfl, Nat.le_of_ble_eq_true rfl⟩ d_X_blocks_29 ?_
          rintro _ _ _ _ ⟨rfl, rfl, rfl, rfl⟩
          refine ze_norm (c2 := 0) (s2 := 0) (st' := [.int (nI (ze_sz ((T p).2.2.1))), .int (nI t)]) rfl rfl rfl ?_
          have hz29 := ze_sz_le ((T p).2.2.1)
          refine ze_iaddN C d_X_blocks_32 ?_
          refine ze_istore_n (lv' := [(1, .int (nI (t + (ze_sz ((T p).2.2.1))))), (2, .int (nI p)), (0, .ref (ad 0))]) C d_X_blocks_33 rfl (by decide) rfl ?_
          refine ze_iinc (j := 1) (v := nI (p + 1)) (lv' := [(2, .int (nI (p + 1))), (1, .int (nI (t + (ze_sz ((T p).2.2.1))))), (0, .ref (ad 0))]) C d_X_blocks_34 rfl (nI_1 _) (by decide) rfl ?_
          refine ze_goto 4 C d_X_blocks_37 (by decide) ?_
          refine ze_sub [(2, .int (nI (p + 1))), (1, .int (nI (t + ze_sz (T p).2.2.1))), (0, .ref (ad 0))] [0, 1, 2] rfl ?_
          exact ih (8 - (p + 1)) (by omega) (p + 1) _ rfl (by omega) (by rw [ze_bk_succ, h2, ze_bk, hL]; simp only [hL2.1]) (by omega)
  refine ze_iconst (v := nI 0) C d_X_blocks_0 (by decide) ?_
  refine ze_istore_n (lv' := [(1, .int (nI 0)), (0, .ref (ad 0))]) C d_X_blocks_1 rfl (by decide) rfl ?_
  refine ze_iconst (v := nI 0) C d_X_blocks_2 (by decide) ?_
  refine ze_istore_n (lv' := [(2, .int (nI 0)), (1, .int (nI 0)), (0, .ref (ad 0))]) C d_X_blocks_3 rfl (by decide) rfl ?_
  exact loop _ 0 0 rfl (by decide) rfl (Nat.le_refl _)

theorem ze_ord_no {σ : ze_Sg} {fr order into : Int32} {M : Nat} (h : order < 0 ∨ ¬ order ≤ nI 2) : sp_sort σ fr order into = (-1, σ) := by
  have : decide (0 ≤ order.toInt ∧ order.toInt ≤ 2) = false := by
    refine decide_eq_false ?_
    rw [Int32.lt_iff_toInt_lt, Int32.le_iff_toInt_le] at h
    simp only [show (0 : Int32).toInt = 0 from rfl, show (nI 2).toInt = 2 from rfl] at h
    omega
  simp [sp_sort, sp_op, this]
theorem ze_ord_yes {order : Int32} (h1 : ¬ order < 0) (h2 : order ≤ nI 2) : ∃ od, od ≤ 2 ∧ order = nI od := by
  obtain ⟨od, h3, rfl⟩ := nI_of h1
  rw [nI_leI h3 (by decide)] at h2
  exact ⟨od, h2, rfl⟩
theorem ze_sort_op {σ : ze_Sg} {fr into : Int32} {od : Nat} (h : od ≤ 2) : sp_sort σ fr (nI od) into = sp_op σ true fr fr into (fun A _ => (ze_srt od A, ze_sc σ.2.2.2 A.length)) := by
  have h1 : decide (0 ≤ (nI od).toInt ∧ (nI od).toInt ≤ 2) = true := decide_eq_true (by rw [nI_toInt (by omega)]; omega)
  rw [sp_sort, h1, ze_n_nI (by omega)]

set_option maxRecDepth 100000 in
set_option maxHeartbeats 4000000 in
theorem c_X_sort (l : Launch) (D : va_G) (ids : Nat → ClassId) (ad : Nat → Nat) (ms : ze_MS) (M : Nat) (T : Nat → ze_T) (hd : Nat → Bool) (mv : Int64) (inp : List ze_Row) (sl : Nat → Option (List ze_Row)) (hR : ze_rX (M, T, hd, mv) (inp, sl, mv, M)) (fr order into : Int32) : ze_MX l D ids ad ms y_X_sort ws_X_sort 20 (M, T, hd, mv) [.ref (ad 0), .int fr, .int order, .int into] (fun v x' => v = some (.int (sp_sort (inp, sl, mv, M) fr order into).1) ∧ ze_rX x' (sp_sort (inp, sl, mv, M) fr order into).2) := by
  refine ze_enter (cc := b_X_sort) (maxL := 6) (ret := (some .int)) (by decide +kernel) rfl (Nat.le_of_ble_eq_true rfl) ?_
  rintro G rfl rfl rfl - C Rt
  refine ze_lv (lv' := [(0, .ref (ad 0)), (1, .int fr), (2, .int order), (3, .int into)]) rfl ?_
  obtain ⟨-, hM3, hM6, -, hin, -, -⟩ := id hR
  simp only at hin hM3 hM6
  refine ze_iload_n C d_X_sort_0 2 rfl rfl ?_
  refine ze_if_lt 9 C d_X_sort_1 (by decide) (fun h1 => ?_) (fun h1 => ?_)
  · refine ze_iconst (v := -1) C d_X_sort_9 (by decide) ?_
    exact ze_iret C Rt d_X_sort_10 (⟨rfl, rfl, _, rfl, by rw [ze_ord_no (M := 0) (Or.inl h1)], by rw [ze_ord_no (M := 0) (Or.inl h1)]; exact hR⟩)
  · refine ze_iload_n C d_X_sort_4 2 rfl rfl ?_
    refine ze_iconst (v := nI 2) C d_X_sort_5 (by decide) ?_
    refine ze_icmp_le 11 C d_X_sort_6 (by decide) (fun h6 => ?_) (fun h6 => ?_)
    · obtain ⟨od, hod, rfl⟩ := ze_ord_yes h1 h6
      have hsp0 := ze_sort_op (σ := (inp, sl, mv, M)) (fr := fr) (into := into) hod
      refine ze_aload_n C d_X_sort_11 0 rfl rfl ?_
      refine ze_iload_n C d_X_sort_12 1 rfl rfl ?_
      refine ze_iload_n C d_X_sort_13 1 rfl rfl ?_
      refine ze_iload_n C d_X_sort_14 3 rfl rfl ?_
      refine ze_callV (st := []) C (c_X_refusalOf (ze_l G) (ze_D G) (ze_i G) ad ms M T hd mv fr fr into) (kv_X_90 (ze_rml (by decide) (by decide))) (by decide) ze_E_x rfl (Nat.le_of_ble_eq_true rfl) ⟨Nat.le_of_ble_eq_true rfl, Nat.le_of_ble_eq_true rfl⟩ d_X_sort_15 ?_
      rintro _ _ _ _ ⟨rfl, rfl, _, rfl, rfl, rfl⟩
      refine ze_norm (c2 := 0) (s2 := 0) (st' := [.int (ze_rf hd fr fr into)]) rfl rfl rfl ?_
      refine ze_istore (lv' := [(4, .int (ze_rf hd fr fr into)), (0, .ref (ad 0)), (1, .int fr), (2, .int (nI od)), (3, .int into)]) C d_X_sort_18 (by decide) rfl ?_
      refine ze_iload C d_X_sort_20 0 rfl ?_
      refine ze_if_eq 28 C d_X_sort_22 (by decide) (fun h22 => ?_) (fun h22 => ?_)
      · obtain ⟨ja, ji, A, hja, hji, rfl, rfl, hne, hA, hI, hHA, hop⟩ := ze_rf_01 hR h22
        have hcA : (T ja).2.2.1 = A.length := hHA.1
        have hA60 : A.length ≤ 60 := hHA.2.1
        refine ze_sub [(0, .ref (ad 0)), (1, .int (nI ja)), (2, .int (nI od)), (3, .int (nI ji))] [1, 2, 3, 4] rfl ?_
        have hsp : sp_sort (inp, sl, mv, M) (nI ja) (nI od) (nI ji) = sp_fin (inp, sl, mv, M) ji (ze_srt od A, ze_sc M A.length) := by rw [hsp0, hop]
        refine ze_aload_n C d_X_sort_28 0 rfl rfl ?_
        refine ze_getf C fl_X_24 (by decide) ze_E_x rfl d_X_sort_29 ?_
        refine ze_iload_n C d_X_sort_32 3 rfl rfl ?_
        refine ze_aald (k := 1) (i := ji) C (by decide) ze_E_tabs (by omega) (by decide) rfl d_X_sort_33 ?_
        refine ze_astore (lv' := [(5, .ref (ad (3 + 3 * ji))), (0, .ref (ad 0)), (1, .int (nI ja)), (2, .int (nI od)), (3, .int (nI ji))]) C d_X_sort_34 (by decide) rfl ?_
        refine ze_aload C d_X_sort_36 0 rfl ?_
        refine ze_aload_n C d_X_sort_38 1 rfl rfl ?_
        refine ze_getf C fl_X_24 (by decide) ze_E_x rfl d_X_sort_39 ?_
        refine ze_iload_n C d_X_sort_42 2 rfl rfl ?_
        refine ze_aald (k := 1) (i := ja) C (by decide) ze_E_tabs (by omega) (by decide) rfl d_X_sort_43 ?_
        refine ze_eqE (ze_foc ji) ?_
        refine ze_callV (st := []) C (c_T_copyFrom (ze_l G) (ze_D G) (ze_i G) ad ms M T hd mv ji (by omega) (T ji).1 (T ji).2.1 (T ji).2.2.1 (T ji).2.2.2 ja (by omega) (by omega) (by omega)) (kv_X_61 (ze_rml (by decide) (by decide))) (by omega) (ze_F_t (i := ji) (by omega)) rfl (Nat.le_of_ble_eq_true rfl) ⟨Nat.le_of_ble_eq_true rfl, Nat.le_of_ble_eq_true rfl⟩ d_X_sort_44 ?_
        rintro _ _ _ _ ⟨rfl, rfl, _, rfl, rfl, rfl⟩
        refine ze_genT (fun T1 eT1 => ?_)
        refine ze_norm (c2 := 0) (s2 := 0) (st' := []) rfl rfl rfl ?_
        obtain ⟨hH1, ho1⟩ := ze_H_cpy hHA eT1
        have hR1 := ze_rX_wk hR (by omega) (fun _ => hI) (ze_upo eT1)
        have hc1 : (T1 ji).2.2.1 = A.length := hH1.1
        refine ze_aload C d_X_sort_47 0 rfl ?_
        refine ze_iload_n C d_X_sort_49 3 rfl rfl ?_
        refine ze_eqE (ze_foc ji) ?_
        refine ze_callV (st := []) C (c_T_arrange (ze_l G) (ze_D G) (ze_i G) ad ms M T1 hd mv ji (by omega) (T1 ji).1 (T1 ji).2.1 (T1 ji).2.2.1 (T1 ji).2.2.2 A hH1 (by omega) od hod) (kv_X_94 (ze_rml (by decide) (by decide))) (by omega) (ze_F_t (i := ji) (by omega)) rfl (Nat.le_of_ble_eq_true rfl) ⟨Nat.le_of_ble_eq_true rfl, Nat.le_of_ble_eq_true rfl⟩ d_X_sort_50 ?_
        rintro _ _ _ _ ⟨rfl, rfl, _, rfl, rfl, f2, g2, rfl, hs2⟩
        refine ze_genT (fun T2 eT2 => ?_)
        refine ze_norm (c2 := 0) (s2 := 0) (st' := []) rfl rfl rfl ?_
        have hH2 : ze_H (T2 ji) (ze_srt od A) := by rw [ze_ups eT2]; exact hs2
        have ho2 : (T2 ji).2.2.2 = false := by rw [ze_ups eT2]; exact ho1
        have hR2 := ze_rX_wk hR1 (by omega) (fun _ => hI) (ze_upo eT2)
        have hc2 : (T2 ji).2.2.1 = A.length := by rw [hH2.1, ze_srt_len]
        refine ze_aload_n C d_X_sort_53 1 rfl rfl ?_
        refine ze_iload_n C d_X_sort_54 4 rfl rfl ?_
        refine ze_aload_n C d_X_sort_55 1 rfl rfl ?_
        refine ze_aload C d_X_sort_56 0 rfl ?_
        refine ze_getf (k := 3 + 3 * ji) C fl_X_50 (by omega) (ze_E_t (i := ji) (by omega)) rfl d_X_sort_58 ?_
        refine ze_callV (st := [.int (nI ji), .ref (ad 0)]) C (c_X_sortCost (ze_l G) (ze_D G) (ze_i G) ad ms M T2 hd mv ⟨hM3, hM6⟩ (T2 ji).2.2.1 (by omega)) (kv_X_98 (ze_rml (by decide) (by decide))) (by decide) ze_E_x rfl (Nat.le_of_ble_eq_true rfl) ⟨Nat.le_of_ble_eq_true rfl, Nat.le_of_ble_eq_true rfl⟩ d_X_sort_61 ?_
        rintro _ _ _ _ ⟨rfl, rfl, _, rfl, rfl, rfl⟩
        refine ze_norm (c2 := 0) (s2 := 0) (st' := [.long (lN (ze_sc M (T2 ji).2.2.1)), .int (nI ji), .ref (ad 0)]) rfl rfl rfl ?_
        refine ze_callV (st := []) C (c_X_finish (ze_l G) (ze_D G) (ze_i G) ad ms M T2 hd mv ji (by omega) (lN (ze_sc M (T2 ji).2.2.1))) (kv_X_72 (ze_rml (by decide) (by decide))) (by decide) ze_E_x rfl (Nat.le_of_ble_eq_true rfl) ⟨Nat.le_of_ble_eq_true rfl, Nat.le_of_ble_eq_true rfl⟩ d_X_sort_64 ?_
        rintro _ _ _ _ ⟨rfl, rfl, x', rfl, hfin⟩
        obtain ⟨r, rfl, hr1, hr2⟩ := ze_op_end (q := (ze_srt od A, ze_sc M A.length)) hR2 hji (ze_H_Hu hH2 ho2) (fun _ => by rw [hc2]) hfin
        refine ze_norm (c2 := 0) (s2 := 0) (st' := [.int r]) rfl rfl rfl ?_
        exact ze_iret C Rt d_X_sort_67 ⟨rfl, rfl, _, rfl, by rw [hsp, hr1], by rw [hsp]; exact hr2⟩
      · refine ze_iload C d_X_sort_25 0 rfl ?_
        exact ze_iret C Rt d_X_sort_27 (⟨rfl, rfl, _, rfl, by rw [hsp0, ze_rf_ne hR h22], by rw [hsp0, ze_rf_ne hR h22]; exact hR⟩)
    · refine ze_iconst (v := -1) C d_X_sort_9 (by decide) ?_
      exact ze_iret C Rt d_X_sort_10 (⟨rfl, rfl, _, rfl, by rw [ze_ord_no (M := 0) (Or.inr h6)], by rw [ze_ord_no (M := 0) (Or.inr h6)]; exact hR⟩)

set_option maxRecDepth 100000 in
set_option maxHeartbeats 4000000 in
theorem c_X_distinct (l : Launch) (D : va_G) (ids : Nat → ClassId) (ad : Nat → Nat) (ms : ze_MS) (M : Nat) (T : Nat → ze_T) (hd : Nat → Bool) (mv : Int64) (inp : List ze_Row) (sl : Nat → Option (List ze_Row)) (hR : ze_rX (M, T, hd, mv) (inp, sl, mv, M)) (fr into : Int32) : ze_MX l D ids ad ms y_X_distinct ws_X_distinct 20 (M, T, hd, mv) [.ref (ad 0), .int fr, .int into] (fun v x' => v = some (.int (sp_distinct (inp, sl, mv, M) fr into).1) ∧ ze_rX x' (sp_distinct (inp, sl, mv, M) fr into).2) := by
  refine ze_enter (cc := b_X_distinct) (maxL := 6) (ret := (some .int)) (by decide +kernel) rfl (Nat.le_of_ble_eq_true rfl) ?_
  rintro G rfl rfl rfl - C Rt
  refine ze_lv (lv' := [(0, .ref (ad 0)), (1, .int fr), (2, .int into)]) rfl ?_
  obtain ⟨-, hM3, hM6, -, hin, -, -⟩ := id hR
  simp only at hin hM3 hM6
  refine ze_aload_n C d_X_distinct_0 0 rfl rfl ?_
  refine ze_iload_n C d_X_distinct_1 1 rfl rfl ?_
  refine ze_iload_n C d_X_distinct_2 1 rfl rfl ?_
  refine ze_iload_n C d_X_distinct_3 2 rfl rfl ?_
  refine ze_callV (st := []) C (c_X_refusalOf (ze_l G) (ze_D G) (ze_i G) ad ms M T hd mv fr fr into) (kv_X_90 (ze_rml (by decide) (by decide))) (by decide) ze_E_x rfl (Nat.le_of_ble_eq_true rfl) ⟨Nat.le_of_ble_eq_true rfl, Nat.le_of_ble_eq_true rfl⟩ d_X_distinct_4 ?_
  rintro _ _ _ _ ⟨rfl, rfl, _, rfl, rfl, rfl⟩
  refine ze_norm (c2 := 0) (s2 := 0) (st' := [.int (ze_rf hd fr fr into)]) rfl rfl rfl ?_
  refine ze_istore_n (lv' := [(3, .int (ze_rf hd fr fr into)), (0, .ref (ad 0)), (1, .int fr), (2, .int into)]) C d_X_distinct_7 rfl (by decide) rfl ?_
  refine ze_iload_n C d_X_distinct_8 0 rfl rfl ?_
  refine ze_if_eq 14 C d_X_distinct_9 (by decide) (fun h9 => ?_) (fun h9 => ?_)
  · obtain ⟨ja, ji, A, hja, hji, rfl, rfl, hne, hA, hI, hHA, hop⟩ := ze_rf_01 hR h9
    have hcA : (T ja).2.2.1 = A.length := hHA.1
    have hA60 : A.length ≤ 60 := hHA.2.1
    refine ze_sub [(0, .ref (ad 0)), (1, .int (nI ja)), (2, .int (nI ji))] [1, 2, 3] rfl ?_
    have hsp : sp_distinct (inp, sl, mv, M) (nI ja) (nI ji) = sp_fin (inp, sl, mv, M) ji (ze_un A A, ze_sc M A.length + ze_sz A.length + ze_sz (ze_un A A).length) := by rw [sp_distinct, hop]
    refine ze_aload_n C d_X_distinct_14 0 rfl rfl ?_
    refine ze_getf C fl_X_24 (by decide) ze_E_x rfl d_X_distinct_15 ?_
    refine ze_iload_n C d_X_distinct_18 2 rfl rfl ?_
    refine ze_aald (k := 1) (i := ji) C (by decide) ze_E_tabs (by omega) (by decide) rfl d_X_distinct_19 ?_
    refine ze_astore (lv' := [(4, .ref (ad (3 + 3 * ji))), (0, .ref (ad 0)), (1, .int (nI ja)), (2, .int (nI ji))]) C d_X_distinct_20 (by decide) rfl ?_
    refine ze_aload C d_X_distinct_22 0 rfl ?_
    refine ze_aload_n C d_X_distinct_24 1 rfl rfl ?_
    refine ze_getf C fl_X_24 (by decide) ze_E_x rfl d_X_distinct_25 ?_
    refine ze_iload_n C d_X_distinct_28 2 rfl rfl ?_
    refine ze_aald (k := 1) (i := ja) C (by decide) ze_E_tabs (by omega) (by decide) rfl d_X_distinct_29 ?_
    refine ze_eqE (ze_foc ji) ?_
    refine ze_callV (st := []) C (c_T_copyFrom (ze_l G) (ze_D G) (ze_i G) ad ms M T hd mv ji (by omega) (T ji).1 (T ji).2.1 (T ji).2.2.1 (T ji).2.2.2 ja (by omega) (by omega) (by omega)) (kv_X_61 (ze_rml (by decide) (by decide))) (by omega) (ze_F_t (i := ji) (by omega)) rfl (Nat.le_of_ble_eq_true rfl) ⟨Nat.le_of_ble_eq_true rfl, Nat.le_of_ble_eq_true rfl⟩ d_X_distinct_30 ?_
    rintro _ _ _ _ ⟨rfl, rfl, _, rfl, rfl, rfl⟩
    refine ze_genT (fun T1 eT1 => ?_)
    refine ze_norm (c2 := 0) (s2 := 0) (st' := []) rfl rfl rfl ?_
    obtain ⟨hH1, ho1⟩ := ze_H_cpy hHA eT1
    have hR1 := ze_rX_wk hR (by omega) (fun _ => hI) (ze_upo eT1)
    have hc1 : (T1 ji).2.2.1 = A.length := hH1.1
    refine ze_aload C d_X_distinct_33 0 rfl ?_
    refine ze_iconst (v := nI 2) C d_X_distinct_35 (by decide) ?_
    refine ze_eqE (ze_foc ji) ?_
    refine ze_callV (st := []) C (c_T_arrange (ze_l G) (ze_D G) (ze_i G) ad ms M T1 hd mv ji (by omega) (T1 ji).1 (T1 ji).2.1 (T1 ji).2.2.1 (T1 ji).2.2.2 A hH1 (by omega) 2 (by decide)) (kv_X_94 (ze_rml (by decide) (by decide))) (by omega) (ze_F_t (i := ji) (by omega)) rfl (Nat.le_of_ble_eq_true rfl) ⟨Nat.le_of_ble_eq_true rfl, Nat.le_of_ble_eq_true rfl⟩ d_X_distinct_36 ?_
    rintro _ _ _ _ ⟨rfl, rfl, _, rfl, rfl, f2, g2, rfl, hs2⟩
    refine ze_genT (fun T2 eT2 => ?_)
    refine ze_norm (c2 := 0) (s2 := 0) (st' := []) rfl rfl rfl ?_
    have hH2 : ze_H (T2 ji) (ze_srt 2 A) := by rw [ze_ups eT2]; exact hs2
    have ho2 : (T2 ji).2.2.2 = false := by rw [ze_ups eT2]; exact ho1
    have hR2 := ze_rX_wk hR1 (by omega) (fun _ => hI) (ze_upo eT2)
    have hc2 : (T2 ji).2.2.1 = A.length := by rw [hH2.1, ze_srt_len]
    refine ze_aload C d_X_distinct_39 0 rfl ?_
    refine ze_eqE (ze_foc ji) ?_
    refine ze_callV (st := []) C (c_T_dropRepeats (ze_l G) (ze_D G) (ze_i G) ad ms M T2 hd mv ji (by omega) (T2 ji).1 (T2 ji).2.1 (T2 ji).2.2.1 (T2 ji).2.2.2 (ze_srt 2 A) hH2 (by omega)) (kv_X_102 (ze_rml (by decide) (by decide))) (by omega) (ze_F_t (i := ji) (by omega)) rfl (Nat.le_of_ble_eq_true rfl) ⟨Nat.le_of_ble_eq_true rfl, Nat.le_of_ble_eq_true rfl⟩ d_X_distinct_41 ?_
    rintro _ _ _ _ ⟨rfl, rfl, _, rfl, rfl, f3, g3, rfl, hs3⟩
    refine ze_genT (fun T3 eT3 => ?_)
    refine ze_norm (c2 := 0) (s2 := 0) (st' := []) rfl rfl rfl ?_
    have hH3 : ze_H (T3 ji) (ze_un A A) := by rw [ze_ups eT3, ze_un_self]; exact hs3
    have ho3 : (T3 ji).2.2.2 = false := by rw [ze_ups eT3]; exact ho2
    have hR3 := ze_rX_wk hR2 (by omega) (fun _ => hI) (ze_upo eT3)
    have hc3 : (T3 ji).2.2.1 = (ze_un A A).length := hH3.1
    have hc60 : (ze_un A A).length ≤ 60 := hH3.2.1
    have ea : (T3 ja).2.2.1 = A.length := by rw [ze_upo eT3 ja (by omega), ze_upo eT2 ja (by omega), ze_upo eT1 ja (by omega)]; exact hcA
    refine ze_aload_n C d_X_distinct_44 1 rfl rfl ?_
    refine ze_getf C fl_X_24 (by decide) ze_E_x rfl d_X_distinct_45 ?_
    refine ze_iload_n C d_X_distinct_48 2 rfl rfl ?_
    refine ze_aald (k := 1) (i := ja) C (by decide) ze_E_tabs (by omega) (by decide) rfl d_X_distinct_49 ?_
    refine ze_getf (k := 3 + 3 * ja) C fl_X_50 (by omega) (ze_E_t (i := ja) (by omega)) rfl d_X_distinct_50 ?_
    refine ze_istore (lv' := [(5, .int (nI ((T3 ja).2.2.1))), (4, .ref (ad (3 + 3 * ji))), (0, .ref (ad 0)), (1, .int (nI ja)), (2, .int (nI ji))]) C d_X_distinct_53 (by decide) rfl ?_
    refine ze_aload_n C d_X_distinct_55 2 rfl rfl ?_
    refine ze_iload_n C d_X_distinct_56 4 rfl rfl ?_
    refine ze_aload_n C d_X_distinct_57 2 rfl rfl ?_
    refine ze_iload C d_X_distinct_58 0 rfl ?_
    refine ze_callV (st := [.int (nI ji), .ref (ad 0)]) C (c_X_sortCost (ze_l G) (ze_D G) (ze_i G) ad ms M T3 hd mv ⟨hM3, hM6⟩ (T3 ja).2.2.1 (by omega)) (kv_X_98 (ze_rml (by decide) (by decide))) (by decide) ze_E_x rfl (Nat.le_of_ble_eq_true rfl) ⟨Nat.le_of_ble_eq_true rfl, Nat.le_of_ble_eq_true rfl⟩ d_X_distinct_60 ?_
    rintro _ _ _ _ ⟨rfl, rfl, _, rfl, rfl, rfl⟩
    refine ze_norm (c2 := 0) (s2 := 0) (st' := [.long (lN (ze_sc M (T3 ja).2.2.1)), .int (nI ji), .ref (ad 0)]) rfl rfl rfl ?_
    refine ze_iload C d_X_distinct_63 0 rfl ?_
    refine ze_callS (st := [.long (lN (ze_sc M (T3 ja).2.2.1)), .int (nI ji), .ref (ad 0)]) C (c_X_sizeOf (ze_l G) (ze_D G) (ze_i G) _ _ _ ((T3 ja).2.2.1) (by omega)) (ks_X_68 (ze_rml (by decide) (by decide))) rfl (Nat.le_of_ble_eq_true rfl) ⟨Nat.le_of_ble_eq_true rfl, Nat.le_of_ble_eq_true rfl⟩ d_X_distinct_65 ?_
    rintro _ _ _ _ ⟨rfl, rfl, rfl, rfl⟩
    refine ze_norm (c2 := 0) (s2 := 0) (st' := [.int (nI (ze_sz ((T3 ja).2.2.1))), .long (lN (ze_sc M (T3 ja).2.2.1)), .int (nI ji), .ref (ad 0)]) rfl rfl rfl ?_
    have hz65 := ze_sz_le ((T3 ja).2.2.1)
    refine ze_i2lN C d_X_distinct_68 (by omega) ?_
    refine ze_laddN C d_X_distinct_69 ?_
    refine ze_aload C d_X_distinct_70 1 rfl ?_
    refine ze_getf (k := 3 + 3 * ji) C fl_X_50 (by omega) (ze_E_t (i := ji) (by omega)) rfl d_X_distinct_72 ?_
    refine ze_callS (st := [.long (lN (ze_sc M (T3 ja).2.2.1 + (ze_sz ((T3 ja).2.2.1)))), .int (nI ji), .ref (ad 0)]) C (c_X_sizeOf (ze_l G) (ze_D G) (ze_i G) _ _ _ ((T3 ji).2.2.1) (by omega)) (ks_X_68 (ze_rml (by decide) (by decide))) rfl (Nat.le_of_ble_eq_true rfl) ⟨Nat.le_of_ble_eq_true rfl, Nat.le_of_ble_eq_true rfl⟩ d_X_distinct_75 ?_
    rintro _ _ _ _ ⟨rfl, rfl, rfl, rfl⟩
    refine ze_norm (c2 := 0) (s2 := 0) (st' := [.int (nI (ze_sz ((T3 ji).2.2.1))), .long (lN (ze_sc M (T3 ja).2.2.1 + (ze_sz ((T3 ja).2.2.1)))), .int (nI ji), .ref (ad 0)]) rfl rfl rfl ?_
    have hz75 := ze_sz_le ((T3 ji).2.2.1)
    refine ze_i2lN C d_X_distinct_78 (by omega) ?_
    refine ze_laddN C d_X_distinct_79 ?_
    refine ze_callV (st := []) C (c_X_finish (ze_l G) (ze_D G) (ze_i G) ad ms M T3 hd mv ji (by omega) (lN (ze_sc M (T3 ja).2.2.1 + (ze_sz ((T3 ja).2.2.1)) + (ze_sz ((T3 ji).2.2.1))))) (kv_X_72 (ze_rml (by decide) (by decide))) (by decide) ze_E_x rfl (Nat.le_of_ble_eq_true rfl) ⟨Nat.le_of_ble_eq_true rfl, Nat.le_of_ble_eq_true rfl⟩ d_X_distinct_80 ?_
    rintro _ _ _ _ ⟨rfl, rfl, x', rfl, hfin⟩
    obtain ⟨r, rfl, hr1, hr2⟩ := ze_op_end (q := (ze_un A A, ze_sc M A.length + ze_sz A.length + ze_sz (ze_un A A).length)) hR3 hji (ze_H_Hu hH3 ho3) (fun _ => by rw [hc3, ea]) hfin
    refine ze_norm (c2 := 0) (s2 := 0) (st' := [.int r]) rfl rfl rfl ?_
    exact ze_iret C Rt d_X_distinct_83 ⟨rfl, rfl, _, rfl, by rw [hsp, hr1], by rw [hsp]; exact hr2⟩
  · refine ze_iload_n C d_X_distinct_12 0 rfl rfl ?_
    exact ze_iret C Rt d_X_distinct_13 (⟨rfl, rfl, _, rfl, by rw [sp_distinct, ze_rf_ne hR h9], by rw [sp_distinct, ze_rf_ne hR h9]; exact hR⟩)

theorem ze_sel_snoc (low high : Int32) (A : List ze_Row) (r : ze_Row) : ze_sel low high (A ++ [r]) = if low ≤ r.1 ∧ r.1 ≤ high then ze_sel low high A ++ [r] else ze_sel low high A := by
  unfold ze_sel
  rw [List.filter_append]
  by_cases h : low ≤ r.1 ∧ r.1 ≤ high
  · rw [if_pos h]; simp [h]
  · rw [if_neg h]; simp [h]
theorem ze_take_snoc {t : ze_T} {A : List ze_Row} {p : Nat} (h : ze_H t A) (hp : p < A.length) : A.take (p + 1) = A.take p ++ [(t.1 p, t.2.1 p)] := by
  rw [List.take_succ, ze_H_row h hp]
  rfl

set_option maxRecDepth 100000 in
set_option maxHeartbeats 4000000 in
theorem c_X_select (l : Launch) (D : va_G) (ids : Nat → ClassId) (ad : Nat → Nat) (ms : ze_MS) (M : Nat) (T : Nat → ze_T) (hd : Nat → Bool) (mv : Int64) (inp : List ze_Row) (sl : Nat → Option (List ze_Row)) (hR : ze_rX (M, T, hd, mv) (inp, sl, mv, M)) (fr low high into : Int32) : ze_MX l D ids ad ms y_X_select ws_X_select 20 (M, T, hd, mv) [.ref (ad 0), .int fr, .int low, .int high, .int into] (fun v x' => v = some (.int (sp_select (inp, sl, mv, M) fr low high into).1) ∧ ze_rX x' (sp_select (inp, sl, mv, M) fr low high into).2) := by
  refine ze_enter (cc := b_X_select) (maxL := 9) (ret := (some .int)) (by decide +kernel) rfl (Nat.le_of_ble_eq_true rfl) ?_
  rintro G rfl rfl rfl - C Rt
  refine ze_lv (lv' := [(0, .ref (ad 0)), (1, .int fr), (2, .int low), (3, .int high), (4, .int into)]) rfl ?_
  obtain ⟨-, hM3, hM6, -, hin, -, -⟩ := id hR
  simp only at hin hM3 hM6
  refine ze_aload_n C d_X_select_0 0 rfl rfl ?_
  refine ze_iload_n C d_X_select_1 1 rfl rfl ?_
  refine ze_iload_n C d_X_select_2 1 rfl rfl ?_
  refine ze_iload C d_X_select_3 4 rfl ?_
  refine ze_callV (st := []) C (c_X_refusalOf (ze_l G) (ze_D G) (ze_i G) ad ms M T hd mv fr fr into) (kv_X_90 (ze_rml (by decide) (by decide))) (by decide) ze_E_x rfl (Nat.le_of_ble_eq_true rfl) ⟨Nat.le_of_ble_eq_true rfl, Nat.le_of_ble_eq_true rfl⟩ d_X_select_5 ?_
  rintro _ _ _ _ ⟨rfl, rfl, _, rfl, rfl, rfl⟩
  refine ze_norm (c2 := 0) (s2 := 0) (st' := [.int (ze_rf hd fr fr into)]) rfl rfl rfl ?_
  refine ze_istore (lv' := [(5, .int (ze_rf hd fr fr into)), (0, .ref (ad 0)), (1, .int fr), (2, .int low), (3, .int high), (4, .int into)]) C d_X_select_8 (by decide) rfl ?_
  refine ze_iload C d_X_select_10 0 rfl ?_
  refine ze_if_eq 18 C d_X_select_12 (by decide) (fun h12 => ?_) (fun h12 => ?_)
  · obtain ⟨ja, ji, A, hja, hji, rfl, rfl, hne, hA, hI, hHA, hop⟩ := ze_rf_01 hR h12
    have hcA : (T ja).2.2.1 = A.length := hHA.1
    have hA60 : A.length ≤ 60 := hHA.2.1
    refine ze_sub [(0, .ref (ad 0)), (1, .int (nI ja)), (2, .int low), (3, .int high), (4, .int (nI ji))] [1, 2, 3, 4, 5] rfl ?_
    have hsp : sp_select (inp, sl, mv, M) (nI ja) low high (nI ji) = sp_fin (inp, sl, mv, M) ji (ze_sel low high A, ze_sz A.length + ze_sz (ze_sel low high A).length) := by rw [sp_select, hop]
    refine ze_aload_n C d_X_select_18 0 rfl rfl ?_
    refine ze_getf C fl_X_24 (by decide) ze_E_x rfl d_X_select_19 ?_
    refine ze_iload_n C d_X_select_22 1 rfl rfl ?_
    refine ze_aald (k := 1) (i := ja) C (by decide) ze_E_tabs (by omega) (by decide) rfl d_X_select_23 ?_
    refine ze_astore (lv' := [(6, .ref (ad (3 + 3 * ja))), (0, .ref (ad 0)), (1, .int (nI ja)), (2, .int low), (3, .int high), (4, .int (nI ji))]) C d_X_select_24 (by decide) rfl ?_
    refine ze_aload_n C d_X_select_26 1 rfl rfl ?_
    refine ze_getf C fl_X_24 (by decide) ze_E_x rfl d_X_select_27 ?_
    refine ze_iload C d_X_select_30 5 rfl ?_
    refine ze_aald (k := 1) (i := ji) C (by decide) ze_E_tabs (by omega) (by decide) rfl d_X_select_32 ?_
    refine ze_astore (lv' := [(7, .ref (ad (3 + 3 * ji))), (6, .ref (ad (3 + 3 * ja))), (0, .ref (ad 0)), (1, .int (nI ja)), (2, .int low), (3, .int high), (4, .int (nI ji))]) C d_X_select_33 (by decide) rfl ?_
    refine ze_aload C d_X_select_35 0 rfl ?_
    refine ze_eqE (ze_foc ji) ?_
    refine ze_callV (st := []) C (c_T_clear (ze_l G) (ze_D G) (ze_i G) ad ms M T hd mv ji (by omega) (T ji).1 (T ji).2.1 (T ji).2.2.1 (T ji).2.2.2 ) (kv_X_65 (ze_rml (by decide) (by decide))) (by omega) (ze_F_t (i := ji) (by omega)) rfl (Nat.le_of_ble_eq_true rfl) ⟨Nat.le_of_ble_eq_true rfl, Nat.le_of_ble_eq_true rfl⟩ d_X_select_37 ?_
    rintro _ _ _ _ ⟨rfl, rfl, _, rfl, rfl, rfl⟩
    refine ze_genT (fun T1 eT1 => ?_)
    refine ze_norm (c2 := 0) (s2 := 0) (st' := []) rfl rfl rfl ?_
    refine ze_iconst (v := nI 0) C d_X_select_40 (by decide) ?_
    refine ze_istore (lv' := [(8, .int (nI 0)), (7, .ref (ad (3 + 3 * ji))), (6, .ref (ad (3 + 3 * ja))), (0, .ref (ad 0)), (1, .int (nI ja)), (2, .int low), (3, .int high), (4, .int (nI ji))]) C d_X_select_41 (by decide) rfl ?_
    refine ze_sub [(8, .int (nI 0)), (7, .ref (ad (3 + 3 * ji))), (6, .ref (ad (3 + 3 * ja))), (0, .ref (ad 0)), (1, .int (nI ja)), (2, .int low), (3, .int high), (4, .int (nI ji))] [0, 1, 2, 3, 4, 5, 6, 7] rfl ?_
    have loop : ∀ (r p : Nat) (T2 : Nat → ze_T), A.length - p = r → p ≤ A.length → (∀ q, q ≠ ji → T2 q = T q) → ze_Hu (T2 ji) (ze_sel low high (A.take p)) → ze_V G 48 ad (ze_E (ze_i G) ad (M, T2, hd, mv) ms) 0 0 43 [(8, .int (nI p)), (7, .ref (ad (3 + 3 * ji))), (6, .ref (ad (3 + 3 * ja))), (0, .ref (ad 0)), (1, .int (nI ja)), (2, .int low), (3, .int high), (4, .int (nI ji))] [] := by
      intro r
      induction r using Nat.strongRecOn with
      | ind r ih =>
        intro p T2 hr g1 g2 g3
        have eA := g2 ja (by omega)
        have hHA2 : ze_H (T2 ja) A := by rw [eA]; exact hHA
        have hc2 : (T2 ja).2.2.1 = A.length := hHA2.1
        have hm2 := ze_Hu_le g3
        refine ze_iload C d_X_select_43 0 rfl ?_
        refine ze_aload C d_X_select_45 2 rfl ?_
        refine ze_getf (k := 3 + 3 * ja) C fl_X_50 (by omega) (ze_E_t (i := ja) (by omega)) rfl d_X_select_47 ?_
        refine ze_icmp_geN 104 C d_X_select_50 (by decide) (by omega) (by omega) (fun h50 => ?_) (fun h50 => ?_)
        · rw [List.take_of_length_le (by omega)] at g3
          have hR2 := ze_rX_wk hR (by omega) (fun _ => hI) g2
          refine ze_aload_n C d_X_select_104 3 rfl rfl ?_
          refine ze_iload C d_X_select_105 7 rfl ?_
          refine ze_aload C d_X_select_107 2 rfl ?_
          refine ze_getf (k := 3 + 3 * ja) C fl_X_50 (by omega) (ze_E_t (i := ja) (by omega)) rfl d_X_select_109 ?_
          refine ze_callS (st := [.int (nI ji), .ref (ad 0)]) C (c_X_sizeOf (ze_l G) (ze_D G) (ze_i G) _ _ _ ((T2 ja).2.2.1) (by omega)) (ks_X_68 (ze_rml (by decide) (by decide))) rfl (Nat.le_of_ble_eq_true rfl) ⟨Nat.le_of_ble_eq_true rfl, Nat.le_of_ble_eq_true rfl⟩ d_X_select_112 ?_
          rintro _ _ _ _ ⟨rfl, rfl, rfl, rfl⟩
          refine ze_norm (c2 := 0) (s2 := 0) (st' := [.int (nI (ze_sz ((T2 ja).2.2.1))), .int (nI ji), .ref (ad 0)]) rfl rfl rfl ?_
          have hz112 := ze_sz_le ((T2 ja).2.2.1)
          refine ze_aload C d_X_select_115 1 rfl ?_
          refine ze_getf (k := 3 + 3 * ji) C fl_X_50 (by omega) (ze_E_t (i := ji) (by omega)) rfl d_X_select_117 ?_
          refine ze_callS (st := [.int (nI (ze_sz ((T2 ja).2.2.1))), .int (nI ji), .ref (ad 0)]) C (c_X_sizeOf (ze_l G) (ze_D G) (ze_i G) _ _ _ ((T2 ji).2.2.1) (by omega)) (ks_X_68 (ze_rml (by decide) (by decide))) rfl (Nat.le_of_ble_eq_true rfl) ⟨Nat.le_of_ble_eq_true rfl, Nat.le_of_ble_eq_true rfl⟩ d_X_select_120 ?_
          rintro _ _ _ _ ⟨rfl, rfl, rfl, rfl⟩
          refine ze_norm (c2 := 0) (s2 := 0) (st' := [.int (nI (ze_sz ((T2 ji).2.2.1))), .int (nI (ze_sz ((T2 ja).2.2.1))), .int (nI ji), .ref (ad 0)]) rfl rfl rfl ?_
          have hz120 := ze_sz_le ((T2 ji).2.2.1)
          refine ze_iaddN C d_X_select_123 ?_
          refine ze_i2lN C d_X_select_124 (by omega) ?_
          refine ze_callV (st := []) C (c_X_finish (ze_l G) (ze_D G) (ze_i G) ad ms M T2 hd mv ji (by omega) (lN (ze_sz ((T2 ja).2.2.1) + (ze_sz ((T2 ji).2.2.1))))) (kv_X_72 (ze_rml (by decide) (by decide))) (by decide) ze_E_x rfl (Nat.le_of_ble_eq_true rfl) ⟨Nat.le_of_ble_eq_true rfl, Nat.le_of_ble_eq_true rfl⟩ d_X_select_125 ?_
          rintro _ _ _ _ ⟨rfl, rfl, x', rfl, hfin⟩
          obtain ⟨r, rfl, hr1, hr2⟩ := ze_op_end (q := (ze_sel low high A, ze_sz A.length + ze_sz (ze_sel low high A).length)) hR2 hji g3 (fun z => by rw [hc2, (ze_Hu_H g3 z).1]) hfin
          refine ze_norm (c2 := 0) (s2 := 0) (st' := [.int r]) rfl rfl rfl ?_
          exact ze_iret C Rt d_X_select_128 ⟨rfl, rfl, _, rfl, by rw [hsp, hr1], by rw [hsp]; exact hr2⟩
        · refine ze_iload_n C d_X_select_53 5 rfl rfl ?_
          refine ze_aload C d_X_select_54 2 rfl ?_
          refine ze_getf (k := 3 + 3 * ja) C fl_X_83 (by omega) (ze_E_t (i := ja) (by omega)) rfl d_X_select_56 ?_
          refine ze_iload C d_X_select_59 0 rfl ?_
          refine ze_iald (k := 4 + 3 * ja) (i := p) C (by omega) (ze_E_k (i := ja) (by omega)) (by omega) (by decide) d_X_select_61 ?_
          refine ze_icmp_gt 98 C d_X_select_62 (by decide) (fun h62 => ?_) (fun h62 => ?_)
          · refine ze_iinc (j := 0) (v := nI (p + 1)) (lv' := [(8, .int (nI (p + 1))), (7, .ref (ad (3 + 3 * ji))), (6, .ref (ad (3 + 3 * ja))), (0, .ref (ad 0)), (1, .int (nI ja)), (2, .int low), (3, .int high), (4, .int (nI ji))]) C d_X_select_98 rfl (nI_1 _) (by decide) rfl ?_
            refine ze_goto 43 C d_X_select_101 (by decide) ?_
            refine ze_sub [(8, .int (nI (p + 1))), (7, .ref (ad (3 + 3 * ji))), (6, .ref (ad (3 + 3 * ja))), (0, .ref (ad 0)), (1, .int (nI ja)), (2, .int low), (3, .int high), (4, .int (nI ji))] [0, 1, 2, 3, 4, 5, 6, 7] rfl ?_
            exact ih (A.length - (p + 1)) (by omega) (p + 1) T2 rfl (by omega) g2 (by rw [ze_take_snoc hHA2 (by omega), ze_sel_snoc, if_neg (fun z => absurd z.1 (Int32.not_le.mpr h62))]; exact g3)
          · refine ze_aload C d_X_select_65 2 rfl ?_
            refine ze_getf (k := 3 + 3 * ja) C fl_X_83 (by omega) (ze_E_t (i := ja) (by omega)) rfl d_X_select_67 ?_
            refine ze_iload C d_X_select_70 0 rfl ?_
            refine ze_iald (k := 4 + 3 * ja) (i := p) C (by omega) (ze_E_k (i := ja) (by omega)) (by omega) (by decide) d_X_select_72 ?_
            refine ze_iload_n C d_X_select_73 6 rfl rfl ?_
            refine ze_icmp_gt 98 C d_X_select_74 (by decide) (fun h74 => ?_) (fun h74 => ?_)
            · refine ze_iinc (j := 0) (v := nI (p + 1)) (lv' := [(8, .int (nI (p + 1))), (7, .ref (ad (3 + 3 * ji))), (6, .ref (ad (3 + 3 * ja))), (0, .ref (ad 0)), (1, .int (nI ja)), (2, .int low), (3, .int high), (4, .int (nI ji))]) C d_X_select_98 rfl (nI_1 _) (by decide) rfl ?_
              refine ze_goto 43 C d_X_select_101 (by decide) ?_
              refine ze_sub [(8, .int (nI (p + 1))), (7, .ref (ad (3 + 3 * ji))), (6, .ref (ad (3 + 3 * ja))), (0, .ref (ad 0)), (1, .int (nI ja)), (2, .int low), (3, .int high), (4, .int (nI ji))] [0, 1, 2, 3, 4, 5, 6, 7] rfl ?_
              exact ih (A.length - (p + 1)) (by omega) (p + 1) T2 rfl (by omega) g2 (by rw [ze_take_snoc hHA2 (by omega), ze_sel_snoc, if_neg (fun z => absurd z.2 (Int32.not_le.mpr h74))]; exact g3)
            · refine ze_aload C d_X_select_77 1 rfl ?_
              refine ze_aload C d_X_select_79 2 rfl ?_
              refine ze_getf (k := 3 + 3 * ja) C fl_X_83 (by omega) (ze_E_t (i := ja) (by omega)) rfl d_X_select_81 ?_
              refine ze_iload C d_X_select_84 0 rfl ?_
              refine ze_iald (k := 4 + 3 * ja) (i := p) C (by omega) (ze_E_k (i := ja) (by omega)) (by omega) (by decide) d_X_select_86 ?_
              refine ze_aload C d_X_select_87 2 rfl ?_
              refine ze_getf (k := 3 + 3 * ja) C fl_X_87 (by omega) (ze_E_t (i := ja) (by omega)) rfl d_X_select_89 ?_
              refine ze_iload C d_X_select_92 0 rfl ?_
              refine ze_iald (k := 5 + 3 * ja) (i := p) C (by omega) (ze_E_v (i := ja) (by omega)) (by omega) (by decide) d_X_select_94 ?_
              refine ze_eqE (ze_foc ji) ?_
              refine ze_callV (st := []) C (c_T_append (ze_l G) (ze_D G) (ze_i G) ad ms M T2 hd mv ji (by omega) (T2 ji).1 (T2 ji).2.1 (T2 ji).2.2.1 (T2 ji).2.2.2 (by omega) (((T2 ja).1) p) (((T2 ja).2.1) p)) (kv_X_53 (ze_rml (by decide) (by decide))) (by omega) (ze_F_t (i := ji) (by omega)) rfl (Nat.le_of_ble_eq_true rfl) ⟨Nat.le_of_ble_eq_true rfl, Nat.le_of_ble_eq_true rfl⟩ d_X_select_95 ?_
              rintro _ _ _ _ ⟨rfl, rfl, _, rfl, rfl, rfl⟩
              refine ze_genT (fun T3 eT3 => ?_)
              refine ze_norm (c2 := 0) (s2 := 0) (st' := []) rfl rfl rfl ?_
              refine ze_iinc (j := 0) (v := nI (p + 1)) (lv' := [(8, .int (nI (p + 1))), (7, .ref (ad (3 + 3 * ji))), (6, .ref (ad (3 + 3 * ja))), (0, .ref (ad 0)), (1, .int (nI ja)), (2, .int low), (3, .int high), (4, .int (nI ji))]) C d_X_select_98 rfl (nI_1 _) (by decide) rfl ?_
              refine ze_goto 43 C d_X_select_101 (by decide) ?_
              refine ze_sub [(8, .int (nI (p + 1))), (7, .ref (ad (3 + 3 * ji))), (6, .ref (ad (3 + 3 * ja))), (0, .ref (ad 0)), (1, .int (nI ja)), (2, .int low), (3, .int high), (4, .int (nI ji))] [0, 1, 2, 3, 4, 5, 6, 7] rfl ?_
              exact ih (A.length - (p + 1)) (by omega) (p + 1) T3 rfl (by omega) (fun q hq => (ze_upo eT3 q hq).trans (g2 q hq)) (by rw [ze_take_snoc hHA2 (by omega), ze_sel_snoc, if_pos ⟨Int32.not_lt.mp h62, Int32.not_lt.mp h74⟩]; exact ze_Hu_app g3 eT3)
    exact loop _ 0 T1 rfl (Nat.zero_le _) (ze_upo eT1) (ze_Hu_clr eT1)
  · refine ze_iload C d_X_select_15 0 rfl ?_
    exact ze_iret C Rt d_X_select_17 (⟨rfl, rfl, _, rfl, by rw [sp_select, ze_rf_ne hR h12], by rw [sp_select, ze_rf_ne hR h12]; exact hR⟩)
