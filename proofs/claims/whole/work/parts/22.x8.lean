theorem ze_rX_wk4 {M : Nat} {T T1 : Nat → ze_T} {hd : Nat → Bool} {mv : Int64} {inp : List ze_Row} {sl : Nat → Option (List ze_Row)} {i : Nat} (h : ze_rX (M, T, hd, mv) (inp, sl, mv, M)) (hi : i ≠ 8) (hn : i < 8 → sl i = none) (e : ∀ q, q ≠ i → q ≠ 9 → q ≠ 10 → q ≠ 11 → T1 q = T q) : ze_rX (M, T1, hd, mv) (inp, sl, mv, M) := by
  have h1 := ze_rX_wk2 (T1 := va_up (va_up T i (T1 i)) 9 (T1 9)) h hi (j := 9) (by decide) hn (fun h => absurd h (by decide)) (fun q q1 q2 => by rw [va_up_ne _ _ q2, va_up_ne _ _ q1])
  refine ze_rX_wk2 (i := 10) (j := 11) h1 (by decide) (by decide) (fun h => absurd h (by decide)) (fun h => absurd h (by decide)) (fun q q1 q2 => ?_)
  by_cases h9 : q = 9
  · subst h9; rw [va_up_self]
  · rw [va_up_ne _ _ h9]
    by_cases hqi : q = i
    · subst hqi; rw [va_up_self]
    · rw [va_up_ne _ _ hqi]; exact e q hqi h9 q1 q2

set_option maxRecDepth 100000 in
set_option maxHeartbeats 4000000 in
theorem c_X_join (l : Launch) (D : va_G) (ids : Nat → ClassId) (ad : Nat → Nat) (ms : ze_MS) (M : Nat) (T : Nat → ze_T) (hd : Nat → Bool) (mv : Int64) (inp : List ze_Row) (sl : Nat → Option (List ze_Row)) (hR : ze_rX (M, T, hd, mv) (inp, sl, mv, M)) (a b into : Int32) : ze_MX l D ids ad ms y_X_join ws_X_join 20 (M, T, hd, mv) [.ref (ad 0), .int a, .int b, .int into] (fun v x' => v = some (.int (sp_join (inp, sl, mv, M) a b into).1) ∧ ze_rX x' (sp_join (inp, sl, mv, M) a b into).2) := by
  refine ze_enter (cc := b_X_join) (maxL := 8) (ret := (some .int)) (by decide +kernel) rfl (Nat.le_of_ble_eq_true rfl) ?_
  rintro G rfl rfl rfl - C Rt
  refine ze_lv (lv' := [(0, .ref (ad 0)), (1, .int a), (2, .int b), (3, .int into)]) rfl ?_
  obtain ⟨-, hM3, hM6, -, hin, -, -⟩ := id hR
  simp only at hin hM3 hM6
  refine ze_aload_n C d_X_join_0 0 rfl rfl ?_
  refine ze_iload_n C d_X_join_1 1 rfl rfl ?_
  refine ze_iload_n C d_X_join_2 2 rfl rfl ?_
  refine ze_iload_n C d_X_join_3 3 rfl rfl ?_
  refine ze_callV (st := []) C (c_X_refusalOf (ze_l G) (ze_D G) (ze_i G) ad ms M T hd mv a b into) (kv_X_90 (ze_rml (by decide) (by decide))) (by decide) ze_E_x rfl (Nat.le_of_ble_eq_true rfl) ⟨Nat.le_of_ble_eq_true rfl, Nat.le_of_ble_eq_true rfl⟩ d_X_join_4 ?_
  rintro _ _ _ _ ⟨rfl, rfl, _, rfl, rfl, rfl⟩
  refine ze_norm (c2 := 0) (s2 := 0) (st' := [.int (ze_rf hd a b into)]) rfl rfl rfl ?_
  refine ze_istore (lv' := [(4, .int (ze_rf hd a b into)), (0, .ref (ad 0)), (1, .int a), (2, .int b), (3, .int into)]) C d_X_join_7 (by decide) rfl ?_
  refine ze_iload C d_X_join_9 0 rfl ?_
  refine ze_if_eq 17 C d_X_join_11 (by decide) (fun h11 => ?_) (fun h11 => ?_)
  · obtain ⟨ja, jb, ji, A, B, hja, hjb, hji, rfl, rfl, rfl, hne, hneb, hAs, hBs, hI, hHA, hHB, hop⟩ := ze_rf_0 hR h11
    have hcA : (T ja).2.2.1 = A.length := hHA.1
    have hA60 : A.length ≤ 60 := hHA.2.1
    have hcB : (T jb).2.2.1 = B.length := hHB.1
    have hB60 : B.length ≤ 60 := hHB.2.1
    refine ze_sub [(0, .ref (ad 0)), (1, .int (nI ja)), (2, .int (nI jb)), (3, .int (nI ji))] [1, 2, 3, 4] rfl ?_
    have hsp : sp_join (inp, sl, mv, M) (nI ja) (nI jb) (nI ji) = sp_fin (inp, sl, mv, M) ji ((ze_jn M 3 A B).1, (ze_jn M 3 A B).2 + ze_sz (ze_jn M 3 A B).1.length) := by rw [sp_join, hop]
    refine ze_aload_n C d_X_join_17 0 rfl rfl ?_
    refine ze_getf C fl_X_37 (by decide) ze_E_x rfl d_X_join_18 ?_
    refine ze_aload_n C d_X_join_21 0 rfl rfl ?_
    refine ze_getf C fl_X_24 (by decide) ze_E_x rfl d_X_join_22 ?_
    refine ze_iload_n C d_X_join_25 1 rfl rfl ?_
    refine ze_aald (k := 1) (i := ja) C (by decide) ze_E_tabs (by omega) (by decide) rfl d_X_join_26 ?_
    refine ze_eqE (ze_foc 9) ?_
    refine ze_callV (st := []) C (c_T_copyFrom (ze_l G) (ze_D G) (ze_i G) ad ms M T hd mv 9 (by omega) (T 9).1 (T 9).2.1 (T 9).2.2.1 (T 9).2.2.2 ja (by omega) (by omega) (by omega)) (kv_X_61 (ze_rml (by decide) (by decide))) (by decide) (ze_F_t (i := 9) (by omega)) rfl (Nat.le_of_ble_eq_true rfl) ⟨Nat.le_of_ble_eq_true rfl, Nat.le_of_ble_eq_true rfl⟩ d_X_join_27 ?_
    rintro _ _ _ _ ⟨rfl, rfl, _, rfl, rfl, rfl⟩
    refine ze_genT (fun T1 eT1 => ?_)
    refine ze_norm (c2 := 0) (s2 := 0) (st' := []) rfl rfl rfl ?_
    have hA1 := (ze_H_cpy hHA eT1).1
    have hR1 := ze_rX_wk hR (by decide) (fun h => absurd h (by decide)) (ze_upo eT1)
    have hB1 : ze_H (T1 jb) B := by rw [ze_upo eT1 jb (by omega)]; exact hHB
    have hcB1 : (T1 jb).2.2.1 = B.length := hB1.1
    refine ze_aload_n C d_X_join_30 0 rfl rfl ?_
    refine ze_getf C fl_X_40 (by decide) ze_E_x rfl d_X_join_31 ?_
    refine ze_aload_n C d_X_join_34 0 rfl rfl ?_
    refine ze_getf C fl_X_24 (by decide) ze_E_x rfl d_X_join_35 ?_
    refine ze_iload_n C d_X_join_38 2 rfl rfl ?_
    refine ze_aald (k := 1) (i := jb) C (by decide) ze_E_tabs (by omega) (by decide) rfl d_X_join_39 ?_
    refine ze_eqE (ze_foc 10) ?_
    refine ze_callV (st := []) C (c_T_copyFrom (ze_l G) (ze_D G) (ze_i G) ad ms M T1 hd mv 10 (by omega) (T1 10).1 (T1 10).2.1 (T1 10).2.2.1 (T1 10).2.2.2 jb (by omega) (by omega) (by omega)) (kv_X_61 (ze_rml (by decide) (by decide))) (by decide) (ze_F_t (i := 10) (by omega)) rfl (Nat.le_of_ble_eq_true rfl) ⟨Nat.le_of_ble_eq_true rfl, Nat.le_of_ble_eq_true rfl⟩ d_X_join_40 ?_
    rintro _ _ _ _ ⟨rfl, rfl, _, rfl, rfl, rfl⟩
    refine ze_genT (fun T2 eT2 => ?_)
    refine ze_norm (c2 := 0) (s2 := 0) (st' := []) rfl rfl rfl ?_
    have hB2 := (ze_H_cpy hB1 eT2).1
    have hR2 := ze_rX_wk hR1 (by decide) (fun h => absurd h (by decide)) (ze_upo eT2)
    refine ze_aload_n C d_X_join_43 0 rfl rfl ?_
    refine ze_getf C fl_X_24 (by decide) ze_E_x rfl d_X_join_44 ?_
    refine ze_iload_n C d_X_join_47 3 rfl rfl ?_
    refine ze_aald (k := 1) (i := ji) C (by decide) ze_E_tabs (by omega) (by decide) rfl d_X_join_48 ?_
    refine ze_astore (lv' := [(5, .ref (ad (3 + 3 * ji))), (0, .ref (ad 0)), (1, .int (nI ja)), (2, .int (nI jb)), (3, .int (nI ji))]) C d_X_join_49 (by decide) rfl ?_
    refine ze_aload C d_X_join_51 0 rfl ?_
    refine ze_eqE (ze_foc ji) ?_
    refine ze_callV (st := []) C (c_T_clear (ze_l G) (ze_D G) (ze_i G) ad ms M T2 hd mv ji (by omega) (T2 ji).1 (T2 ji).2.1 (T2 ji).2.2.1 (T2 ji).2.2.2 ) (kv_X_65 (ze_rml (by decide) (by decide))) (by omega) (ze_F_t (i := ji) (by omega)) rfl (Nat.le_of_ble_eq_true rfl) ⟨Nat.le_of_ble_eq_true rfl, Nat.le_of_ble_eq_true rfl⟩ d_X_join_53 ?_
    rintro _ _ _ _ ⟨rfl, rfl, _, rfl, rfl, rfl⟩
    refine ze_genT (fun T3 eT3 => ?_)
    refine ze_norm (c2 := 0) (s2 := 0) (st' := []) rfl rfl rfl ?_
    have hu3 := ze_Hu_clr eT3
    have hR3 := ze_rX_wk hR2 (by omega) (fun _ => hI) (ze_upo eT3)
    refine ze_aload_n C d_X_join_56 1 rfl rfl ?_
    refine ze_iconst (v := nI 0) C d_X_join_57 (by decide) ?_
    refine ze_aload_n C d_X_join_58 1 rfl rfl ?_
    refine ze_getf C fl_X_37 (by decide) ze_E_x rfl d_X_join_59 ?_
    refine ze_getf (k := 3 + 3 * 9) C fl_X_50 (by decide) (ze_E_t (i := 9) (by omega)) rfl d_X_join_62 ?_
    refine ze_iconst (v := nI 0) C d_X_join_65 (by decide) ?_
    refine ze_aload_n C d_X_join_66 1 rfl rfl ?_
    refine ze_getf C fl_X_40 (by decide) ze_E_x rfl d_X_join_67 ?_
    refine ze_getf (k := 3 + 3 * 10) C fl_X_50 (by decide) (ze_E_t (i := 10) (by omega)) rfl d_X_join_70 ?_
    refine ze_iconst (v := nI 0) C d_X_join_73 (by decide) ?_
    refine ze_aload C d_X_join_74 0 rfl ?_
    have hA3 : ze_H (T3 9) A := by rw [ze_upo eT3 9 (by omega), ze_upo eT2 9 (by decide)]; exact hA1
    have hB3 : ze_H (T3 10) B := by rw [ze_upo eT3 10 (by omega)]; exact hB2
    have hcA3 : (T3 9).2.2.1 = A.length := hA3.1
    have hcB3 : (T3 10).2.2.1 = B.length := hB3.1
    refine ze_callV (st := []) C (c_X_joinRanges_3 (ze_l G) (ze_D G) (ze_i G) ad ms M T3 hd mv ⟨hM3, hM6⟩ 0 rfl 0 (T3 9).2.2.1 0 (T3 10).2.2.1 (Nat.zero_le _) (by omega) (Nat.zero_le _) (by omega) A B [] hA3.2.2 (by omega) hB3.2.2 (by omega) ji hji hu3) (kv_X_113 (ze_rml (by decide) (by decide))) (by decide) ze_E_x rfl (Nat.le_of_ble_eq_true rfl) ⟨Nat.le_of_ble_eq_true rfl, Nat.le_of_ble_eq_true rfl⟩ d_X_join_76 ?_
    rintro _ _ _ _ ⟨rfl, rfl, _, rfl, rfl, T4, rfl, oT4, hu4, -, -⟩
    rw [List.nil_append] at hu4
    refine ze_norm (c2 := 0) (s2 := 0) (st' := [.long (lN ((ze_jn M 3 A B).2))]) rfl rfl rfl ?_
    have hR4 := ze_rX_wk4 hR3 (by omega) (fun _ => hI) oT4
    have hm4 := ze_Hu_le hu4
    refine ze_lstore (lv' := [(6, .long (lN ((ze_jn M 3 A B).2))), (5, .ref (ad (3 + 3 * ji))), (0, .ref (ad 0)), (1, .int (nI ja)), (2, .int (nI jb)), (3, .int (nI ji))]) C d_X_join_79 (by decide) rfl ?_
    refine ze_aload_n C d_X_join_81 2 rfl rfl ?_
    refine ze_iload_n C d_X_join_82 5 rfl rfl ?_
    refine ze_lload C d_X_join_83 0 rfl ?_
    refine ze_aload C d_X_join_85 1 rfl ?_
    refine ze_getf (k := 3 + 3 * ji) C fl_X_50 (by omega) (ze_E_t (i := ji) (by omega)) rfl d_X_join_87 ?_
    refine ze_callS (st := [.long (lN ((ze_jn M 3 A B).2)), .int (nI ji), .ref (ad 0)]) C (c_X_sizeOf (ze_l G) (ze_D G) (ze_i G) _ _ _ ((T4 ji).2.2.1) (by omega)) (ks_X_68 (ze_rml (by decide) (by decide))) rfl (Nat.le_of_ble_eq_true rfl) ⟨Nat.le_of_ble_eq_true rfl, Nat.le_of_ble_eq_true rfl⟩ d_X_join_90 ?_
    rintro _ _ _ _ ⟨rfl, rfl, rfl, rfl⟩
    refine ze_norm (c2 := 0) (s2 := 0) (st' := [.int (nI (ze_sz ((T4 ji).2.2.1))), .long (lN ((ze_jn M 3 A B).2)), .int (nI ji), .ref (ad 0)]) rfl rfl rfl ?_
    have hz90 := ze_sz_le ((T4 ji).2.2.1)
    refine ze_i2lN C d_X_join_93 (by omega) ?_
    refine ze_laddN C d_X_join_94 ?_
    refine ze_callV (st := []) C (c_X_finish (ze_l G) (ze_D G) (ze_i G) ad ms M T4 hd mv ji (by omega) (lN ((ze_jn M 3 A B).2 + (ze_sz ((T4 ji).2.2.1))))) (kv_X_72 (ze_rml (by decide) (by decide))) (by decide) ze_E_x rfl (Nat.le_of_ble_eq_true rfl) ⟨Nat.le_of_ble_eq_true rfl, Nat.le_of_ble_eq_true rfl⟩ d_X_join_95 ?_
    rintro _ _ _ _ ⟨rfl, rfl, x', rfl, hfin⟩
    obtain ⟨r, rfl, hr1, hr2⟩ := ze_op_end (q := ((ze_jn M 3 A B).1, (ze_jn M 3 A B).2 + ze_sz (ze_jn M 3 A B).1.length)) hR4 hji hu4 (fun z => by rw [(ze_Hu_H hu4 z).1]) hfin
    refine ze_norm (c2 := 0) (s2 := 0) (st' := [.int r]) rfl rfl rfl ?_
    exact ze_iret C Rt d_X_join_98 ⟨rfl, rfl, _, rfl, by rw [hsp, hr1], by rw [hsp]; exact hr2⟩
  · refine ze_iload C d_X_join_14 0 rfl ?_
    exact ze_iret C Rt d_X_join_16 (⟨rfl, rfl, _, rfl, by rw [sp_join, ze_rf_ne hR h11], by rw [sp_join, ze_rf_ne hR h11]; exact hR⟩)
