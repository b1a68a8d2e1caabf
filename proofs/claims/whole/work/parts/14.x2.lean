theorem ze_sz_le (n : Nat) : ze_sz n ≤ n := by unfold ze_sz; omega
theorem ze_op_end {M : Nat} {T : Nat → ze_T} {hd : Nat → Bool} {mv cost : Int64} {inp : List ze_Row} {sl : Nat → Option (List ze_Row)} {j : Nat} {q : List ze_Row × Nat} {v : Option Value} {x' : ze_XS} (hR : ze_rX (M, T, hd, mv) (inp, sl, mv, M)) (hj : j < 8) (hu : ze_Hu (T j) q.1) (hc : ¬ 60 < q.1.length → cost = lN q.2)
    (hfin : if (T j).2.2.2 = true then v = some (.int (-4)) ∧ x' = (M, T, hd, mv) else v = some (.int (nI (T j).2.2.1)) ∧ x' = (M, T, va_up hd j true, mv + cost)) : ∃ r, v = some (.int r) ∧ r = (sp_fin (inp, sl, mv, M) j q).1 ∧ ze_rX x' (sp_fin (inp, sl, mv, M) j q).2 := by
  by_cases ho : (T j).2.2.2 = true
  · rw [if_pos ho] at hfin
    have h60 : 60 < q.1.length := by rw [hu.2.1] at ho; exact of_decide_eq_true ho
    refine ⟨_, hfin.1, ?_, ?_⟩
    · rw [sp_fin, if_pos h60]
    · rw [sp_fin, if_pos h60, hfin.2]; exact hR
  · rw [if_neg ho] at hfin
    have h60 : ¬ 60 < q.1.length := by rw [hu.2.1] at ho; intro h; exact ho (decide_eq_true h)
    have hH := ze_Hu_H hu h60
    refine ⟨_, hfin.1, ?_, ?_⟩
    · rw [sp_fin, if_neg h60, hH.1]
    · rw [sp_fin, if_neg h60, hfin.2, hc h60]; exact ze_rX_fin hR hj hH
theorem ze_rf_ne {M : Nat} {T : Nat → ze_T} {hd : Nat → Bool} {mv : Int64} {inp : List ze_Row} {sl : Nat → Option (List ze_Row)} {a b into : Int32} {f : List ze_Row → List ze_Row → List ze_Row × Nat} (hR : ze_rX (M, T, hd, mv) (inp, sl, mv, M)) (h : ¬ ze_rf hd a b into = 0) : sp_op (inp, sl, mv, M) true a b into f = (ze_rf hd a b into, (inp, sl, mv, M)) := by
  unfold sp_op
  unfold ze_rf at h ⊢
  by_cases hs : (ze_isS a && ze_isS b && ze_isS into) = false
  · rw [if_pos hs, if_pos (by rw [Bool.true_and]; exact hs)]
  · rw [if_neg hs] at h ⊢
    rw [if_neg (by rw [Bool.true_and]; exact hs)]
    simp only [Bool.not_eq_false, Bool.and_eq_true] at hs
    obtain ⟨ja, hja, rfl⟩ := ze_isS_nI hs.1.1
    obtain ⟨jb, hjb, rfl⟩ := ze_isS_nI hs.1.2
    obtain ⟨ji, hji, rfl⟩ := ze_isS_nI hs.2
    rw [ze_n_nI (by omega), ze_n_nI (by omega), ze_n_nI (by omega)] at h ⊢
    cases ha : hd ja with
    | false => simp [ze_rX_off hR hja ha]
    | true =>
      cases hb : hd jb with
      | false =>
        obtain ⟨A, hA, -⟩ := ze_rX_on hR hja ha
        simp [hA, ze_rX_off hR hjb hb]
      | true =>
        obtain ⟨A, hA, -⟩ := ze_rX_on hR hja ha
        obtain ⟨B, hB, -⟩ := ze_rX_on hR hjb hb
        cases hi : hd ji with
        | false => rw [ha, hb, hi] at h; exact absurd rfl h
        | true =>
          obtain ⟨I, hI, -⟩ := ze_rX_on hR hji hi
          simp [hA, hB, hI]
/-- the operator isn't refused: its slots, their rows -/
theorem ze_rf_0 {M : Nat} {T : Nat → ze_T} {hd : Nat → Bool} {mv : Int64} {inp : List ze_Row} {sl : Nat → Option (List ze_Row)} {a b into : Int32} (hR : ze_rX (M, T, hd, mv) (inp, sl, mv, M)) (h : ze_rf hd a b into = 0) : ∃ (ja jb ji : Nat) (A B : List ze_Row), ja < 8 ∧ jb < 8 ∧ ji < 8 ∧ a = nI ja ∧ b = nI jb ∧ into = nI ji ∧ ji ≠ ja ∧ ji ≠ jb ∧ sl ja = some A ∧ sl jb = some B ∧ sl ji = none ∧ ze_H (T ja) A ∧ ze_H (T jb) B ∧ ∀ f, sp_op (inp, sl, mv, M) true a b into f = sp_fin (inp, sl, mv, M) ji (f A B) := by
  unfold ze_rf at h
  by_cases hs : (ze_isS a && ze_isS b && ze_isS into) = false
  · rw [if_pos hs] at h; exact absurd h (by decide)
  · rw [if_neg hs] at h
    have hs0 := hs
    simp only [Bool.not_eq_false, Bool.and_eq_true] at hs
    obtain ⟨ja, hja, rfl⟩ := ze_isS_nI hs.1.1
    obtain ⟨jb, hjb, rfl⟩ := ze_isS_nI hs.1.2
    obtain ⟨ji, hji, rfl⟩ := ze_isS_nI hs.2
    have na := ze_n_nI (j := ja) (by omega)
    have nb := ze_n_nI (j := jb) (by omega)
    have ni := ze_n_nI (j := ji) (by omega)
    rw [na, nb, ni] at h
    by_cases hab : (hd ja && hd jb) = false
    · rw [if_pos hab] at h; exact absurd h (by decide)
    · rw [if_neg hab] at h
      simp only [Bool.not_eq_false, Bool.and_eq_true] at hab
      by_cases hi : hd ji = true
      · rw [if_pos hi] at h; exact absurd h (by decide)
      · have hi := Bool.eq_false_iff.mpr hi
        obtain ⟨A, hA, hTA⟩ := ze_rX_on hR hja hab.1
        obtain ⟨B, hB, hTB⟩ := ze_rX_on hR hjb hab.2
        have hI := ze_rX_off hR hji hi
        refine ⟨ja, jb, ji, A, B, hja, hjb, hji, rfl, rfl, rfl, fun e => ?_, fun e => ?_, hA, hB, hI, hTA, hTB, fun f => ?_⟩
        · rw [e, hab.1] at hi; cases hi
        · rw [e, hab.2] at hi; cases hi
        · unfold sp_op
          rw [if_neg (by rw [Bool.true_and]; exact hs0)]
          simp only [na, nb, ni, hA, hB, hI]
/-- the same, of one table -/
theorem ze_rf_01 {M : Nat} {T : Nat → ze_T} {hd : Nat → Bool} {mv : Int64} {inp : List ze_Row} {sl : Nat → Option (List ze_Row)} {a into : Int32} (hR : ze_rX (M, T, hd, mv) (inp, sl, mv, M)) (h : ze_rf hd a a into = 0) : ∃ (ja ji : Nat) (A : List ze_Row), ja < 8 ∧ ji < 8 ∧ a = nI ja ∧ into = nI ji ∧ ji ≠ ja ∧ sl ja = some A ∧ sl ji = none ∧ ze_H (T ja) A ∧ ∀ f, sp_op (inp, sl, mv, M) true a a into f = sp_fin (inp, sl, mv, M) ji (f A A) := by
  obtain ⟨ja, jb, ji, A, B, h1, h2, h3, h4, h5, h6, h7, h8, h9, h10, h11, h12, h13, h14⟩ := ze_rf_0 hR h
  have e : ja = jb := (nI_eq (by omega) (by omega)).mp (h4.symm.trans h5)
  subst e
  rw [h9] at h10
  cases h10
  exact ⟨ja, ji, A, h1, h3, h4, h6, h7, h9, h11, h12, h14⟩

set_option maxRecDepth 100000 in
set_option maxHeartbeats 4000000 in
theorem c_X_put (l : Launch) (D : va_G) (ids : Nat → ClassId) (ad : Nat → Nat) (ms : ze_MS) (M : Nat) (T : Nat → ze_T) (hd : Nat → Bool) (mv : Int64) (inp : List ze_Row) (sl : Nat → Option (List ze_Row)) (hR : ze_rX (M, T, hd, mv) (inp, sl, mv, M)) (k vv : Int32) : ze_MX l D ids ad ms y_X_put ws_X_put 20 (M, T, hd, mv) [.ref (ad 0), .int k, .int vv] (fun v x' => v = some (.int (sp_put (inp, sl, mv, M) k vv).1) ∧ ze_rX x' (sp_put (inp, sl, mv, M) k vv).2) := by
  refine ze_enter (cc := b_X_put) (maxL := 3) (ret := (some .boolean)) (by decide +kernel) rfl (Nat.le_of_ble_eq_true rfl) ?_
  rintro G rfl rfl rfl - C Rt
  refine ze_lv (lv' := [(0, .ref (ad 0)), (1, .int k), (2, .int vv)]) rfl ?_
  obtain ⟨-, hM3, hM6, -, hin, -, -⟩ := id hR
  simp only at hin hM3 hM6
  have hin1 : (T 8).2.2.1 = inp.length := hin.1
  have hin2 : inp.length ≤ 60 := hin.2.1
  refine ze_aload_n C d_X_put_0 0 rfl rfl ?_
  refine ze_getf C fl_X_33 (by decide) ze_E_x rfl d_X_put_1 ?_
  refine ze_getf (k := 3 + 3 * 8) C fl_X_50 (by decide) (ze_E_t (i := 8) (by omega)) rfl d_X_put_4 ?_
  refine ze_bipush (v := nI 60) C d_X_put_7 (by decide) ?_
  refine ze_icmp_ltN 14 C d_X_put_9 (by decide) (by omega) (by omega) (fun h9 => ?_) (fun h9 => ?_)
  · refine ze_aload_n C d_X_put_14 0 rfl rfl ?_
    refine ze_getf C fl_X_33 (by decide) ze_E_x rfl d_X_put_15 ?_
    refine ze_iload_n C d_X_put_18 1 rfl rfl ?_
    refine ze_iload_n C d_X_put_19 2 rfl rfl ?_
    refine ze_eqE (ze_foc 8) ?_
    refine ze_callV (st := []) C (c_T_append (ze_l G) (ze_D G) (ze_i G) ad ms M T hd mv 8 (by omega) _ _ _ _ (by omega) k vv) (kv_X_53 (ze_rml (by decide) (by decide))) (by decide) (ze_F_t (i := 8) (by omega)) rfl (Nat.le_of_ble_eq_true rfl) ⟨Nat.le_of_ble_eq_true rfl, Nat.le_of_ble_eq_true rfl⟩ d_X_put_20 ?_
    rintro _ _ _ _ ⟨rfl, rfl, _, rfl, rfl, rfl⟩
    refine ze_genT (fun T1 eT1 => ?_)
    refine ze_norm (c2 := 0) (s2 := 0) (st' := []) rfl rfl rfl ?_
    have hin' : ze_H (T1 8) (inp ++ [(k, vv)]) := by
      rw [ze_ups eT1, if_pos (by omega)]
      refine ⟨by simp; omega, by simp; omega, ?_⟩
      have h6 := ze_Hl_snoc (r := (k, vv)) hin.2.2
      rw [Nat.zero_add, ← hin1] at h6
      exact h6
    refine ze_iconst (v := nI 1) C d_X_put_23 (by decide) ?_
    exact ze_zret C Rt (by decide) d_X_put_24 (⟨rfl, rfl, _, rfl, by rw [sp_put, if_neg (by simp only; omega)]; rfl, by rw [sp_put, if_neg (by simp only; omega)]; exact ze_rX_in hR (ze_upo eT1) hin'⟩)
  · refine ze_iconst (v := nI 0) C d_X_put_12 (by decide) ?_
    exact ze_zret C Rt (by decide) d_X_put_13 (⟨rfl, rfl, _, rfl, by rw [sp_put, if_pos (by simp only; omega)]; rfl, by rw [sp_put, if_pos (by simp only; omega)]; exact hR⟩)

set_option maxRecDepth 100000 in
set_option maxHeartbeats 4000000 in
theorem c_X_store (l : Launch) (D : va_G) (ids : Nat → ClassId) (ad : Nat → Nat) (ms : ze_MS) (M : Nat) (T : Nat → ze_T) (hd : Nat → Bool) (mv : Int64) (inp : List ze_Row) (sl : Nat → Option (List ze_Row)) (hR : ze_rX (M, T, hd, mv) (inp, sl, mv, M)) (into : Int32) : ze_MX l D ids ad ms y_X_store ws_X_store 20 (M, T, hd, mv) [.ref (ad 0), .int into] (fun v x' => v = some (.int (sp_store (inp, sl, mv, M) into).1) ∧ ze_rX x' (sp_store (inp, sl, mv, M) into).2) := by
  refine ze_enter (cc := b_X_store) (maxL := 2) (ret := (some .int)) (by decide +kernel) rfl (Nat.le_of_ble_eq_true rfl) ?_
  rintro G rfl rfl rfl - C Rt
  refine ze_lv (lv' := [(0, .ref (ad 0)), (1, .int into)]) rfl ?_
  obtain ⟨-, hM3, hM6, -, hin, -, -⟩ := id hR
  simp only at hin hM3 hM6
  have hin1 : (T 8).2.2.1 = inp.length := hin.1
  have hin2 : inp.length ≤ 60 := hin.2.1
  refine ze_iload_n C d_X_store_0 1 rfl rfl ?_
  refine ze_callS (st := []) C (c_X_isSlot (ze_l G) (ze_D G) (ze_i G) _ _ _ into) (ks_X_57 (ze_rml (by decide) (by decide))) rfl (Nat.le_of_ble_eq_true rfl) ⟨Nat.le_of_ble_eq_true rfl, Nat.le_of_ble_eq_true rfl⟩ d_X_store_1 ?_
  rintro _ _ _ _ ⟨rfl, rfl, rfl, rfl⟩
  refine ze_norm (c2 := 0) (s2 := 0) (st' := [.int (ze_bi (ze_isS into))]) rfl rfl rfl ?_
  refine ze_if_ne 9 C d_X_store_4 (by decide) (fun h4 => ?_) (fun h4 => ?_)
  · obtain ⟨j, hj, rfl⟩ := ze_isS_nI (ze_bi1 h4)
    have hnj := ze_n_nI (j := j) (by omega)
    refine ze_aload_n C d_X_store_9 0 rfl rfl ?_
    refine ze_getf C fl_X_29 (by decide) ze_E_x rfl d_X_store_10 ?_
    refine ze_iload_n C d_X_store_13 1 rfl rfl ?_
    refine ze_zald (k := 2) (i := j) C (by decide) ze_E_held (by omega) (by decide) d_X_store_14 ?_
    refine ze_if_eq 21 C d_X_store_15 (by decide) (fun h15 => ?_) (fun h15 => ?_)
    · have hoff := ze_rX_off hR hj (ze_bi0.mp h15)
      have hsp : sp_store (inp, sl, mv, M) (nI j) = (nI inp.length, ([], va_up sl j (some inp), mv + lN (ze_sz inp.length), M)) := by rw [sp_store, if_neg (by rw [ze_isS_j hj]; decide)]; simp only [hnj, hoff]
      refine ze_aload_n C d_X_store_21 0 rfl rfl ?_
      refine ze_getf C fl_X_24 (by decide) ze_E_x rfl d_X_store_22 ?_
      refine ze_iload_n C d_X_store_25 1 rfl rfl ?_
      refine ze_aald (k := 1) (i := j) C (by decide) ze_E_tabs (by omega) (by decide) rfl d_X_store_26 ?_
      refine ze_aload_n C d_X_store_27 0 rfl rfl ?_
      refine ze_getf C fl_X_33 (by decide) ze_E_x rfl d_X_store_28 ?_
      refine ze_eqE (ze_foc j) ?_
      refine ze_callV (st := []) C (c_T_copyFrom (ze_l G) (ze_D G) (ze_i G) ad ms M T hd mv j (by omega) _ _ _ _ 8 (by decide) (by omega) (by omega)) (kv_X_61 (ze_rml (by decide) (by decide))) (by omega) (ze_F_t (i := j) (by omega)) rfl (Nat.le_of_ble_eq_true rfl) ⟨Nat.le_of_ble_eq_true rfl, Nat.le_of_ble_eq_true rfl⟩ d_X_store_31 ?_
      rintro _ _ _ _ ⟨rfl, rfl, _, rfl, rfl, rfl⟩
      refine ze_genT (fun T1 eT1 => ?_)
      refine ze_norm (c2 := 0) (s2 := 0) (st' := []) rfl rfl rfl ?_
      obtain ⟨hH1, ho1⟩ := ze_H_cpy hin eT1
      have hR1 := ze_rX_wk hR (by omega) (fun _ => hoff) (ze_upo eT1)
      refine ze_aload_n C d_X_store_34 0 rfl rfl ?_
      refine ze_getf C fl_X_33 (by decide) ze_E_x rfl d_X_store_35 ?_
      refine ze_eqE (ze_foc 8) ?_
      refine ze_callV (st := []) C (c_T_clear (ze_l G) (ze_D G) (ze_i G) ad ms M T1 hd mv 8 (by omega) _ _ _ _ ) (kv_X_65 (ze_rml (by decide) (by decide))) (by decide) (ze_F_t (i := 8) (by omega)) rfl (Nat.le_of_ble_eq_true rfl) ⟨Nat.le_of_ble_eq_true rfl, Nat.le_of_ble_eq_true rfl⟩ d_X_store_38 ?_
      rintro _ _ _ _ ⟨rfl, rfl, _, rfl, rfl, rfl⟩
      refine ze_genT (fun T2 eT2 => ?_)
      refine ze_norm (c2 := 0) (s2 := 0) (st' := []) rfl rfl rfl ?_
      have hR2 := ze_rX_in (inp' := []) hR1 (ze_upo eT2) (by rw [ze_ups eT2]; exact ⟨rfl, by decide, ze_Hl_nil⟩)
      have ej := ze_upo eT2 j (by omega)
      have hH2 : ze_H (T2 j) inp := by rw [ej]; exact hH1
      have ho2 : (T2 j).2.2.2 = false := by rw [ej]; exact ho1
      have hc2 : (T2 j).2.2.1 ≤ 60 := by rw [hH2.1]; omega
      refine ze_aload_n C d_X_store_41 0 rfl rfl ?_
      refine ze_iload_n C d_X_store_42 1 rfl rfl ?_
      refine ze_aload_n C d_X_store_43 0 rfl rfl ?_
      refine ze_getf C fl_X_24 (by decide) ze_E_x rfl d_X_store_44 ?_
      refine ze_iload_n C d_X_store_47 1 rfl rfl ?_
      refine ze_aald (k := 1) (i := j) C (by decide) ze_E_tabs (by omega) (by decide) rfl d_X_store_48 ?_
      refine ze_getf (k := 3 + 3 * j) C fl_X_50 (by omega) (ze_E_t (i := j) (by omega)) rfl d_X_store_49 ?_
      refine ze_callS (st := [.int (nI j), .ref (ad 0)]) C (c_X_sizeOf (ze_l G) (ze_D G) (ze_i G) _ _ _ ((T2 j).2.2.1) (by omega)) (ks_X_68 (ze_rml (by decide) (by decide))) rfl (Nat.le_of_ble_eq_true rfl) ⟨Nat.le_of_ble_eq_true rfl, Nat.le_of_ble_eq_true rfl⟩ d_X_store_52 ?_
      rintro _ _ _ _ ⟨rfl, rfl, rfl, rfl⟩
      refine ze_norm (c2 := 0) (s2 := 0) (st' := [.int (nI (ze_sz ((T2 j).2.2.1))), .int (nI j), .ref (ad 0)]) rfl rfl rfl ?_
      have hz52 := ze_sz_le ((T2 j).2.2.1)
      refine ze_i2lN C d_X_store_55 (by omega) ?_
      refine ze_callV (st := []) C (c_X_finish (ze_l G) (ze_D G) (ze_i G) ad ms M T2 hd mv j (by omega) (lN (ze_sz (T2 j).2.2.1))) (kv_X_72 (ze_rml (by decide) (by decide))) (by decide) ze_E_x rfl (Nat.le_of_ble_eq_true rfl) ⟨Nat.le_of_ble_eq_true rfl, Nat.le_of_ble_eq_true rfl⟩ d_X_store_56 ?_
      rintro _ _ _ _ ⟨rfl, rfl, x', rfl, hfin⟩
      obtain ⟨r, rfl, hr1, hr2⟩ := ze_op_end (q := (inp, ze_sz inp.length)) hR2 hj (ze_H_Hu hH2 ho2) (fun _ => by rw [hH2.1]) hfin
      refine ze_norm (c2 := 0) (s2 := 0) (st' := [.int r]) rfl rfl rfl ?_
      have e60 : ¬ 60 < inp.length := by omega
      rw [sp_fin, if_neg e60] at hr1 hr2
      exact ze_iret C Rt d_X_store_59 ⟨rfl, rfl, _, rfl, by rw [hsp, hr1], by rw [hsp]; exact hr2⟩
    · have hon := ze_bi1 h15
      obtain ⟨L, hL, -⟩ := ze_rX_on hR hj hon
      have hsp : sp_store (inp, sl, mv, M) (nI j) = (-3, (inp, sl, mv, M)) := by rw [sp_store, if_neg (by rw [ze_isS_j hj]; decide)]; simp only [hnj, hL]
      refine ze_bipush (v := -3) C d_X_store_18 (by decide) ?_
      exact ze_iret C Rt d_X_store_20 (⟨rfl, rfl, _, rfl, by rw [hsp], by rw [hsp]; exact hR⟩)
  · refine ze_iconst (v := -1) C d_X_store_7 (by decide) ?_
    exact ze_iret C Rt d_X_store_8 (⟨rfl, rfl, _, rfl, by rw [sp_store, if_pos (ze_bi0.mp h4)], by rw [sp_store, if_pos (ze_bi0.mp h4)]; exact hR⟩)

set_option maxRecDepth 100000 in
set_option maxHeartbeats 4000000 in
theorem c_X_drop (l : Launch) (D : va_G) (ids : Nat → ClassId) (ad : Nat → Nat) (ms : ze_MS) (M : Nat) (T : Nat → ze_T) (hd : Nat → Bool) (mv : Int64) (inp : List ze_Row) (sl : Nat → Option (List ze_Row)) (hR : ze_rX (M, T, hd, mv) (inp, sl, mv, M)) (s : Int32) : ze_MX l D ids ad ms y_X_drop ws_X_drop 20 (M, T, hd, mv) [.ref (ad 0), .int s] (fun v x' => v = some (.int (sp_drop (inp, sl, mv, M) s).1) ∧ ze_rX x' (sp_drop (inp, sl, mv, M) s).2) := by
  refine ze_enter (cc := b_X_drop) (maxL := 2) (ret := (some .int)) (by decide +kernel) rfl (Nat.le_of_ble_eq_true rfl) ?_
  rintro G rfl rfl rfl - C Rt
  refine ze_lv (lv' := [(0, .ref (ad 0)), (1, .int s)]) rfl ?_
  obtain ⟨-, hM3, hM6, -, hin, -, -⟩ := id hR
  simp only at hin hM3 hM6
  have hin1 : (T 8).2.2.1 = inp.length := hin.1
  have hin2 : inp.length ≤ 60 := hin.2.1
  refine ze_iload_n C d_X_drop_0 1 rfl rfl ?_
  refine ze_callS (st := []) C (c_X_isSlot (ze_l G) (ze_D G) (ze_i G) _ _ _ s) (ks_X_57 (ze_rml (by decide) (by decide))) rfl (Nat.le_of_ble_eq_true rfl) ⟨Nat.le_of_ble_eq_true rfl, Nat.le_of_ble_eq_true rfl⟩ d_X_drop_1 ?_
  rintro _ _ _ _ ⟨rfl, rfl, rfl, rfl⟩
  refine ze_norm (c2 := 0) (s2 := 0) (st' := [.int (ze_bi (ze_isS s))]) rfl rfl rfl ?_
  refine ze_if_ne 9 C d_X_drop_4 (by decide) (fun h4 => ?_) (fun h4 => ?_)
  · obtain ⟨j, hj, rfl⟩ := ze_isS_nI (ze_bi1 h4)
    have hnj := ze_n_nI (j := j) (by omega)
    refine ze_aload_n C d_X_drop_9 0 rfl rfl ?_
    refine ze_getf C fl_X_29 (by decide) ze_E_x rfl d_X_drop_10 ?_
    refine ze_iload_n C d_X_drop_13 1 rfl rfl ?_
    refine ze_zald (k := 2) (i := j) C (by decide) ze_E_held (by omega) (by decide) d_X_drop_14 ?_
    refine ze_if_ne 21 C d_X_drop_15 (by decide) (fun h15 => ?_) (fun h15 => ?_)
    · obtain ⟨L, hL, hL2⟩ := ze_rX_on hR hj (ze_bi1 h15)
      have hsp : sp_drop (inp, sl, mv, M) (nI j) = (nI L.length, (inp, va_up sl j none, mv, M)) := by rw [sp_drop, if_neg (by rw [ze_isS_j hj]; decide)]; simp only [hnj, hL]
      refine ze_aload_n C d_X_drop_21 0 rfl rfl ?_
      refine ze_getf C fl_X_29 (by decide) ze_E_x rfl d_X_drop_22 ?_
      refine ze_iload_n C d_X_drop_25 1 rfl rfl ?_
      refine ze_iconst (v := ze_bi false) C d_X_drop_26 (by decide) ?_
      refine ze_zast (k := 2) (i := j) C (by decide) ze_E_held (by omega) (by decide) (by decide) d_X_drop_27 ?_
      refine ze_eqE (ze_up_held (hd' := va_up hd j false) ze_hd_up) ?_
      refine ze_aload_n C d_X_drop_28 0 rfl rfl ?_
      refine ze_getf C fl_X_24 (by decide) ze_E_x rfl d_X_drop_29 ?_
      refine ze_iload_n C d_X_drop_32 1 rfl rfl ?_
      refine ze_aald (k := 1) (i := j) C (by decide) ze_E_tabs (by omega) (by decide) rfl d_X_drop_33 ?_
      refine ze_getf (k := 3 + 3 * j) C fl_X_50 (by omega) (ze_E_t (i := j) (by omega)) rfl d_X_drop_34 ?_
      exact ze_iret C Rt d_X_drop_37 (⟨rfl, rfl, _, rfl, by rw [hsp, hL2.1], by rw [hsp]; exact ze_rX_drop hR⟩)
    · have hoff := ze_rX_off hR hj (ze_bi0.mp h15)
      have hsp : sp_drop (inp, sl, mv, M) (nI j) = (-2, (inp, sl, mv, M)) := by rw [sp_drop, if_neg (by rw [ze_isS_j hj]; decide)]; simp only [hnj, hoff]
      refine ze_bipush (v := -2) C d_X_drop_18 (by decide) ?_
      exact ze_iret C Rt d_X_drop_20 (⟨rfl, rfl, _, rfl, by rw [hsp], by rw [hsp]; exact hR⟩)
  · refine ze_iconst (v := -1) C d_X_drop_7 (by decide) ?_
    exact ze_iret C Rt d_X_drop_8 (⟨rfl, rfl, _, rfl, by rw [sp_drop, if_pos (ze_bi0.mp h4)], by rw [sp_drop, if_pos (ze_bi0.mp h4)]; exact hR⟩)

set_option maxRecDepth 100000 in
set_option maxHeartbeats 4000000 in
theorem c_X_rows (l : Launch) (D : va_G) (ids : Nat → ClassId) (ad : Nat → Nat) (ms : ze_MS) (M : Nat) (T : Nat → ze_T) (hd : Nat → Bool) (mv : Int64) (inp : List ze_Row) (sl : Nat → Option (List ze_Row)) (hR : ze_rX (M, T, hd, mv) (inp, sl, mv, M)) (s : Int32) : ze_MX l D ids ad ms y_X_rows ws_X_rows 20 (M, T, hd, mv) [.ref (ad 0), .int s] (fun v x' => v = some (.int (sp_rows (inp, sl, mv, M) s)) ∧ ze_rX x' (inp, sl, mv, M)) := by
  refine ze_enter (cc := b_X_rows) (maxL := 2) (ret := (some .int)) (by decide +kernel) rfl (Nat.le_of_ble_eq_true rfl) ?_
  rintro G rfl rfl rfl - C Rt
  refine ze_lv (lv' := [(0, .ref (ad 0)), (1, .int s)]) rfl ?_
  obtain ⟨-, hM3, hM6, -, hin, -, -⟩ := id hR
  simp only at hin hM3 hM6
  have hin1 : (T 8).2.2.1 = inp.length := hin.1
  have hin2 : inp.length ≤ 60 := hin.2.1
  refine ze_aload_n C d_X_rows_0 0 rfl rfl ?_
  refine ze_iload_n C d_X_rows_1 1 rfl rfl ?_
  refine ze_callV (st := []) C (c_X_holdsTable (ze_l G) (ze_D G) (ze_i G) ad ms M T hd mv s) (kv_X_76 (ze_rml (by decide) (by decide))) (by decide) ze_E_x rfl (Nat.le_of_ble_eq_true rfl) ⟨Nat.le_of_ble_eq_true rfl, Nat.le_of_ble_eq_true rfl⟩ d_X_rows_2 ?_
  rintro _ _ _ _ ⟨rfl, rfl, _, rfl, rfl, rfl⟩
  refine ze_norm (c2 := 0) (s2 := 0) (st' := [.int (ze_bi (ze_isS s && hd (ze_n s)))]) rfl rfl rfl ?_
  refine ze_if_eq 20 C d_X_rows_5 (by decide) (fun h5 => ?_) (fun h5 => ?_)
  · have hsp : sp_rows (inp, sl, mv, M) s = -1 := by
      have hb := ze_bi0.mp h5
      rw [sp_rows]
      by_cases hs : ze_isS s = false
      · rw [if_pos hs]
      · obtain ⟨j, hj, rfl⟩ := ze_isS_nI (by simpa using hs)
        rw [ze_isS_j hj, Bool.true_and, ze_n_nI (by omega)] at hb
        rw [if_neg hs]
        simp only [ze_n_nI (Nat.lt_trans hj (by decide : 8 < 2 ^ 31)), ze_rX_off hR hj hb]
    refine ze_iconst (v := -1) C d_X_rows_20 (by decide) ?_
    exact ze_iret C Rt d_X_rows_21 (⟨rfl, rfl, _, rfl, by rw [hsp], hR⟩)
  · have hb := ze_bi1 h5
    rw [Bool.and_eq_true] at hb
    obtain ⟨j, hj, rfl⟩ := ze_isS_nI hb.1
    rw [ze_n_nI (by omega)] at hb
    obtain ⟨L, hL, hL2⟩ := ze_rX_on hR hj hb.2
    have hsp : sp_rows (inp, sl, mv, M) (nI j) = nI L.length := by rw [sp_rows, if_neg (by rw [ze_isS_j hj]; decide)]; simp only [ze_n_nI (Nat.lt_trans hj (by decide : 8 < 2 ^ 31)), hL]
    refine ze_aload_n C d_X_rows_8 0 rfl rfl ?_
    refine ze_getf C fl_X_24 (by decide) ze_E_x rfl d_X_rows_9 ?_
    refine ze_iload_n C d_X_rows_12 1 rfl rfl ?_
    refine ze_aald (k := 1) (i := j) C (by decide) ze_E_tabs (by omega) (by decide) rfl d_X_rows_13 ?_
    refine ze_getf (k := 3 + 3 * j) C fl_X_50 (by omega) (ze_E_t (i := j) (by omega)) rfl d_X_rows_14 ?_
    refine ze_goto 21 C d_X_rows_17 (by decide) ?_
    exact ze_iret C Rt d_X_rows_21 (⟨rfl, rfl, _, rfl, by rw [hsp]; rw [hL2.1], hR⟩)

theorem ze_hrow_neg {p : Int32} {n : Nat} (h : p < 0) : decide (0 ≤ p.toInt ∧ p.toInt < (n : Int)) = false := by
  rw [Int32.lt_iff_toInt_lt] at h
  simp only [show (0 : Int32).toInt = 0 from rfl] at h
  exact decide_eq_false (by omega)
theorem ze_hrow_big {p : Int32} {n : Nat} (h : nI n ≤ p) (hn : n ≤ 60) : decide (0 ≤ p.toInt ∧ p.toInt < (n : Int)) = false := by
  rw [Int32.le_iff_toInt_le, nI_toInt (by omega)] at h
  exact decide_eq_false (by omega)
theorem ze_hrow_ok {p : Int32} {n : Nat} (h1 : ¬ p < 0) (h2 : ¬ nI n ≤ p) (hn : n ≤ 60) : decide (0 ≤ p.toInt ∧ p.toInt < (n : Int)) = true := by
  rw [Int32.lt_iff_toInt_lt] at h1
  rw [Int32.le_iff_toInt_le, nI_toInt (by omega)] at h2
  simp only [show (0 : Int32).toInt = 0 from rfl] at h1
  exact decide_eq_true (by omega)

set_option maxRecDepth 100000 in
set_option maxHeartbeats 4000000 in
theorem c_X_holdsRow (l : Launch) (D : va_G) (ids : Nat → ClassId) (ad : Nat → Nat) (ms : ze_MS) (M : Nat) (T : Nat → ze_T) (hd : Nat → Bool) (mv : Int64) (inp : List ze_Row) (sl : Nat → Option (List ze_Row)) (hR : ze_rX (M, T, hd, mv) (inp, sl, mv, M)) (s p : Int32) : ze_MX l D ids ad ms y_X_holdsRow ws_X_holdsRow 19 (M, T, hd, mv) [.ref (ad 0), .int s, .int p] (fun v x' => v = some (.int (ze_bi ((ze_isS s && hd (ze_n s)) && decide (0 ≤ p.toInt ∧ p.toInt < ((T (ze_n s)).2.2.1 : Int))))) ∧ x' = (M, T, hd, mv)) := by
  refine ze_enter (cc := b_X_holdsRow) (maxL := 3) (ret := (some .boolean)) (by decide +kernel) rfl (Nat.le_of_ble_eq_true rfl) ?_
  rintro G rfl rfl rfl - C Rt
  refine ze_lv (lv' := [(0, .ref (ad 0)), (1, .int s), (2, .int p)]) rfl ?_
  refine ze_aload_n C d_X_holdsRow_0 0 rfl rfl ?_
  refine ze_iload_n C d_X_holdsRow_1 1 rfl rfl ?_
  refine ze_callV (st := []) C (c_X_holdsTable (ze_l G) (ze_D G) (ze_i G) ad ms M T hd mv s) (kv_X_76 (ze_rml (by decide) (by decide))) (by decide) ze_E_x rfl (Nat.le_of_ble_eq_true rfl) ⟨Nat.le_of_ble_eq_true rfl, Nat.le_of_ble_eq_true rfl⟩ d_X_holdsRow_2 ?_
  rintro _ _ _ _ ⟨rfl, rfl, _, rfl, rfl, rfl⟩
  refine ze_norm (c2 := 0) (s2 := 0) (st' := [.int (ze_bi (ze_isS s && hd (ze_n s)))]) rfl rfl rfl ?_
  refine ze_if_eq 29 C d_X_holdsRow_5 (by decide) (fun h5 => ?_) (fun h5 => ?_)
  · refine ze_iconst (v := nI 0) C d_X_holdsRow_29 (by decide) ?_
    exact ze_zret C Rt (by decide) d_X_holdsRow_30 (⟨rfl, rfl, _, rfl, by rw [ze_bi0.mp h5, Bool.false_and]; rfl, rfl⟩)
  · have hb0 := ze_bi1 h5
    have hb := hb0
    rw [Bool.and_eq_true] at hb
    obtain ⟨j, hj, rfl⟩ := ze_isS_nI hb.1
    have hnj := ze_n_nI (j := j) (by omega)
    rw [hnj] at hb
    obtain ⟨L, hL, hL2⟩ := ze_rX_on hR hj hb.2
    have hcj : (T j).2.2.1 ≤ 60 := by rw [hL2.1]; exact hL2.2.1
    refine ze_iload_n C d_X_holdsRow_8 2 rfl rfl ?_
    refine ze_if_lt 29 C d_X_holdsRow_9 (by decide) (fun h9 => ?_) (fun h9 => ?_)
    · refine ze_iconst (v := nI 0) C d_X_holdsRow_29 (by decide) ?_
      exact ze_zret C Rt (by decide) d_X_holdsRow_30 (⟨rfl, rfl, _, rfl, by rw [ze_hrow_neg h9, Bool.and_false]; rfl, rfl⟩)
    · refine ze_iload_n C d_X_holdsRow_12 2 rfl rfl ?_
      refine ze_aload_n C d_X_holdsRow_13 0 rfl rfl ?_
      refine ze_getf C fl_X_24 (by decide) ze_E_x rfl d_X_holdsRow_14 ?_
      refine ze_iload_n C d_X_holdsRow_17 1 rfl rfl ?_
      refine ze_aald (k := 1) (i := j) C (by decide) ze_E_tabs (by omega) (by decide) rfl d_X_holdsRow_18 ?_
      refine ze_getf (k := 3 + 3 * j) C fl_X_50 (by omega) (ze_E_t (i := j) (by omega)) rfl d_X_holdsRow_19 ?_
      refine ze_icmp_ge 29 C d_X_holdsRow_22 (by decide) (fun h22 => ?_) (fun h22 => ?_)
      · refine ze_iconst (v := nI 0) C d_X_holdsRow_29 (by decide) ?_
        exact ze_zret C Rt (by decide) d_X_holdsRow_30 (⟨rfl, rfl, _, rfl, by rw [hnj, ze_hrow_big h22 hcj, Bool.and_false]; rfl, rfl⟩)
      · refine ze_iconst (v := nI 1) C d_X_holdsRow_25 (by decide) ?_
        refine ze_goto 30 C d_X_holdsRow_26 (by decide) ?_
        exact ze_zret C Rt (by decide) d_X_holdsRow_30 (⟨rfl, rfl, _, rfl, by rw [hb0, hnj, ze_hrow_ok h9 h22 hcj]; rfl, rfl⟩)

theorem ze_at_no {f : ze_Row → Int32} {M : Nat} {T : Nat → ze_T} {hd : Nat → Bool} {mv : Int64} {inp : List ze_Row} {sl : Nat → Option (List ze_Row)} {s p : Int32} (hR : ze_rX (M, T, hd, mv) (inp, sl, mv, M)) (h : ((ze_isS s && hd (ze_n s)) && decide (0 ≤ p.toInt ∧ p.toInt < ((T (ze_n s)).2.2.1 : Int))) = false) : sp_at f (inp, sl, mv, M) s p = 0 := by
  unfold sp_at
  by_cases hs : ze_isS s = false
  · rw [if_pos hs]
  · rw [if_neg hs]
    obtain ⟨j, hj, rfl⟩ := ze_isS_nI (by simpa using hs)
    rw [ze_isS_j hj, Bool.true_and, ze_n_nI (by omega)] at h
    rw [ze_n_nI (by omega)]
    cases hd' : hd j with
    | false => simp [ze_rX_off hR hj hd']
    | true =>
      obtain ⟨L, hL, hL2⟩ := ze_rX_on hR hj hd'
      rw [hd', Bool.true_and, hL2.1] at h
      have h := of_decide_eq_false h
      simp only [hL]
      by_cases h0 : p.toInt < 0
      · rw [if_pos h0]
      · rw [if_neg h0, List.getElem?_eq_none (by omega)]
theorem ze_at_yes (f : ze_Row → Int32) {M : Nat} {T : Nat → ze_T} {hd : Nat → Bool} {mv : Int64} {inp : List ze_Row} {sl : Nat → Option (List ze_Row)} {s p : Int32} (hR : ze_rX (M, T, hd, mv) (inp, sl, mv, M)) (h : ((ze_isS s && hd (ze_n s)) && decide (0 ≤ p.toInt ∧ p.toInt < ((T (ze_n s)).2.2.1 : Int))) = true) : ∃ (j q : Nat) (L : List ze_Row), j < 8 ∧ q < L.length ∧ s = nI j ∧ p = nI q ∧ sl j = some L ∧ ze_H (T j) L ∧ sp_at f (inp, sl, mv, M) s p = f ((T j).1 q, (T j).2.1 q) := by
  simp only [Bool.and_eq_true, decide_eq_true_eq] at h
  obtain ⟨⟨h1, h2⟩, h3, h4⟩ := h
  obtain ⟨j, hj, rfl⟩ := ze_isS_nI h1
  have hnj := ze_n_nI (j := j) (by omega)
  rw [hnj] at h2 h4
  obtain ⟨L, hL, hL2⟩ := ze_rX_on hR hj h2
  rw [hL2.1] at h4
  obtain ⟨q, hq, rfl⟩ := nI_of (x := p) (by
    rw [Int32.lt_iff_toInt_lt]
    simp only [show (0 : Int32).toInt = 0 from rfl]
    omega)
  rw [nI_toInt hq] at h3 h4
  have hqL : q < L.length := by omega
  refine ⟨j, q, L, hj, hqL, rfl, rfl, hL, hL2, ?_⟩
  unfold sp_at
  rw [if_neg (by rw [h1]; decide), hnj]
  simp only [hL]
  rw [nI_toInt hq, if_neg (by omega), Int.toNat_natCast, ze_H_row hL2 hqL]

set_option maxRecDepth 100000 in
set_option maxHeartbeats 4000000 in
theorem c_X_key (l : Launch) (D : va_G) (ids : Nat → ClassId) (ad : Nat → Nat) (ms : ze_MS) (M : Nat) (T : Nat → ze_T) (hd : Nat → Bool) (mv : Int64) (inp : List ze_Row) (sl : Nat → Option (List ze_Row)) (hR : ze_rX (M, T, hd, mv) (inp, sl, mv, M)) (s p : Int32) : ze_MX l D ids ad ms y_X_key ws_X_key 20 (M, T, hd, mv) [.ref (ad 0), .int s, .int p] (fun v x' => v = some (.int (sp_at (fun r => r.1) (inp, sl, mv, M) s p)) ∧ ze_rX x' (inp, sl, mv, M)) := by
  refine ze_enter (cc := b_X_key) (maxL := 3) (ret := (some .int)) (by decide +kernel) rfl (Nat.le_of_ble_eq_true rfl) ?_
  rintro G rfl rfl rfl - C Rt
  refine ze_lv (lv' := [(0, .ref (ad 0)), (1, .int s), (2, .int p)]) rfl ?_
  obtain ⟨-, hM3, hM6, -, hin, -, -⟩ := id hR
  simp only at hin hM3 hM6
  have hin1 : (T 8).2.2.1 = inp.length := hin.1
  have hin2 : inp.length ≤ 60 := hin.2.1
  refine ze_aload_n C d_X_key_0 0 rfl rfl ?_
  refine ze_iload_n C d_X_key_1 1 rfl rfl ?_
  refine ze_iload_n C d_X_key_2 2 rfl rfl ?_
  refine ze_callV (st := []) C (c_X_holdsRow (ze_l G) (ze_D G) (ze_i G) ad ms M T hd mv inp sl hR s p) (kv_X_79 (ze_rml (by decide) (by decide))) (by decide) ze_E_x rfl (Nat.le_of_ble_eq_true rfl) ⟨Nat.le_of_ble_eq_true rfl, Nat.le_of_ble_eq_true rfl⟩ d_X_key_3 ?_
  rintro _ _ _ _ ⟨rfl, rfl, _, rfl, rfl, rfl⟩
  refine ze_norm (c2 := 0) (s2 := 0) (st' := [.int (ze_bi ((ze_isS s && hd (ze_n s)) && decide (0 ≤ p.toInt ∧ p.toInt < ((T (ze_n s)).2.2.1 : Int))))]) rfl rfl rfl ?_
  refine ze_if_eq 23 C d_X_key_6 (by decide) (fun h6 => ?_) (fun h6 => ?_)
  · have hsp : sp_at (fun r => r.1) (inp, sl, mv, M) s p = 0 := ze_at_no hR (ze_bi0.mp h6)
    refine ze_iconst (v := nI 0) C d_X_key_23 (by decide) ?_
    exact ze_iret C Rt d_X_key_24 (⟨rfl, rfl, _, rfl, by rw [hsp]; rfl, hR⟩)
  · obtain ⟨j, q, L, hj, hq, rfl, rfl, hL, hL2, hsp⟩ := ze_at_yes (fun r => r.1) hR (ze_bi1 h6)
    have hq60 : q < 60 := by have := hL2.2.1; omega
    refine ze_aload_n C d_X_key_9 0 rfl rfl ?_
    refine ze_getf C fl_X_24 (by decide) ze_E_x rfl d_X_key_10 ?_
    refine ze_iload_n C d_X_key_13 1 rfl rfl ?_
    refine ze_aald (k := 1) (i := j) C (by decide) ze_E_tabs (by omega) (by decide) rfl d_X_key_14 ?_
    refine ze_getf (k := 3 + 3 * j) C fl_X_83 (by omega) (ze_E_t (i := j) (by omega)) rfl d_X_key_15 ?_
    refine ze_iload_n C d_X_key_18 2 rfl rfl ?_
    refine ze_iald (k := 4 + 3 * j) (i := q) C (by omega) (ze_E_k (i := j) (by omega)) (by omega) (by decide) d_X_key_19 ?_
    refine ze_goto 24 C d_X_key_20 (by decide) ?_
    exact ze_iret C Rt d_X_key_24 (⟨rfl, rfl, _, rfl, by rw [hsp], hR⟩)

set_option maxRecDepth 100000 in
set_option maxHeartbeats 4000000 in
theorem c_X_value (l : Launch) (D : va_G) (ids : Nat → ClassId) (ad : Nat → Nat) (ms : ze_MS) (M : Nat) (T : Nat → ze_T) (hd : Nat → Bool) (mv : Int64) (inp : List ze_Row) (sl : Nat → Option (List ze_Row)) (hR : ze_rX (M, T, hd, mv) (inp, sl, mv, M)) (s p : Int32) : ze_MX l D ids ad ms y_X_value ws_X_value 20 (M, T, hd, mv) [.ref (ad 0), .int s, .int p] (fun v x' => v = some (.int (sp_at (fun r => r.2) (inp, sl, mv, M) s p)) ∧ ze_rX x' (inp, sl, mv, M)) := by
  refine ze_enter (cc := b_X_value) (maxL := 3) (ret := (some .int)) (by decide +kernel) rfl (Nat.le_of_ble_eq_true rfl) ?_
  rintro G rfl rfl rfl - C Rt
  refine ze_lv (lv' := [(0, .ref (ad 0)), (1, .int s), (2, .int p)]) rfl ?_
  obtain ⟨-, hM3, hM6, -, hin, -, -⟩ := id hR
  simp only at hin hM3 hM6
  have hin1 : (T 8).2.2.1 = inp.length := hin.1
  have hin2 : inp.length ≤ 60 := hin.2.1
  refine ze_aload_n C d_X_value_0 0 rfl rfl ?_
  refine ze_iload_n C d_X_value_1 1 rfl rfl ?_
  refine ze_iload_n C d_X_value_2 2 rfl rfl ?_
  refine ze_callV (st := []) C (c_X_holdsRow (ze_l G) (ze_D G) (ze_i G) ad ms M T hd mv inp sl hR s p) (kv_X_79 (ze_rml (by decide) (by decide))) (by decide) ze_E_x rfl (Nat.le_of_ble_eq_true rfl) ⟨Nat.le_of_ble_eq_true rfl, Nat.le_of_ble_eq_true rfl⟩ d_X_value_3 ?_
  rintro _ _ _ _ ⟨rfl, rfl, _, rfl, rfl, rfl⟩
  refine ze_norm (c2 := 0) (s2 := 0) (st' := [.int (ze_bi ((ze_isS s && hd (ze_n s)) && decide (0 ≤ p.toInt ∧ p.toInt < ((T (ze_n s)).2.2.1 : Int))))]) rfl rfl rfl ?_
  refine ze_if_eq 23 C d_X_value_6 (by decide) (fun h6 => ?_) (fun h6 => ?_)
  · have hsp : sp_at (fun r => r.2) (inp, sl, mv, M) s p = 0 := ze_at_no hR (ze_bi0.mp h6)
    refine ze_iconst (v := nI 0) C d_X_value_23 (by decide) ?_
    exact ze_iret C Rt d_X_value_24 (⟨rfl, rfl, _, rfl, by rw [hsp]; rfl, hR⟩)
  · obtain ⟨j, q, L, hj, hq, rfl, rfl, hL, hL2, hsp⟩ := ze_at_yes (fun r => r.2) hR (ze_bi1 h6)
    have hq60 : q < 60 := by have := hL2.2.1; omega
    refine ze_aload_n C d_X_value_9 0 rfl rfl ?_
    refine ze_getf C fl_X_24 (by decide) ze_E_x rfl d_X_value_10 ?_
    refine ze_iload_n C d_X_value_13 1 rfl rfl ?_
    refine ze_aald (k := 1) (i := j) C (by decide) ze_E_tabs (by omega) (by decide) rfl d_X_value_14 ?_
    refine ze_getf (k := 3 + 3 * j) C fl_X_87 (by omega) (ze_E_t (i := j) (by omega)) rfl d_X_value_15 ?_
    refine ze_iload_n C d_X_value_18 2 rfl rfl ?_
    refine ze_iald (k := 5 + 3 * j) (i := q) C (by omega) (ze_E_v (i := j) (by omega)) (by omega) (by decide) d_X_value_19 ?_
    refine ze_goto 24 C d_X_value_20 (by decide) ?_
    exact ze_iret C Rt d_X_value_24 (⟨rfl, rfl, _, rfl, by rw [hsp], hR⟩)
