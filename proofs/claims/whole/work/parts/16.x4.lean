theorem ze_max_nI {a b : Nat} (ha : a < 2 ^ 31) (hb : b < 2 ^ 31) : (if nI a < nI b then nI b else nI a) = nI (max a b) := by
  by_cases h : a < b
  · rw [if_pos ((nI_ltI ha hb).mpr h), Nat.max_eq_right (by omega)]
  · rw [if_neg (fun z => h ((nI_ltI ha hb).mp z)), Nat.max_eq_left (by omega)]
theorem ze_min_nI {a b : Nat} (ha : a < 2 ^ 31) (hb : b < 2 ^ 31) : (if nI b < nI a then nI b else nI a) = nI (min a b) := by
  by_cases h : b < a
  · rw [if_pos ((nI_ltI hb ha).mpr h), Nat.min_eq_right (by omega)]
  · rw [if_neg (fun z => h ((nI_ltI hb ha).mp z)), Nat.min_eq_left (by omega)]
theorem ze_sub_nI {a b : Nat} (ha : a < 2 ^ 30) (hb : b < 2 ^ 30) : (if nI a - nI b < nI 0 then nI 0 else nI a - nI b) = nI (a - b) := by
  by_cases h : a < b
  · rw [if_pos (by rw [nI_0]; exact pk_sneg hb h), show a - b = 0 by omega]
  · rw [pk_sub (by omega), if_neg (fun z => by rw [nI_ltI (by omega) (by decide)] at z; omega)]
theorem ze_tm_le {kd a b : Nat} : ze_tm kd a b ≤ a + b := by
  unfold ze_tm
  split
  · omega
  · split
    · omega
    · split <;> omega
theorem ze_rep_le (r : ze_Row) : ∀ A : List ze_Row, ze_rep r A ≤ A.length
  | [] => Nat.le_refl _
  | a :: A => by
    simp only [ze_rep, List.length_cons]
    split
    · have := ze_rep_le r A; omega
    · omega
theorem ze_drop_row {t : ze_T} {A : List ze_Row} {p : Nat} (h : ze_H t A) (hp : p < A.length) : A.drop p = (t.1 p, t.2.1 p) :: A.drop (p + 1) := by
  obtain ⟨hl, he⟩ := List.getElem?_eq_some_iff.mp (ze_H_row h hp)
  rw [List.drop_eq_getElem_cons hl, he]
theorem ze_mg_step {kd k : Nat} {A B : List ze_Row} {r : ze_Row} (h : ze_pick A B = some r) : ze_mg kd (k + 1) A B = List.replicate (ze_tm kd (ze_rep r A) (ze_rep r B)) r ++ ze_mg kd k (A.drop (ze_rep r A)) (B.drop (ze_rep r B)) := by
  rw [ze_mg, h]

set_option maxRecDepth 100000 in
set_option maxHeartbeats 4000000 in
theorem c_X_timesInResult (l : Launch) (D : va_G) (ids : Nat → ClassId) (n : Nat) (ad : Nat → Nat) (E : Nat → va_E) (kd a b : Nat) (hk : kd ≤ 3) (ha : a ≤ 60) (hb : b ≤ 60) : ze_M l D ids y_X_timesInResult ws_X_timesInResult (ze_rm 2) 0 0 n ad E [.int (nI kd), .int (nI a), .int (nI b)] (ze_p0 n ad E (fun v => v = some (.int (nI (ze_tm kd a b))))) := by
  refine ze_enter (cc := b_X_timesInResult) (maxL := 3) (ret := (some .int)) (by decide +kernel) rfl (Nat.le_of_ble_eq_true rfl) ?_
  rintro G rfl rfl rfl - C Rt
  refine ze_lv (lv' := [(0, .int (nI kd)), (1, .int (nI a)), (2, .int (nI b))]) rfl ?_
  refine ze_iload_n C d_X_timesInResult_0 0 rfl rfl ?_
  rcases (show kd = 0 ∨ kd = 1 ∨ kd = 2 ∨ kd = 3 by omega) with rfl | rfl | rfl | rfl
  · refine ze_tableIn 28 C d_X_timesInResult_1 (by decide) (by decide) rfl (by decide) ?_
    refine ze_iload_n C d_X_timesInResult_28 1 rfl rfl ?_
    refine ze_iload_n C d_X_timesInResult_29 2 rfl rfl ?_
    refine ze_callS (st := []) C (c_J_max (ze_l G) (ze_D G) (ze_i G) _ _ _ (nI a) (nI b)) (ks_X_9 (ze_rml (by decide) (by decide))) rfl (Nat.le_of_ble_eq_true rfl) ⟨Nat.le_of_ble_eq_true rfl, Nat.le_of_ble_eq_true rfl⟩ d_X_timesInResult_30 ?_
    rintro _ _ _ _ ⟨rfl, rfl, rfl, rfl⟩
    refine ze_norm (c2 := 0) (s2 := 0) (st' := [.int (if (nI a) < (nI b) then (nI b) else (nI a))]) rfl rfl rfl ?_
    exact ze_iret C Rt d_X_timesInResult_33 (⟨rfl, rfl, rfl, by rw [ze_max_nI (by omega) (by omega)]; rfl⟩)
  · refine ze_tableIn 34 C d_X_timesInResult_1 (by decide) (by decide) rfl (by decide) ?_
    refine ze_iload_n C d_X_timesInResult_34 1 rfl rfl ?_
    refine ze_iload_n C d_X_timesInResult_35 2 rfl rfl ?_
    refine ze_callS (st := []) C (c_J_min (ze_l G) (ze_D G) (ze_i G) _ _ _ (nI a) (nI b)) (ks_X_15 (ze_rml (by decide) (by decide))) rfl (Nat.le_of_ble_eq_true rfl) ⟨Nat.le_of_ble_eq_true rfl, Nat.le_of_ble_eq_true rfl⟩ d_X_timesInResult_36 ?_
    rintro _ _ _ _ ⟨rfl, rfl, rfl, rfl⟩
    refine ze_norm (c2 := 0) (s2 := 0) (st' := [.int (if (nI b) < (nI a) then (nI b) else (nI a))]) rfl rfl rfl ?_
    exact ze_iret C Rt d_X_timesInResult_39 (⟨rfl, rfl, rfl, by rw [ze_min_nI (by omega) (by omega)]; rfl⟩)
  · refine ze_tableIn 40 C d_X_timesInResult_1 (by decide) (by decide) rfl (by decide) ?_
    refine ze_iload_n C d_X_timesInResult_40 1 rfl rfl ?_
    refine ze_iload_n C d_X_timesInResult_41 2 rfl rfl ?_
    refine ze_isub C d_X_timesInResult_42 ?_
    refine ze_iconst (v := nI 0) C d_X_timesInResult_43 (by decide) ?_
    refine ze_callS (st := []) C (c_J_max (ze_l G) (ze_D G) (ze_i G) _ _ _ ((nI a) - (nI b)) (nI 0)) (ks_X_9 (ze_rml (by decide) (by decide))) rfl (Nat.le_of_ble_eq_true rfl) ⟨Nat.le_of_ble_eq_true rfl, Nat.le_of_ble_eq_true rfl⟩ d_X_timesInResult_44 ?_
    rintro _ _ _ _ ⟨rfl, rfl, rfl, rfl⟩
    refine ze_norm (c2 := 0) (s2 := 0) (st' := [.int (if ((nI a) - (nI b)) < (nI 0) then (nI 0) else ((nI a) - (nI b)))]) rfl rfl rfl ?_
    exact ze_iret C Rt d_X_timesInResult_47 (⟨rfl, rfl, rfl, by rw [ze_sub_nI (by omega) (by omega)]; rfl⟩)
  · refine ze_tableOut 48 C d_X_timesInResult_1 (by decide) (by decide) ?_
    refine ze_iload_n C d_X_timesInResult_48 1 rfl rfl ?_
    refine ze_iload_n C d_X_timesInResult_49 2 rfl rfl ?_
    refine ze_iaddN C d_X_timesInResult_50 ?_
    exact ze_iret C Rt d_X_timesInResult_51 (⟨rfl, rfl, rfl, rfl⟩)

set_option maxRecDepth 100000 in
set_option maxHeartbeats 4000000 in
theorem c_X_isNextFromA (l : Launch) (D : va_G) (ids : Nat → ClassId) (ad : Nat → Nat) (ms : ze_MS) (M : Nat) (T : Nat → ze_T) (hd : Nat → Bool) (mv : Int64) (SA SB : List ze_Row) (hA : ze_H (T 9) SA) (hB : ze_H (T 10) SB) (p q : Nat) (hp : p ≤ SA.length) (hq : q ≤ SB.length) : ze_MX l D ids ad ms y_X_isNextFromA ws_X_isNextFromA 3 (M, T, hd, mv) [.ref (ad 0), .int (nI p), .int (nI q)] (fun v x' => ∃ b, v = some (.int (ze_bi b)) ∧ x' = (M, T, hd, mv) ∧ (b = true → p < SA.length ∧ ze_pick (SA.drop p) (SB.drop q) = some ((T 9).1 p, (T 9).2.1 p)) ∧ (b = false → q < SB.length → ze_pick (SA.drop p) (SB.drop q) = some ((T 10).1 q, (T 10).2.1 q)) ∧ (b = false → p < SA.length → q < SB.length)) := by
  refine ze_enter (cc := b_X_isNextFromA) (maxL := 4) (ret := (some .boolean)) (by decide +kernel) rfl (Nat.le_of_ble_eq_true rfl) ?_
  rintro G rfl rfl rfl - C Rt
  refine ze_lv (lv' := [(0, .ref (ad 0)), (1, .int (nI p)), (2, .int (nI q))]) rfl ?_
  have hcA : (T 9).2.2.1 = SA.length := hA.1
  have hcB : (T 10).2.2.1 = SB.length := hB.1
  have hA6 : SA.length ≤ 60 := hA.2.1
  have hB6 : SB.length ≤ 60 := hB.2.1
  refine ze_iload_n C d_X_isNextFromA_0 1 rfl rfl ?_
  refine ze_aload_n C d_X_isNextFromA_1 0 rfl rfl ?_
  refine ze_getf C fl_X_37 (by decide) ze_E_x rfl d_X_isNextFromA_2 ?_
  refine ze_getf (k := 3 + 3 * 9) C fl_X_50 (by decide) (ze_E_t (i := 9) (by omega)) rfl d_X_isNextFromA_5 ?_
  refine ze_icmp_ltN 13 C d_X_isNextFromA_8 (by decide) (by omega) (by omega) (fun h8 => ?_) (fun h8 => ?_)
  · refine ze_iload_n C d_X_isNextFromA_13 2 rfl rfl ?_
    refine ze_aload_n C d_X_isNextFromA_14 0 rfl rfl ?_
    refine ze_getf C fl_X_40 (by decide) ze_E_x rfl d_X_isNextFromA_15 ?_
    refine ze_getf (k := 3 + 3 * 10) C fl_X_50 (by decide) (ze_E_t (i := 10) (by omega)) rfl d_X_isNextFromA_18 ?_
    refine ze_icmp_ltN 26 C d_X_isNextFromA_21 (by decide) (by omega) (by omega) (fun h21 => ?_) (fun h21 => ?_)
    · refine ze_iconst (v := nI 2) C d_X_isNextFromA_26 (by decide) ?_
      refine ze_aload_n C d_X_isNextFromA_27 0 rfl rfl ?_
      refine ze_getf C fl_X_37 (by decide) ze_E_x rfl d_X_isNextFromA_28 ?_
      refine ze_getf (k := 3 + 3 * 9) C fl_X_83 (by decide) (ze_E_t (i := 9) (by omega)) rfl d_X_isNextFromA_31 ?_
      refine ze_iload_n C d_X_isNextFromA_34 1 rfl rfl ?_
      refine ze_iald (k := 4 + 3 * 9) (i := p) C (by decide) (ze_E_k (i := 9) (by omega)) (by omega) (by decide) d_X_isNextFromA_35 ?_
      refine ze_aload_n C d_X_isNextFromA_36 0 rfl rfl ?_
      refine ze_getf C fl_X_37 (by decide) ze_E_x rfl d_X_isNextFromA_37 ?_
      refine ze_getf (k := 3 + 3 * 9) C fl_X_87 (by decide) (ze_E_t (i := 9) (by omega)) rfl d_X_isNextFromA_40 ?_
      refine ze_iload_n C d_X_isNextFromA_43 1 rfl rfl ?_
      refine ze_iald (k := 5 + 3 * 9) (i := p) C (by decide) (ze_E_v (i := 9) (by omega)) (by omega) (by decide) d_X_isNextFromA_44 ?_
      refine ze_aload_n C d_X_isNextFromA_45 0 rfl rfl ?_
      refine ze_getf C fl_X_40 (by decide) ze_E_x rfl d_X_isNextFromA_46 ?_
      refine ze_getf (k := 3 + 3 * 10) C fl_X_83 (by decide) (ze_E_t (i := 10) (by omega)) rfl d_X_isNextFromA_49 ?_
      refine ze_iload_n C d_X_isNextFromA_52 2 rfl rfl ?_
      refine ze_iald (k := 4 + 3 * 10) (i := q) C (by decide) (ze_E_k (i := 10) (by omega)) (by omega) (by decide) d_X_isNextFromA_53 ?_
      refine ze_aload_n C d_X_isNextFromA_54 0 rfl rfl ?_
      refine ze_getf C fl_X_40 (by decide) ze_E_x rfl d_X_isNextFromA_55 ?_
      refine ze_getf (k := 3 + 3 * 10) C fl_X_87 (by decide) (ze_E_t (i := 10) (by omega)) rfl d_X_isNextFromA_58 ?_
      refine ze_iload_n C d_X_isNextFromA_61 2 rfl rfl ?_
      refine ze_iald (k := 5 + 3 * 10) (i := q) C (by decide) (ze_E_v (i := 10) (by omega)) (by omega) (by decide) d_X_isNextFromA_62 ?_
      refine ze_callS (st := []) C (c_X_compareRows (ze_l G) (ze_D G) (ze_i G) _ _ _ 2 (by decide) (((T 9).1) p) (((T 9).2.1) p) (((T 10).1) q) (((T 10).2.1) q)) (ks_X_142 (ze_rml (by decide) (by decide))) rfl (Nat.le_of_ble_eq_true rfl) ⟨Nat.le_of_ble_eq_true rfl, Nat.le_of_ble_eq_true rfl⟩ d_X_isNextFromA_63 ?_
      rintro _ _ _ _ ⟨rfl, rfl, rfl, t, rfl, ht1, ht2⟩
      refine ze_norm (c2 := 0) (s2 := 0) (st' := [.int t]) rfl rfl rfl ?_
      refine ze_istore_n (lv' := [(3, .int t), (0, .ref (ad 0)), (1, .int (nI p)), (2, .int (nI q))]) C d_X_isNextFromA_66 rfl (by decide) rfl ?_
      refine ze_iload_n C d_X_isNextFromA_67 0 rfl rfl ?_
      refine ze_if_gt 75 C d_X_isNextFromA_68 (by decide) (fun h68 => ?_) (fun h68 => ?_)
      · refine ze_iconst (v := nI 0) C d_X_isNextFromA_75 (by decide) ?_
        exact ze_zret C Rt (by decide) d_X_isNextFromA_76 (⟨rfl, rfl, _, rfl, false, rfl, rfl, (fun z => absurd z (by decide)), (fun _ hq => by rw [ze_drop_row hA (by omega), ze_drop_row hB hq, ze_pick, if_pos (by cases hz : ze_lt 2 ((T 10).1 q, (T 10).2.1 q) ((T 9).1 p, (T 9).2.1 p) with | true => rfl | false => exact absurd (ht2.mpr hz) (Int32.not_le.mpr h68))]), (fun _ _ => by omega)⟩)
      · refine ze_iconst (v := nI 1) C d_X_isNextFromA_71 (by decide) ?_
        refine ze_goto 76 C d_X_isNextFromA_72 (by decide) ?_
        exact ze_zret C Rt (by decide) d_X_isNextFromA_76 (⟨rfl, rfl, _, rfl, true, rfl, rfl, fun _ => ⟨by omega, by rw [ze_drop_row hA (by omega), ze_drop_row hB (by omega), ze_pick, if_neg (by rw [ht2.mp (Int32.not_lt.mp h68)]; decide)]⟩, (fun z => absurd z (by decide)), (fun z => absurd z (by decide))⟩)
    · refine ze_iconst (v := nI 1) C d_X_isNextFromA_24 (by decide) ?_
      exact ze_zret C Rt (by decide) d_X_isNextFromA_25 (⟨rfl, rfl, _, rfl, true, rfl, rfl, fun _ => ⟨by omega, by rw [ze_drop_row hA (by omega), List.drop_eq_nil_of_le (as := SB) (by omega)]; rfl⟩, (fun z => absurd z (by decide)), (fun z => absurd z (by decide))⟩)
  · refine ze_iconst (v := nI 0) C d_X_isNextFromA_11 (by decide) ?_
    exact ze_zret C Rt (by decide) d_X_isNextFromA_12 (⟨rfl, rfl, _, rfl, false, rfl, rfl, (fun z => absurd z (by decide)), (fun _ hq => by rw [List.drop_eq_nil_of_le (by omega), ze_drop_row hB hq]; rfl), (fun _ hp => absurd hp (by omega))⟩)

set_option maxRecDepth 100000 in
set_option maxHeartbeats 4000000 in
theorem c_X_mergeBags (l : Launch) (D : va_G) (ids : Nat → ClassId) (ad : Nat → Nat) (ms : ze_MS) (M : Nat) (T : Nat → ze_T) (hd : Nat → Bool) (mv : Int64) (SA SB : List ze_Row) (hA : ze_H (T 9) SA) (hB : ze_H (T 10) SB) (kd : Nat) (hk : kd ≤ 3) (m : Nat) (hm8 : m < 8) (hm : ze_Hu (T m) []) : ze_MX l D ids ad ms y_X_mergeBags ws_X_mergeBags 5 (M, T, hd, mv) [.ref (ad 0), .int (nI kd), .ref (ad (3 + 3 * m))] (fun v x' => v = none ∧ ∃ T', x' = (M, T', hd, mv) ∧ (∀ z, z ≠ m → T' z = T z) ∧ ze_Hu (T' m) (ze_mg kd 120 SA SB)) := by
  refine ze_enter (cc := b_X_mergeBags) (maxL := 13) (ret := none) (by decide +kernel) rfl (Nat.le_of_ble_eq_true rfl) ?_
  rintro G rfl rfl rfl - C Rt
  refine ze_lv (lv' := [(0, .ref (ad 0)), (1, .int (nI kd)), (2, .ref (ad (3 + 3 * m)))]) rfl ?_
  have hA6 : SA.length ≤ 60 := hA.2.1
  have hB6 : SB.length ≤ 60 := hB.2.1
  have loop : ∀ (r s p q : Nat) (T1 : Nat → ze_T) (Lm : List ze_Row), 120 - s = r → s ≤ 120 → p ≤ SA.length → q ≤ SB.length → (∀ z, z ≠ m → T1 z = T z) → ze_Hu (T1 m) Lm → Lm ++ ze_mg kd (120 - s) (SA.drop p) (SB.drop q) = ze_mg kd 120 SA SB → ze_V G 48 ad (ze_E (ze_i G) ad (M, T1, hd, mv) ms) 0 0 8 [(5, .int (nI s)), (4, .int (nI q)), (3, .int (nI p)), (0, .ref (ad 0)), (1, .int (nI kd)), (2, .ref (ad (3 + 3 * m)))] [] := by
    intro r
    induction r using Nat.strongRecOn with
    | ind r ih =>
      intro s p q T1 Lm hr g1 g2 g3 g4 g5 g6
      have hA1 : ze_H (T1 9) SA := by rw [g4 9 (by omega)]; exact hA
      have hB1 : ze_H (T1 10) SB := by rw [g4 10 (by omega)]; exact hB
      have hcA : (T1 9).2.2.1 = SA.length := hA1.1
      have hcB : (T1 10).2.2.1 = SB.length := hB1.1
      refine ze_iload C d_X_mergeBags_8 0 rfl ?_
      refine ze_bipush (v := nI 120) C d_X_mergeBags_10 (by decide) ?_
      refine ze_icmp_geN 189 C d_X_mergeBags_12 (by decide) (by omega) (by omega) (fun h12 => ?_) (fun h12 => ?_)
      · exact ze_vret C Rt d_X_mergeBags_189 (⟨rfl, rfl, _, rfl, rfl, T1, rfl, g4, by rw [← g6]; rw [show 120 - s = 0 by omega, ze_mg, List.append_nil]; exact g5⟩)
      · refine ze_iload_n C d_X_mergeBags_15 2 rfl rfl ?_
        refine ze_aload_n C d_X_mergeBags_16 3 rfl rfl ?_
        refine ze_getf C fl_X_37 (by decide) ze_E_x rfl d_X_mergeBags_17 ?_
        refine ze_getf (k := 3 + 3 * 9) C fl_X_50 (by decide) (ze_E_t (i := 9) (by omega)) rfl d_X_mergeBags_20 ?_
        refine ze_icmp_ltN 41 C d_X_mergeBags_23 (by decide) (by omega) (by omega) (fun h23 => ?_) (fun h23 => ?_)
        · refine ze_aload_n C d_X_mergeBags_41 3 rfl rfl ?_
          refine ze_iload_n C d_X_mergeBags_42 2 rfl rfl ?_
          refine ze_iload C d_X_mergeBags_43 1 rfl ?_
          refine ze_callV (st := []) C (c_X_isNextFromA (ze_l G) (ze_D G) (ze_i G) ad ms M T1 hd mv SA SB hA1 hB1 p q (by omega) (by omega)) (kv_X_133 (ze_rml (by decide) (by decide))) (by decide) ze_E_x rfl (Nat.le_of_ble_eq_true rfl) ⟨Nat.le_of_ble_eq_true rfl, Nat.le_of_ble_eq_true rfl⟩ d_X_mergeBags_45 ?_
          rintro _ _ _ _ ⟨rfl, rfl, _, rfl, b, rfl, rfl, hb1, hb2, hb3⟩
          refine ze_norm (c2 := 0) (s2 := 0) (st' := [.int (ze_bi b)]) rfl rfl rfl ?_
          refine ze_istore (lv' := [(6, .int (ze_bi b)), (5, .int (nI s)), (4, .int (nI q)), (3, .int (nI p)), (0, .ref (ad 0)), (1, .int (nI kd)), (2, .ref (ad (3 + 3 * m)))]) C d_X_mergeBags_48 (by decide) rfl ?_
          refine ze_iload C d_X_mergeBags_50 0 rfl ?_
          refine ze_if_eq 67 C d_X_mergeBags_52 (by decide) (fun h52 => ?_) (fun h52 => ?_)
          · have hqB : q < SB.length := hb3 (ze_bi0.mp h52) (by omega)
            have hpk := hb2 (ze_bi0.mp h52) hqB
            refine ze_aload_n C d_X_mergeBags_67 4 rfl rfl ?_
            refine ze_getf C fl_X_40 (by decide) ze_E_x rfl d_X_mergeBags_68 ?_
            refine ze_getf (k := 3 + 3 * 10) C fl_X_83 (by decide) (ze_E_t (i := 10) (by omega)) rfl d_X_mergeBags_71 ?_
            refine ze_iload C d_X_mergeBags_74 2 rfl ?_
            refine ze_iald (k := 4 + 3 * 10) (i := q) C (by decide) (ze_E_k (i := 10) (by omega)) (by omega) (by decide) d_X_mergeBags_76 ?_
            refine ze_istore (lv' := [(7, .int (((T1 10).1) q)), (6, .int (ze_bi b)), (5, .int (nI s)), (4, .int (nI q)), (3, .int (nI p)), (0, .ref (ad 0)), (1, .int (nI kd)), (2, .ref (ad (3 + 3 * m)))]) C d_X_mergeBags_77 (by decide) rfl ?_
            refine ze_iload C d_X_mergeBags_79 1 rfl ?_
            refine ze_if_eq 96 C d_X_mergeBags_81 (by decide) (fun h81 => ?_) (fun h81 => ?_)
            · refine ze_aload_n C d_X_mergeBags_96 5 rfl rfl ?_
              refine ze_getf C fl_X_40 (by decide) ze_E_x rfl d_X_mergeBags_97 ?_
              refine ze_getf (k := 3 + 3 * 10) C fl_X_87 (by decide) (ze_E_t (i := 10) (by omega)) rfl d_X_mergeBags_100 ?_
              refine ze_iload C d_X_mergeBags_103 3 rfl ?_
              refine ze_iald (k := 5 + 3 * 10) (i := q) C (by decide) (ze_E_v (i := 10) (by omega)) (by omega) (by decide) d_X_mergeBags_105 ?_
              refine ze_istore (lv' := [(8, .int (((T1 10).2.1) q)), (7, .int (((T1 10).1) q)), (6, .int (ze_bi b)), (5, .int (nI s)), (4, .int (nI q)), (3, .int (nI p)), (0, .ref (ad 0)), (1, .int (nI kd)), (2, .ref (ad (3 + 3 * m)))]) C d_X_mergeBags_106 (by decide) rfl ?_
              generalize (T1 10).1 q = key at hpk ⊢
              generalize (T1 10).2.1 q = value at hpk ⊢
              have ra := ze_rep_le (key, value) (SA.drop p)
              have rb := ze_rep_le (key, value) (SB.drop q)
              rw [List.length_drop] at ra rb
              refine ze_sub [(8, .int value), (7, .int key), (5, .int (nI s)), (4, .int (nI q)), (3, .int (nI p)), (0, .ref (ad 0)), (1, .int (nI kd)), (2, .ref (ad (3 + 3 * m)))] [0, 1, 3, 4, 5, 6, 7, 8] rfl ?_
              refine ze_aload_n C d_X_mergeBags_108 5 rfl rfl ?_
              refine ze_getf C fl_X_37 (by decide) ze_E_x rfl d_X_mergeBags_109 ?_
              refine ze_iload_n C d_X_mergeBags_112 4 rfl rfl ?_
              refine ze_iload C d_X_mergeBags_113 1 rfl ?_
              refine ze_iload C d_X_mergeBags_115 0 rfl ?_
              refine ze_eqE (ze_foc 9) ?_
              refine ze_callV (st := []) C (c_T_repeatsFrom (ze_l G) (ze_D G) (ze_i G) ad ms M T1 hd mv 9 (by omega) (T1 9).1 (T1 9).2.1 (T1 9).2.2.1 (T1 9).2.2.2 SA hA1 (by omega) p (by omega) key value) (kv_X_136 (ze_rml (by decide) (by decide))) (by decide) (ze_F_t (i := 9) (by omega)) rfl (Nat.le_of_ble_eq_true rfl) ⟨Nat.le_of_ble_eq_true rfl, Nat.le_of_ble_eq_true rfl⟩ d_X_mergeBags_117 ?_
              rintro _ _ _ _ ⟨rfl, rfl, _, rfl, rfl, rfl⟩
              refine ze_eqE (ze_foc 9).symm ?_
              refine ze_norm (c2 := 0) (s2 := 0) (st' := [.int (nI (ze_rep (key, value) (SA.drop p)))]) rfl rfl rfl ?_
              refine ze_istore (lv' := [(9, .int (nI (ze_rep (key, value) (SA.drop p)))), (8, .int value), (7, .int key), (5, .int (nI s)), (4, .int (nI q)), (3, .int (nI p)), (0, .ref (ad 0)), (1, .int (nI kd)), (2, .ref (ad (3 + 3 * m)))]) C d_X_mergeBags_120 (by decide) rfl ?_
              refine ze_aload_n C d_X_mergeBags_122 6 rfl rfl ?_
              refine ze_getf C fl_X_40 (by decide) ze_E_x rfl d_X_mergeBags_123 ?_
              refine ze_iload C d_X_mergeBags_126 4 rfl ?_
              refine ze_iload C d_X_mergeBags_128 2 rfl ?_
              refine ze_iload C d_X_mergeBags_130 1 rfl ?_
              refine ze_eqE (ze_foc 10) ?_
              refine ze_callV (st := []) C (c_T_repeatsFrom (ze_l G) (ze_D G) (ze_i G) ad ms M T1 hd mv 10 (by omega) (T1 10).1 (T1 10).2.1 (T1 10).2.2.1 (T1 10).2.2.2 SB hB1 (by omega) q (by omega) key value) (kv_X_136 (ze_rml (by decide) (by decide))) (by decide) (ze_F_t (i := 10) (by omega)) rfl (Nat.le_of_ble_eq_true rfl) ⟨Nat.le_of_ble_eq_true rfl, Nat.le_of_ble_eq_true rfl⟩ d_X_mergeBags_132 ?_
              rintro _ _ _ _ ⟨rfl, rfl, _, rfl, rfl, rfl⟩
              refine ze_eqE (ze_foc 10).symm ?_
              refine ze_norm (c2 := 0) (s2 := 0) (st' := [.int (nI (ze_rep (key, value) (SB.drop q)))]) rfl rfl rfl ?_
              refine ze_istore (lv' := [(10, .int (nI (ze_rep (key, value) (SB.drop q)))), (9, .int (nI (ze_rep (key, value) (SA.drop p)))), (8, .int value), (7, .int key), (5, .int (nI s)), (4, .int (nI q)), (3, .int (nI p)), (0, .ref (ad 0)), (1, .int (nI kd)), (2, .ref (ad (3 + 3 * m)))]) C d_X_mergeBags_135 (by decide) rfl ?_
              refine ze_iload_n C d_X_mergeBags_137 8 rfl rfl ?_
              refine ze_iload C d_X_mergeBags_138 1 rfl ?_
              refine ze_iload C d_X_mergeBags_140 0 rfl ?_
              refine ze_callS (st := []) C (c_X_timesInResult (ze_l G) (ze_D G) (ze_i G) _ _ _ kd (ze_rep (key, value) (SA.drop p)) (ze_rep (key, value) (SB.drop q)) hk (by omega) (by omega)) (ks_X_139 (ze_rml (by decide) (by decide))) rfl (Nat.le_of_ble_eq_true rfl) ⟨Nat.le_of_ble_eq_true rfl, Nat.le_of_ble_eq_true rfl⟩ d_X_mergeBags_142 ?_
              rintro _ _ _ _ ⟨rfl, rfl, rfl, rfl⟩
              refine ze_norm (c2 := 0) (s2 := 0) (st' := [.int (nI (ze_tm kd (ze_rep (key, value) (SA.drop p)) (ze_rep (key, value) (SB.drop q))))]) rfl rfl rfl ?_
              refine ze_istore (lv' := [(11, .int (nI (ze_tm kd (ze_rep (key, value) (SA.drop p)) (ze_rep (key, value) (SB.drop q))))), (10, .int (nI (ze_rep (key, value) (SB.drop q)))), (9, .int (nI (ze_rep (key, value) (SA.drop p)))), (8, .int value), (7, .int key), (5, .int (nI s)), (4, .int (nI q)), (3, .int (nI p)), (0, .ref (ad 0)), (1, .int (nI kd)), (2, .ref (ad (3 + 3 * m)))]) C d_X_mergeBags_145 (by decide) rfl ?_
              refine ze_iconst (v := nI 0) C d_X_mergeBags_147 (by decide) ?_
              refine ze_istore (lv' := [(12, .int (nI 0)), (11, .int (nI (ze_tm kd (ze_rep (key, value) (SA.drop p)) (ze_rep (key, value) (SB.drop q))))), (10, .int (nI (ze_rep (key, value) (SB.drop q)))), (9, .int (nI (ze_rep (key, value) (SA.drop p)))), (8, .int value), (7, .int key), (5, .int (nI s)), (4, .int (nI q)), (3, .int (nI p)), (0, .ref (ad 0)), (1, .int (nI kd)), (2, .ref (ad (3 + 3 * m)))]) C d_X_mergeBags_148 (by decide) rfl ?_
              have htm : ze_tm kd (ze_rep (key, value) (SA.drop p)) (ze_rep (key, value) (SB.drop q)) ≤ 120 := Nat.le_trans ze_tm_le (by omega)
              have inner : ∀ (r2 c : Nat) (T2 : Nat → ze_T), ze_tm kd (ze_rep (key, value) (SA.drop p)) (ze_rep (key, value) (SB.drop q)) - c = r2 → c ≤ ze_tm kd (ze_rep (key, value) (SA.drop p)) (ze_rep (key, value) (SB.drop q)) → (∀ z, z ≠ m → T2 z = T z) → ze_Hu (T2 m) (Lm ++ List.replicate c (key, value)) → ze_V G 48 ad (ze_E (ze_i G) ad (M, T2, hd, mv) ms) 0 0 150 [(12, .int (nI c)), (11, .int (nI (ze_tm kd (ze_rep (key, value) (SA.drop p)) (ze_rep (key, value) (SB.drop q))))), (10, .int (nI (ze_rep (key, value) (SB.drop q)))), (9, .int (nI (ze_rep (key, value) (SA.drop p)))), (8, .int value), (7, .int key), (5, .int (nI s)), (4, .int (nI q)), (3, .int (nI p)), (0, .ref (ad 0)), (1, .int (nI kd)), (2, .ref (ad (3 + 3 * m)))] [] := by
                intro r2
                induction r2 using Nat.strongRecOn with
                | ind r2 ih2 =>
                  intro c T2 k0 k1 k2 k3
                  have hm2 := ze_Hu_le k3
                  refine ze_iload C d_X_mergeBags_150 0 rfl ?_
                  refine ze_iload C d_X_mergeBags_152 1 rfl ?_
                  refine ze_icmp_geN 171 C d_X_mergeBags_154 (by decide) (by omega) (by omega) (fun h154 => ?_) (fun h154 => ?_)
                  · refine ze_iload_n C d_X_mergeBags_171 8 rfl rfl ?_
                    refine ze_iload C d_X_mergeBags_172 3 rfl ?_
                    refine ze_iaddN C d_X_mergeBags_174 ?_
                    refine ze_istore_n (lv' := [(3, .int (nI (p + (ze_rep (key, value) (SA.drop p))))), (12, .int (nI c)), (11, .int (nI (ze_tm kd (ze_rep (key, value) (SA.drop p)) (ze_rep (key, value) (SB.drop q))))), (10, .int (nI (ze_rep (key, value) (SB.drop q)))), (9, .int (nI (ze_rep (key, value) (SA.drop p)))), (8, .int value), (7, .int key), (5, .int (nI s)), (4, .int (nI q)), (0, .ref (ad 0)), (1, .int (nI kd)), (2, .ref (ad (3 + 3 * m)))]) C d_X_mergeBags_175 rfl (by decide) rfl ?_
                    refine ze_iload C d_X_mergeBags_176 8 rfl ?_
                    refine ze_iload C d_X_mergeBags_178 3 rfl ?_
                    refine ze_iaddN C d_X_mergeBags_180 ?_
                    refine ze_istore (lv' := [(4, .int (nI (q + (ze_rep (key, value) (SB.drop q))))), (3, .int (nI (p + (ze_rep (key, value) (SA.drop p))))), (12, .int (nI c)), (11, .int (nI (ze_tm kd (ze_rep (key, value) (SA.drop p)) (ze_rep (key, value) (SB.drop q))))), (10, .int (nI (ze_rep (key, value) (SB.drop q)))), (9, .int (nI (ze_rep (key, value) (SA.drop p)))), (8, .int value), (7, .int key), (5, .int (nI s)), (0, .ref (ad 0)), (1, .int (nI kd)), (2, .ref (ad (3 + 3 * m)))]) C d_X_mergeBags_181 (by decide) rfl ?_
                    refine ze_iinc (j := 8) (v := nI (s + 1)) (lv' := [(5, .int (nI (s + 1))), (4, .int (nI (q + (ze_rep (key, value) (SB.drop q))))), (3, .int (nI (p + (ze_rep (key, value) (SA.drop p))))), (12, .int (nI c)), (11, .int (nI (ze_tm kd (ze_rep (key, value) (SA.drop p)) (ze_rep (key, value) (SB.drop q))))), (10, .int (nI (ze_rep (key, value) (SB.drop q)))), (9, .int (nI (ze_rep (key, value) (SA.drop p)))), (8, .int value), (7, .int key), (0, .ref (ad 0)), (1, .int (nI kd)), (2, .ref (ad (3 + 3 * m)))]) C d_X_mergeBags_183 rfl (nI_1 _) (by decide) rfl ?_
                    refine ze_goto 8 C d_X_mergeBags_186 (by decide) ?_
                    refine ze_sub [(5, .int (nI (s + 1))), (4, .int (nI (q + ze_rep (key, value) (SB.drop q)))), (3, .int (nI (p + ze_rep (key, value) (SA.drop p)))), (0, .ref (ad 0)), (1, .int (nI kd)), (2, .ref (ad (3 + 3 * m)))] [0, 1, 2, 9, 10, 11] rfl ?_
                    refine ih (120 - (s + 1)) (by omega) (s + 1) _ _ T2 _ rfl (by omega) (by omega) (by omega) k2 k3 ?_
                    rw [← g6, show 120 - s = (120 - (s + 1)) + 1 by omega, ze_mg_step hpk, List.append_assoc, List.drop_drop, List.drop_drop, show c = ze_tm kd (ze_rep (key, value) (SA.drop p)) (ze_rep (key, value) (SB.drop q)) by omega]
                  · refine ze_aload_n C d_X_mergeBags_157 11 rfl rfl ?_
                    refine ze_iload C d_X_mergeBags_158 5 rfl ?_
                    refine ze_iload C d_X_mergeBags_160 4 rfl ?_
                    refine ze_eqE (ze_foc m) ?_
                    refine ze_callV (st := []) C (c_T_append (ze_l G) (ze_D G) (ze_i G) ad ms M T2 hd mv m (by omega) (T2 m).1 (T2 m).2.1 (T2 m).2.2.1 (T2 m).2.2.2 (by omega) key value) (kv_X_53 (ze_rml (by decide) (by decide))) (by omega) (ze_F_t (i := m) (by omega)) rfl (Nat.le_of_ble_eq_true rfl) ⟨Nat.le_of_ble_eq_true rfl, Nat.le_of_ble_eq_true rfl⟩ d_X_mergeBags_162 ?_
                    rintro _ _ _ _ ⟨rfl, rfl, _, rfl, rfl, rfl⟩
                    refine ze_genT (fun T3 eT3 => ?_)
                    refine ze_norm (c2 := 0) (s2 := 0) (st' := []) rfl rfl rfl ?_
                    refine ze_iinc (j := 0) (v := nI (c + 1)) (lv' := [(12, .int (nI (c + 1))), (11, .int (nI (ze_tm kd (ze_rep (key, value) (SA.drop p)) (ze_rep (key, value) (SB.drop q))))), (10, .int (nI (ze_rep (key, value) (SB.drop q)))), (9, .int (nI (ze_rep (key, value) (SA.drop p)))), (8, .int value), (7, .int key), (5, .int (nI s)), (4, .int (nI q)), (3, .int (nI p)), (0, .ref (ad 0)), (1, .int (nI kd)), (2, .ref (ad (3 + 3 * m)))]) C d_X_mergeBags_165 rfl (nI_1 _) (by decide) rfl ?_
                    refine ze_goto 150 C d_X_mergeBags_168 (by decide) ?_
                    refine ze_sub [(12, .int (nI (c + 1))), (11, .int (nI (ze_tm kd (ze_rep (key, value) (SA.drop p)) (ze_rep (key, value) (SB.drop q))))), (10, .int (nI (ze_rep (key, value) (SB.drop q)))), (9, .int (nI (ze_rep (key, value) (SA.drop p)))), (8, .int value), (7, .int key), (5, .int (nI s)), (4, .int (nI q)), (3, .int (nI p)), (0, .ref (ad 0)), (1, .int (nI kd)), (2, .ref (ad (3 + 3 * m)))] [0, 1, 2, 3, 4, 5, 6, 7, 8, 9, 10, 11] rfl ?_
                    exact ih2 (ze_tm kd (ze_rep (key, value) (SA.drop p)) (ze_rep (key, value) (SB.drop q)) - (c + 1)) (by omega) (c + 1) T3 rfl (by omega) (fun z hz => (ze_upo eT3 z hz).trans (k2 z hz)) (by rw [List.replicate_succ', ← List.append_assoc]; exact ze_Hu_app k3 eT3)
              refine ze_sub [(12, .int (nI 0)), (11, .int (nI (ze_tm kd (ze_rep (key, value) (SA.drop p)) (ze_rep (key, value) (SB.drop q))))), (10, .int (nI (ze_rep (key, value) (SB.drop q)))), (9, .int (nI (ze_rep (key, value) (SA.drop p)))), (8, .int value), (7, .int key), (5, .int (nI s)), (4, .int (nI q)), (3, .int (nI p)), (0, .ref (ad 0)), (1, .int (nI kd)), (2, .ref (ad (3 + 3 * m)))] [0, 1, 2, 3, 4, 5, 6, 7, 8, 9, 10, 11] rfl ?_
              exact inner _ 0 T1 rfl (Nat.zero_le _) g4 (by rw [List.replicate_zero, List.append_nil]; exact g5)
            · exact absurd h52 h81
          · obtain ⟨hpA, hpk⟩ := hb1 (ze_bi1 h52)
            refine ze_aload_n C d_X_mergeBags_55 4 rfl rfl ?_
            refine ze_getf C fl_X_37 (by decide) ze_E_x rfl d_X_mergeBags_56 ?_
            refine ze_getf (k := 3 + 3 * 9) C fl_X_83 (by decide) (ze_E_t (i := 9) (by omega)) rfl d_X_mergeBags_59 ?_
            refine ze_iload_n C d_X_mergeBags_62 3 rfl rfl ?_
            refine ze_iald (k := 4 + 3 * 9) (i := p) C (by decide) (ze_E_k (i := 9) (by omega)) (by omega) (by decide) d_X_mergeBags_63 ?_
            refine ze_goto 77 C d_X_mergeBags_64 (by decide) ?_
            refine ze_istore (lv' := [(7, .int (((T1 9).1) p)), (6, .int (ze_bi b)), (5, .int (nI s)), (4, .int (nI q)), (3, .int (nI p)), (0, .ref (ad 0)), (1, .int (nI kd)), (2, .ref (ad (3 + 3 * m)))]) C d_X_mergeBags_77 (by decide) rfl ?_
            refine ze_iload C d_X_mergeBags_79 1 rfl ?_
            refine ze_if_eq 96 C d_X_mergeBags_81 (by decide) (fun h81 => ?_) (fun h81 => ?_)
            · exact absurd h81 h52
            · refine ze_aload_n C d_X_mergeBags_84 5 rfl rfl ?_
              refine ze_getf C fl_X_37 (by decide) ze_E_x rfl d_X_mergeBags_85 ?_
              refine ze_getf (k := 3 + 3 * 9) C fl_X_87 (by decide) (ze_E_t (i := 9) (by omega)) rfl d_X_mergeBags_88 ?_
              refine ze_iload_n C d_X_mergeBags_91 4 rfl rfl ?_
              refine ze_iald (k := 5 + 3 * 9) (i := p) C (by decide) (ze_E_v (i := 9) (by omega)) (by omega) (by decide) d_X_mergeBags_92 ?_
              refine ze_goto 106 C d_X_mergeBags_93 (by decide) ?_
              refine ze_istore (lv' := [(8, .int (((T1 9).2.1) p)), (7, .int (((T1 9).1) p)), (6, .int (ze_bi b)), (5, .int (nI s)), (4, .int (nI q)), (3, .int (nI p)), (0, .ref (ad 0)), (1, .int (nI kd)), (2, .ref (ad (3 + 3 * m)))]) C d_X_mergeBags_106 (by decide) rfl ?_
              generalize (T1 9).1 p = key at hpk ⊢
              generalize (T1 9).2.1 p = value at hpk ⊢
              have ra := ze_rep_le (key, value) (SA.drop p)
              have rb := ze_rep_le (key, value) (SB.drop q)
              rw [List.length_drop] at ra rb
              refine ze_sub [(8, .int value), (7, .int key), (5, .int (nI s)), (4, .int (nI q)), (3, .int (nI p)), (0, .ref (ad 0)), (1, .int (nI kd)), (2, .ref (ad (3 + 3 * m)))] [0, 1, 3, 4, 5, 6, 7, 8] rfl ?_
              refine ze_aload_n C d_X_mergeBags_108 5 rfl rfl ?_
              refine ze_getf C fl_X_37 (by decide) ze_E_x rfl d_X_mergeBags_109 ?_
              refine ze_iload_n C d_X_mergeBags_112 4 rfl rfl ?_
              refine ze_iload C d_X_mergeBags_113 1 rfl ?_
              refine ze_iload C d_X_mergeBags_115 0 rfl ?_
              refine ze_eqE (ze_foc 9) ?_
              refine ze_callV (st := []) C (c_T_repeatsFrom (ze_l G) (ze_D G) (ze_i G) ad ms M T1 hd mv 9 (by omega) (T1 9).1 (T1 9).2.1 (T1 9).2.2.1 (T1 9).2.2.2 SA hA1 (by omega) p (by omega) key value) (kv_X_136 (ze_rml (by decide) (by decide))) (by decide) (ze_F_t (i := 9) (by omega)) rfl (Nat.le_of_ble_eq_true rfl) ⟨Nat.le_of_ble_eq_true rfl, Nat.le_of_ble_eq_true rfl⟩ d_X_mergeBags_117 ?_
              rintro _ _ _ _ ⟨rfl, rfl, _, rfl, rfl, rfl⟩
              refine ze_eqE (ze_foc 9).symm ?_
              refine ze_norm (c2 := 0) (s2 := 0) (st' := [.int (nI (ze_rep (key, value) (SA.drop p)))]) rfl rfl rfl ?_
              refine ze_istore (lv' := [(9, .int (nI (ze_rep (key, value) (SA.drop p)))), (8, .int value), (7, .int key), (5, .int (nI s)), (4, .int (nI q)), (3, .int (nI p)), (0, .ref (ad 0)), (1, .int (nI kd)), (2, .ref (ad (3 + 3 * m)))]) C d_X_mergeBags_120 (by decide) rfl ?_
              refine ze_aload_n C d_X_mergeBags_122 6 rfl rfl ?_
              refine ze_getf C fl_X_40 (by decide) ze_E_x rfl d_X_mergeBags_123 ?_
              refine ze_iload C d_X_mergeBags_126 4 rfl ?_
              refine ze_iload C d_X_mergeBags_128 2 rfl ?_
              refine ze_iload C d_X_mergeBags_130 1 rfl ?_
              refine ze_eqE (ze_foc 10) ?_
              refine ze_callV (st := []) C (c_T_repeatsFrom (ze_l G) (ze_D G) (ze_i G) ad ms M T1 hd mv 10 (by omega) (T1 10).1 (T1 10).2.1 (T1 10).2.2.1 (T1 10).2.2.2 SB hB1 (by omega) q (by omega) key value) (kv_X_136 (ze_rml (by decide) (by decide))) (by decide) (ze_F_t (i := 10) (by omega)) rfl (Nat.le_of_ble_eq_true rfl) ⟨Nat.le_of_ble_eq_true rfl, Nat.le_of_ble_eq_true rfl⟩ d_X_mergeBags_132 ?_
              rintro _ _ _ _ ⟨rfl, rfl, _, rfl, rfl, rfl⟩
              refine ze_eqE (ze_foc 10).symm ?_
              refine ze_norm (c2 := 0) (s2 := 0) (st' := [.int (nI (ze_rep (key, value) (SB.drop q)))]) rfl rfl rfl ?_
              refine ze_istore (lv' := [(10, .int (nI (ze_rep (key, value) (SB.drop q)))), (9, .int (nI (ze_rep (key, value) (SA.drop p)))), (8, .int value), (7, .int key), (5, .int (nI s)), (4, .int (nI q)), (3, .int (nI p)), (0, .ref (ad 0)), (1, .int (nI kd)), (2, .ref (ad (3 + 3 * m)))]) C d_X_mergeBags_135 (by decide) rfl ?_
              refine ze_iload_n C d_X_mergeBags_137 8 rfl rfl ?_
              refine ze_iload C d_X_mergeBags_138 1 rfl ?_
              refine ze_iload C d_X_mergeBags_140 0 rfl ?_
              refine ze_callS (st := []) C (c_X_timesInResult (ze_l G) (ze_D G) (ze_i G) _ _ _ kd (ze_rep (key, value) (SA.drop p)) (ze_rep (key, value) (SB.drop q)) hk (by omega) (by omega)) (ks_X_139 (ze_rml (by decide) (by decide))) rfl (Nat.le_of_ble_eq_true rfl) ⟨Nat.le_of_ble_eq_true rfl, Nat.le_of_ble_eq_true rfl⟩ d_X_mergeBags_142 ?_
              rintro _ _ _ _ ⟨rfl, rfl, rfl, rfl⟩
              refine ze_norm (c2 := 0) (s2 := 0) (st' := [.int (nI (ze_tm kd (ze_rep (key, value) (SA.drop p)) (ze_rep (key, value) (SB.drop q))))]) rfl rfl rfl ?_
              refine ze_istore (lv' := [(11, .int (nI (ze_tm kd (ze_rep (key, value) (SA.drop p)) (ze_rep (key, value) (SB.drop q))))), (10, .int (nI (ze_rep (key, value) (SB.drop q)))), (9, .int (nI (ze_rep (key, value) (SA.drop p)))), (8, .int value), (7, .int key), (5, .int (nI s)), (4, .int (nI q)), (3, .int (nI p)), (0, .ref (ad 0)), (1, .int (nI kd)), (2, .ref (ad (3 + 3 * m)))]) C d_X_mergeBags_145 (by decide) rfl ?_
              refine ze_iconst (v := nI 0) C d_X_mergeBags_147 (by decide) ?_
              refine ze_istore (lv' := [(12, .int (nI 0)), (11, .int (nI (ze_tm kd (ze_rep (key, value) (SA.drop p)) (ze_rep (key, value) (SB.drop q))))), (10, .int (nI (ze_rep (key, value) (SB.drop q)))), (9, .int (nI (ze_rep (key, value) (SA.drop p)))), (8, .int value), (7, .int key), (5, .int (nI s)), (4, .int (nI q)), (3, .int (nI p)), (0, .ref (ad 0)), (1, .int (nI kd)), (2, .ref (ad (3 + 3 * m)))]) C d_X_mergeBags_148 (by decide) rfl ?_
              have htm : ze_tm kd (ze_rep (key, value) (SA.drop p)) (ze_rep (key, value) (SB.drop q)) ≤ 120 := Nat.le_trans ze_tm_le (by omega)
              have inner : ∀ (r2 c : Nat) (T2 : Nat → ze_T), ze_tm kd (ze_rep (key, value) (SA.drop p)) (ze_rep (key, value) (SB.drop q)) - c = r2 → c ≤ ze_tm kd (ze_rep (key, value) (SA.drop p)) (ze_rep (key, value) (SB.drop q)) → (∀ z, z ≠ m → T2 z = T z) → ze_Hu (T2 m) (Lm ++ List.replicate c (key, value)) → ze_V G 48 ad (ze_E (ze_i G) ad (M, T2, hd, mv) ms) 0 0 150 [(12, .int (nI c)), (11, .int (nI (ze_tm kd (ze_rep (key, value) (SA.drop p)) (ze_rep (key, value) (SB.drop q))))), (10, .int (nI (ze_rep (key, value) (SB.drop q)))), (9, .int (nI (ze_rep (key, value) (SA.drop p)))), (8, .int value), (7, .int key), (5, .int (nI s)), (4, .int (nI q)), (3, .int (nI p)), (0, .ref (ad 0)), (1, .int (nI kd)), (2, .ref (ad (3 + 3 * m)))] [] := by
                intro r2
                induction r2 using Nat.strongRecOn with
                | ind r2 ih2 =>
                  intro c T2 k0 k1 k2 k3
                  have hm2 := ze_Hu_le k3
                  refine ze_iload C d_X_mergeBags_150 0 rfl ?_
                  refine ze_iload C d_X_mergeBags_152 1 rfl ?_
                  refine ze_icmp_geN 171 C d_X_mergeBags_154 (by decide) (by omega) (by omega) (fun h154 => ?_) (fun h154 => ?_)
                  · refine ze_iload_n C d_X_mergeBags_171 8 rfl rfl ?_
                    refine ze_iload C d_X_mergeBags_172 3 rfl ?_
                    refine ze_iaddN C d_X_mergeBags_174 ?_
                    refine ze_istore_n (lv' := [(3, .int (nI (p + (ze_rep (key, value) (SA.drop p))))), (12, .int (nI c)), (11, .int (nI (ze_tm kd (ze_rep (key, value) (SA.drop p)) (ze_rep (key, value) (SB.drop q))))), (10, .int (nI (ze_rep (key, value) (SB.drop q)))), (9, .int (nI (ze_rep (key, value) (SA.drop p)))), (8, .int value), (7, .int key), (5, .int (nI s)), (4, .int (nI q)), (0, .ref (ad 0)), (1, .int (nI kd)), (2, .ref (ad (3 + 3 * m)))]) C d_X_mergeBags_175 rfl (by decide) rfl ?_
                    refine ze_iload C d_X_mergeBags_176 8 rfl ?_
                    refine ze_iload C d_X_mergeBags_178 3 rfl ?_
                    refine ze_iaddN C d_X_mergeBags_180 ?_
                    refine ze_istore (lv' := [(4, .int (nI (q + (ze_rep (key, value) (SB.drop q))))), (3, .int (nI (p + (ze_rep (key, value) (SA.drop p))))), (12, .int (nI c)), (11, .int (nI (ze_tm kd (ze_rep (key, value) (SA.drop p)) (ze_rep (key, value) (SB.drop q))))), (10, .int (nI (ze_rep (key, value) (SB.drop q)))), (9, .int (nI (ze_rep (key, value) (SA.drop p)))), (8, .int value), (7, .int key), (5, .int (nI s)), (0, .ref (ad 0)), (1, .int (nI kd)), (2, .ref (ad (3 + 3 * m)))]) C d_X_mergeBags_181 (by decide) rfl ?_
                    refine ze_iinc (j := 8) (v := nI (s + 1)) (lv' := [(5, .int (nI (s + 1))), (4, .int (nI (q + (ze_rep (key, value) (SB.drop q))))), (3, .int (nI (p + (ze_rep (key, value) (SA.drop p))))), (12, .int (nI c)), (11, .int (nI (ze_tm kd (ze_rep (key, value) (SA.drop p)) (ze_rep (key, value) (SB.drop q))))), (10, .int (nI (ze_rep (key, value) (SB.drop q)))), (9, .int (nI (ze_rep (key, value) (SA.drop p)))), (8, .int value), (7, .int key), (0, .ref (ad 0)), (1, .int (nI kd)), (2, .ref (ad (3 + 3 * m)))]) C d_X_mergeBags_183 rfl (nI_1 _) (by decide) rfl ?_
                    refine ze_goto 8 C d_X_mergeBags_186 (by decide) ?_
                    refine ze_sub [(5, .int (nI (s + 1))), (4, .int (nI (q + ze_rep (key, value) (SB.drop q)))), (3, .int (nI (p + ze_rep (key, value) (SA.drop p)))), (0, .ref (ad 0)), (1, .int (nI kd)), (2, .ref (ad (3 + 3 * m)))] [0, 1, 2, 9, 10, 11] rfl ?_
                    refine ih (120 - (s + 1)) (by omega) (s + 1) _ _ T2 _ rfl (by omega) (by omega) (by omega) k2 k3 ?_
                    rw [← g6, show 120 - s = (120 - (s + 1)) + 1 by omega, ze_mg_step hpk, List.append_assoc, List.drop_drop, List.drop_drop, show c = ze_tm kd (ze_rep (key, value) (SA.drop p)) (ze_rep (key, value) (SB.drop q)) by omega]
                  · refine ze_aload_n C d_X_mergeBags_157 11 rfl rfl ?_
                    refine ze_iload C d_X_mergeBags_158 5 rfl ?_
                    refine ze_iload C d_X_mergeBags_160 4 rfl ?_
                    refine ze_eqE (ze_foc m) ?_
                    refine ze_callV (st := []) C (c_T_append (ze_l G) (ze_D G) (ze_i G) ad ms M T2 hd mv m (by omega) (T2 m).1 (T2 m).2.1 (T2 m).2.2.1 (T2 m).2.2.2 (by omega) key value) (kv_X_53 (ze_rml (by decide) (by decide))) (by omega) (ze_F_t (i := m) (by omega)) rfl (Nat.le_of_ble_eq_true rfl) ⟨Nat.le_of_ble_eq_true rfl, Nat.le_of_ble_eq_true rfl⟩ d_X_mergeBags_162 ?_
                    rintro _ _ _ _ ⟨rfl, rfl, _, rfl, rfl, rfl⟩
                    refine ze_genT (fun T3 eT3 => ?_)
                    refine ze_norm (c2 := 0) (s2 := 0) (st' := []) rfl rfl rfl ?_
                    refine ze_iinc (j := 0) (v := nI (c + 1)) (lv' := [(12, .int (nI (c + 1))), (11, .int (nI (ze_tm kd (ze_rep (key, value) (SA.drop p)) (ze_rep (key, value) (SB.drop q))))), (10, .int (nI (ze_rep (key, value) (SB.drop q)))), (9, .int (nI (ze_rep (key, value) (SA.drop p)))), (8, .int value), (7, .int key), (5, .int (nI s)), (4, .int (nI q)), (3, .int (nI p)), (0, .ref (ad 0)), (1, .int (nI kd)), (2, .ref (ad (3 + 3 * m)))]) C d_X_mergeBags_165 rfl (nI_1 _) (by decide) rfl ?_
                    refine ze_goto 150 C d_X_mergeBags_168 (by decide) ?_
                    refine ze_sub [(12, .int (nI (c + 1))), (11, .int (nI (ze_tm kd (ze_rep (key, value) (SA.drop p)) (ze_rep (key, value) (SB.drop q))))), (10, .int (nI (ze_rep (key, value) (SB.drop q)))), (9, .int (nI (ze_rep (key, value) (SA.drop p)))), (8, .int value), (7, .int key), (5, .int (nI s)), (4, .int (nI q)), (3, .int (nI p)), (0, .ref (ad 0)), (1, .int (nI kd)), (2, .ref (ad (3 + 3 * m)))] [0, 1, 2, 3, 4, 5, 6, 7, 8, 9, 10, 11] rfl ?_
                    exact ih2 (ze_tm kd (ze_rep (key, value) (SA.drop p)) (ze_rep (key, value) (SB.drop q)) - (c + 1)) (by omega) (c + 1) T3 rfl (by omega) (fun z hz => (ze_upo eT3 z hz).trans (k2 z hz)) (by rw [List.replicate_succ', ← List.append_assoc]; exact ze_Hu_app k3 eT3)
              refine ze_sub [(12, .int (nI 0)), (11, .int (nI (ze_tm kd (ze_rep (key, value) (SA.drop p)) (ze_rep (key, value) (SB.drop q))))), (10, .int (nI (ze_rep (key, value) (SB.drop q)))), (9, .int (nI (ze_rep (key, value) (SA.drop p)))), (8, .int value), (7, .int key), (5, .int (nI s)), (4, .int (nI q)), (3, .int (nI p)), (0, .ref (ad 0)), (1, .int (nI kd)), (2, .ref (ad (3 + 3 * m)))] [0, 1, 2, 3, 4, 5, 6, 7, 8, 9, 10, 11] rfl ?_
              exact inner _ 0 T1 rfl (Nat.zero_le _) g4 (by rw [List.replicate_zero, List.append_nil]; exact g5)
        · refine ze_iload C d_X_mergeBags_26 1 rfl ?_
          refine ze_aload_n C d_X_mergeBags_28 3 rfl rfl ?_
          refine ze_getf C fl_X_40 (by decide) ze_E_x rfl d_X_mergeBags_29 ?_
          refine ze_getf (k := 3 + 3 * 10) C fl_X_50 (by decide) (ze_E_t (i := 10) (by omega)) rfl d_X_mergeBags_32 ?_
          refine ze_icmp_ltN 41 C d_X_mergeBags_35 (by decide) (by omega) (by omega) (fun h35 => ?_) (fun h35 => ?_)
          · refine ze_aload_n C d_X_mergeBags_41 3 rfl rfl ?_
            refine ze_iload_n C d_X_mergeBags_42 2 rfl rfl ?_
            refine ze_iload C d_X_mergeBags_43 1 rfl ?_
            refine ze_callV (st := []) C (c_X_isNextFromA (ze_l G) (ze_D G) (ze_i G) ad ms M T1 hd mv SA SB hA1 hB1 p q (by omega) (by omega)) (kv_X_133 (ze_rml (by decide) (by decide))) (by decide) ze_E_x rfl (Nat.le_of_ble_eq_true rfl) ⟨Nat.le_of_ble_eq_true rfl, Nat.le_of_ble_eq_true rfl⟩ d_X_mergeBags_45 ?_
            rintro _ _ _ _ ⟨rfl, rfl, _, rfl, b, rfl, rfl, hb1, hb2, hb3⟩
            refine ze_norm (c2 := 0) (s2 := 0) (st' := [.int (ze_bi b)]) rfl rfl rfl ?_
            refine ze_istore (lv' := [(6, .int (ze_bi b)), (5, .int (nI s)), (4, .int (nI q)), (3, .int (nI p)), (0, .ref (ad 0)), (1, .int (nI kd)), (2, .ref (ad (3 + 3 * m)))]) C d_X_mergeBags_48 (by decide) rfl ?_
            refine ze_iload C d_X_mergeBags_50 0 rfl ?_
            refine ze_if_eq 67 C d_X_mergeBags_52 (by decide) (fun h52 => ?_) (fun h52 => ?_)
            · have hqB : q < SB.length := by omega
              have hpk := hb2 (ze_bi0.mp h52) hqB
              refine ze_aload_n C d_X_mergeBags_67 4 rfl rfl ?_
              refine ze_getf C fl_X_40 (by decide) ze_E_x rfl d_X_mergeBags_68 ?_
              refine ze_getf (k := 3 + 3 * 10) C fl_X_83 (by decide) (ze_E_t (i := 10) (by omega)) rfl d_X_mergeBags_71 ?_
              refine ze_iload C d_X_mergeBags_74 2 rfl ?_
              refine ze_iald (k := 4 + 3 * 10) (i := q) C (by decide) (ze_E_k (i := 10) (by omega)) (by omega) (by decide) d_X_mergeBags_76 ?_
              refine ze_istore (lv' := [(7, .int (((T1 10).1) q)), (6, .int (ze_bi b)), (5, .int (nI s)), (4, .int (nI q)), (3, .int (nI p)), (0, .ref (ad 0)), (1, .int (nI kd)), (2, .ref (ad (3 + 3 * m)))]) C d_X_mergeBags_77 (by decide) rfl ?_
              refine ze_iload C d_X_mergeBags_79 1 rfl ?_
              refine ze_if_eq 96 C d_X_mergeBags_81 (by decide) (fun h81 => ?_) (fun h81 => ?_)
              · refine ze_aload_n C d_X_mergeBags_96 5 rfl rfl ?_
                refine ze_getf C fl_X_40 (by decide) ze_E_x rfl d_X_mergeBags_97 ?_
                refine ze_getf (k := 3 + 3 * 10) C fl_X_87 (by decide) (ze_E_t (i := 10) (by omega)) rfl d_X_mergeBags_100 ?_
                refine ze_iload C d_X_mergeBags_103 3 rfl ?_
                refine ze_iald (k := 5 + 3 * 10) (i := q) C (by decide) (ze_E_v (i := 10) (by omega)) (by omega) (by decide) d_X_mergeBags_105 ?_
                refine ze_istore (lv' := [(8, .int (((T1 10).2.1) q)), (7, .int (((T1 10).1) q)), (6, .int (ze_bi b)), (5, .int (nI s)), (4, .int (nI q)), (3, .int (nI p)), (0, .ref (ad 0)), (1, .int (nI kd)), (2, .ref (ad (3 + 3 * m)))]) C d_X_mergeBags_106 (by decide) rfl ?_
                generalize (T1 10).1 q = key at hpk ⊢
                generalize (T1 10).2.1 q = value at hpk ⊢
                have ra := ze_rep_le (key, value) (SA.drop p)
                have rb := ze_rep_le (key, value) (SB.drop q)
                rw [List.length_drop] at ra rb
                refine ze_sub [(8, .int value), (7, .int key), (5, .int (nI s)), (4, .int (nI q)), (3, .int (nI p)), (0, .ref (ad 0)), (1, .int (nI kd)), (2, .ref (ad (3 + 3 * m)))] [0, 1, 3, 4, 5, 6, 7, 8] rfl ?_
                refine ze_aload_n C d_X_mergeBags_108 5 rfl rfl ?_
                refine ze_getf C fl_X_37 (by decide) ze_E_x rfl d_X_mergeBags_109 ?_
                refine ze_iload_n C d_X_mergeBags_112 4 rfl rfl ?_
                refine ze_iload C d_X_mergeBags_113 1 rfl ?_
                refine ze_iload C d_X_mergeBags_115 0 rfl ?_
                refine ze_eqE (ze_foc 9) ?_
                refine ze_callV (st := []) C (c_T_repeatsFrom (ze_l G) (ze_D G) (ze_i G) ad ms M T1 hd mv 9 (by omega) (T1 9).1 (T1 9).2.1 (T1 9).2.2.1 (T1 9).2.2.2 SA hA1 (by omega) p (by omega) key value) (kv_X_136 (ze_rml (by decide) (by decide))) (by decide) (ze_F_t (i := 9) (by omega)) rfl (Nat.le_of_ble_eq_true rfl) ⟨Nat.le_of_ble_eq_true rfl, Nat.le_of_ble_eq_true rfl⟩ d_X_mergeBags_117 ?_
                rintro _ _ _ _ ⟨rfl, rfl, _, rfl, rfl, rfl⟩
                refine ze_eqE (ze_foc 9).symm ?_
                refine ze_norm (c2 := 0) (s2 := 0) (st' := [.int (nI (ze_rep (key, value) (SA.drop p)))]) rfl rfl rfl ?_
                refine ze_istore (lv' := [(9, .int (nI (ze_rep (key, value) (SA.drop p)))), (8, .int value), (7, .int key), (5, .int (nI s)), (4, .int (nI q)), (3, .int (nI p)), (0, .ref (ad 0)), (1, .int (nI kd)), (2, .ref (ad (3 + 3 * m)))]) C d_X_mergeBags_120 (by decide) rfl ?_
                refine ze_aload_n C d_X_mergeBags_122 6 rfl rfl ?_
                refine ze_getf C fl_X_40 (by decide) ze_E_x rfl d_X_mergeBags_123 ?_
                refine ze_iload C d_X_mergeBags_126 4 rfl ?_
                refine ze_iload C d_X_mergeBags_128 2 rfl ?_
                refine ze_iload C d_X_mergeBags_130 1 rfl ?_
                refine ze_eqE (ze_foc 10) ?_
                refine ze_callV (st := []) C (c_T_repeatsFrom (ze_l G) (ze_D G) (ze_i G) ad ms M T1 hd mv 10 (by omega) (T1 10).1 (T1 10).2.1 (T1 10).2.2.1 (T1 10).2.2.2 SB hB1 (by omega) q (by omega) key value) (kv_X_136 (ze_rml (by decide) (by decide))) (by decide) (ze_F_t (i := 10) (by omega)) rfl (Nat.le_of_ble_eq_true rfl) ⟨Nat.le_of_ble_eq_true rfl, Nat.le_of_ble_eq_true rfl⟩ d_X_mergeBags_132 ?_
                rintro _ _ _ _ ⟨rfl, rfl, _, rfl, rfl, rfl⟩
                refine ze_eqE (ze_foc 10).symm ?_
                refine ze_norm (c2 := 0) (s2 := 0) (st' := [.int (nI (ze_rep (key, value) (SB.drop q)))]) rfl rfl rfl ?_
                refine ze_istore (lv' := [(10, .int (nI (ze_rep (key, value) (SB.drop q)))), (9, .int (nI (ze_rep (key, value) (SA.drop p)))), (8, .int value), (7, .int key), (5, .int (nI s)), (4, .int (nI q)), (3, .int (nI p)), (0, .ref (ad 0)), (1, .int (nI kd)), (2, .ref (ad (3 + 3 * m)))]) C d_X_mergeBags_135 (by decide) rfl ?_
                refine ze_iload_n C d_X_mergeBags_137 8 rfl rfl ?_
                refine ze_iload C d_X_mergeBags_138 1 rfl ?_
                refine ze_iload C d_X_mergeBags_140 0 rfl ?_
                refine ze_callS (st := []) C (c_X_timesInResult (ze_l G) (ze_D G) (ze_i G) _ _ _ kd (ze_rep (key, value) (SA.drop p)) (ze_rep (key, value) (SB.drop q)) hk (by omega) (by omega)) (ks_X_139 (ze_rml (by decide) (by decide))) rfl (Nat.le_of_ble_eq_true rfl) ⟨Nat.le_of_ble_eq_true rfl, Nat.le_of_ble_eq_true rfl⟩ d_X_mergeBags_142 ?_
                rintro _ _ _ _ ⟨rfl, rfl, rfl, rfl⟩
                refine ze_norm (c2 := 0) (s2 := 0) (st' := [.int (nI (ze_tm kd (ze_rep (key, value) (SA.drop p)) (ze_rep (key, value) (SB.drop q))))]) rfl rfl rfl ?_
                refine ze_istore (lv' := [(11, .int (nI (ze_tm kd (ze_rep (key, value) (SA.drop p)) (ze_rep (key, value) (SB.drop q))))), (10, .int (nI (ze_rep (key, value) (SB.drop q)))), (9, .int (nI (ze_rep (key, value) (SA.drop p)))), (8, .int value), (7, .int key), (5, .int (nI s)), (4, .int (nI q)), (3, .int (nI p)), (0, .ref (ad 0)), (1, .int (nI kd)), (2, .ref (ad (3 + 3 * m)))]) C d_X_mergeBags_145 (by decide) rfl ?_
                refine ze_iconst (v := nI 0) C d_X_mergeBags_147 (by decide) ?_
                refine ze_istore (lv' := [(12, .int (nI 0)), (11, .int (nI (ze_tm kd (ze_rep (key, value) (SA.drop p)) (ze_rep (key, value) (SB.drop q))))), (10, .int (nI (ze_rep (key, value) (SB.drop q)))), (9, .int (nI (ze_rep (key, value) (SA.drop p)))), (8, .int value), (7, .int key), (5, .int (nI s)), (4, .int (nI q)), (3, .int (nI p)), (0, .ref (ad 0)), (1, .int (nI kd)), (2, .ref (ad (3 + 3 * m)))]) C d_X_mergeBags_148 (by decide) rfl ?_
                have htm : ze_tm kd (ze_rep (key, value) (SA.drop p)) (ze_rep (key, value) (SB.drop q)) ≤ 120 := Nat.le_trans ze_tm_le (by omega)
                have inner : ∀ (r2 c : Nat) (T2 : Nat → ze_T), ze_tm kd (ze_rep (key, value) (SA.drop p)) (ze_rep (key, value) (SB.drop q)) - c = r2 → c ≤ ze_tm kd (ze_rep (key, value) (SA.drop p)) (ze_rep (key, value) (SB.drop q)) → (∀ z, z ≠ m → T2 z = T z) → ze_Hu (T2 m) (Lm ++ List.replicate c (key, value)) → ze_V G 48 ad (ze_E (ze_i G) ad (M, T2, hd, mv) ms) 0 0 150 [(12, .int (nI c)), (11, .int (nI (ze_tm kd (ze_rep (key, value) (SA.drop p)) (ze_rep (key, value) (SB.drop q))))), (10, .int (nI (ze_rep (key, value) (SB.drop q)))), (9, .int (nI (ze_rep (key, value) (SA.drop p)))), (8, .int value), (7, .int key), (5, .int (nI s)), (4, .int (nI q)), (3, .int (nI p)), (0, .ref (ad 0)), (1, .int (nI kd)), (2, .ref (ad (3 + 3 * m)))] [] := by
                  intro r2
                  induction r2 using Nat.strongRecOn with
                  | ind r2 ih2 =>
                    intro c T2 k0 k1 k2 k3
                    have hm2 := ze_Hu_le k3
                    refine ze_iload C d_X_mergeBags_150 0 rfl ?_
                    refine ze_iload C d_X_mergeBags_152 1 rfl ?_
                    refine ze_icmp_geN 171 C d_X_mergeBags_154 (by decide) (by omega) (by omega) (fun h154 => ?_) (fun h154 => ?_)
                    · refine ze_iload_n C d_X_mergeBags_171 8 rfl rfl ?_
                      refine ze_iload C d_X_mergeBags_172 3 rfl ?_
                      refine ze_iaddN C d_X_mergeBags_174 ?_
                      refine ze_istore_n (lv' := [(3, .int (nI (p + (ze_rep (key, value) (SA.drop p))))), (12, .int (nI c)), (11, .int (nI (ze_tm kd (ze_rep (key, value) (SA.drop p)) (ze_rep (key, value) (SB.drop q))))), (10, .int (nI (ze_rep (key, value) (SB.drop q)))), (9, .int (nI (ze_rep (key, value) (SA.drop p)))), (8, .int value), (7, .int key), (5, .int (nI s)), (4, .int (nI q)), (0, .ref (ad 0)), (1, .int (nI kd)), (2, .ref (ad (3 + 3 * m)))]) C d_X_mergeBags_175 rfl (by decide) rfl ?_
                      refine ze_iload C d_X_mergeBags_176 8 rfl ?_
                      refine ze_iload C d_X_mergeBags_178 3 rfl ?_
                      refine ze_iaddN C d_X_mergeBags_180 ?_
                      refine ze_istore (lv' := [(4, .int (nI (q + (ze_rep (key, value) (SB.drop q))))), (3, .int (nI (p + (ze_rep (key, value) (SA.drop p))))), (12, .int (nI c)), (11, .int (nI (ze_tm kd (ze_rep (key, value) (SA.drop p)) (ze_rep (key, value) (SB.drop q))))), (10, .int (nI (ze_rep (key, value) (SB.drop q)))), (9, .int (nI (ze_rep (key, value) (SA.drop p)))), (8, .int value), (7, .int key), (5, .int (nI s)), (0, .ref (ad 0)), (1, .int (nI kd)), (2, .ref (ad (3 + 3 * m)))]) C d_X_mergeBags_181 (by decide) rfl ?_
                      refine ze_iinc (j := 8) (v := nI (s + 1)) (lv' := [(5, .int (nI (s + 1))), (4, .int (nI (q + (ze_rep (key, value) (SB.drop q))))), (3, .int (nI (p + (ze_rep (key, value) (SA.drop p))))), (12, .int (nI c)), (11, .int (nI (ze_tm kd (ze_rep (key, value) (SA.drop p)) (ze_rep (key, value) (SB.drop q))))), (10, .int (nI (ze_rep (key, value) (SB.drop q)))), (9, .int (nI (ze_rep (key, value) (SA.drop p)))), (8, .int value), (7, .int key), (0, .ref (ad 0)), (1, .int (nI kd)), (2, .ref (ad (3 + 3 * m)))]) C d_X_mergeBags_183 rfl (nI_1 _) (by decide) rfl ?_
                      refine ze_goto 8 C d_X_mergeBags_186 (by decide) ?_
                      refine ze_sub [(5, .int (nI (s + 1))), (4, .int (nI (q + ze_rep (key, value) (SB.drop q)))), (3, .int (nI (p + ze_rep (key, value) (SA.drop p)))), (0, .ref (ad 0)), (1, .int (nI kd)), (2, .ref (ad (3 + 3 * m)))] [0, 1, 2, 9, 10, 11] rfl ?_
                      refine ih (120 - (s + 1)) (by omega) (s + 1) _ _ T2 _ rfl (by omega) (by omega) (by omega) k2 k3 ?_
                      rw [← g6, show 120 - s = (120 - (s + 1)) + 1 by omega, ze_mg_step hpk, List.append_assoc, List.drop_drop, List.drop_drop, show c = ze_tm kd (ze_rep (key, value) (SA.drop p)) (ze_rep (key, value) (SB.drop q)) by omega]
                    · refine ze_aload_n C d_X_mergeBags_157 11 rfl rfl ?_
                      refine ze_iload C d_X_mergeBags_158 5 rfl ?_
                      refine ze_iload C d_X_mergeBags_160 4 rfl ?_
                      refine ze_eqE (ze_foc m) ?_
                      refine ze_callV (st := []) C (c_T_append (ze_l G) (ze_D G) (ze_i G) ad ms M T2 hd mv m (by omega) (T2 m).1 (T2 m).2.1 (T2 m).2.2.1 (T2 m).2.2.2 (by omega) key value) (kv_X_53 (ze_rml (by decide) (by decide))) (by omega) (ze_F_t (i := m) (by omega)) rfl (Nat.le_of_ble_eq_true rfl) ⟨Nat.le_of_ble_eq_true rfl, Nat.le_of_ble_eq_true rfl⟩ d_X_mergeBags_162 ?_
                      rintro _ _ _ _ ⟨rfl, rfl, _, rfl, rfl, rfl⟩
                      refine ze_genT (fun T3 eT3 => ?_)
                      refine ze_norm (c2 := 0) (s2 := 0) (st' := []) rfl rfl rfl ?_
                      refine ze_iinc (j := 0) (v := nI (c + 1)) (lv' := [(12, .int (nI (c + 1))), (11, .int (nI (ze_tm kd (ze_rep (key, value) (SA.drop p)) (ze_rep (key, value) (SB.drop q))))), (10, .int (nI (ze_rep (key, value) (SB.drop q)))), (9, .int (nI (ze_rep (key, value) (SA.drop p)))), (8, .int value), (7, .int key), (5, .int (nI s)), (4, .int (nI q)), (3, .int (nI p)), (0, .ref (ad 0)), (1, .int (nI kd)), (2, .ref (ad (3 + 3 * m)))]) C d_X_mergeBags_165 rfl (nI_1 _) (by decide) rfl ?_
                      refine ze_goto 150 C d_X_mergeBags_168 (by decide) ?_
                      refine ze_sub [(12, .int (nI (c + 1))), (11, .int (nI (ze_tm kd (ze_rep (key, value) (SA.drop p)) (ze_rep (key, value) (SB.drop q))))), (10, .int (nI (ze_rep (key, value) (SB.drop q)))), (9, .int (nI (ze_rep (key, value) (SA.drop p)))), (8, .int value), (7, .int key), (5, .int (nI s)), (4, .int (nI q)), (3, .int (nI p)), (0, .ref (ad 0)), (1, .int (nI kd)), (2, .ref (ad (3 + 3 * m)))] [0, 1, 2, 3, 4, 5, 6, 7, 8, 9, 10, 11] rfl ?_
                      exact ih2 (ze_tm kd (ze_rep (key, value) (SA.drop p)) (ze_rep (key, value) (SB.drop q)) - (c + 1)) (by omega) (c + 1) T3 rfl (by omega) (fun z hz => (ze_upo eT3 z hz).trans (k2 z hz)) (by rw [List.replicate_succ', ← List.append_assoc]; exact ze_Hu_app k3 eT3)
                refine ze_sub [(12, .int (nI 0)), (11, .int (nI (ze_tm kd (ze_rep (key, value) (SA.drop p)) (ze_rep (key, value) (SB.drop q))))), (10, .int (nI (ze_rep (key, value) (SB.drop q)))), (9, .int (nI (ze_rep (key, value) (SA.drop p)))), (8, .int value), (7, .int key), (5, .int (nI s)), (4, .int (nI q)), (3, .int (nI p)), (0, .ref (ad 0)), (1, .int (nI kd)), (2, .ref (ad (3 + 3 * m)))] [0, 1, 2, 3, 4, 5, 6, 7, 8, 9, 10, 11] rfl ?_
                exact inner _ 0 T1 rfl (Nat.zero_le _) g4 (by rw [List.replicate_zero, List.append_nil]; exact g5)
              · exact absurd h52 h81
            · obtain ⟨hpA, hpk⟩ := hb1 (ze_bi1 h52)
              refine ze_aload_n C d_X_mergeBags_55 4 rfl rfl ?_
              refine ze_getf C fl_X_37 (by decide) ze_E_x rfl d_X_mergeBags_56 ?_
              refine ze_getf (k := 3 + 3 * 9) C fl_X_83 (by decide) (ze_E_t (i := 9) (by omega)) rfl d_X_mergeBags_59 ?_
              refine ze_iload_n C d_X_mergeBags_62 3 rfl rfl ?_
              refine ze_iald (k := 4 + 3 * 9) (i := p) C (by decide) (ze_E_k (i := 9) (by omega)) (by omega) (by decide) d_X_mergeBags_63 ?_
              refine ze_goto 77 C d_X_mergeBags_64 (by decide) ?_
              refine ze_istore (lv' := [(7, .int (((T1 9).1) p)), (6, .int (ze_bi b)), (5, .int (nI s)), (4, .int (nI q)), (3, .int (nI p)), (0, .ref (ad 0)), (1, .int (nI kd)), (2, .ref (ad (3 + 3 * m)))]) C d_X_mergeBags_77 (by decide) rfl ?_
              refine ze_iload C d_X_mergeBags_79 1 rfl ?_
              refine ze_if_eq 96 C d_X_mergeBags_81 (by decide) (fun h81 => ?_) (fun h81 => ?_)
              · exact absurd h81 h52
              · refine ze_aload_n C d_X_mergeBags_84 5 rfl rfl ?_
                refine ze_getf C fl_X_37 (by decide) ze_E_x rfl d_X_mergeBags_85 ?_
                refine ze_getf (k := 3 + 3 * 9) C fl_X_87 (by decide) (ze_E_t (i := 9) (by omega)) rfl d_X_mergeBags_88 ?_
                refine ze_iload_n C d_X_mergeBags_91 4 rfl rfl ?_
                refine ze_iald (k := 5 + 3 * 9) (i := p) C (by decide) (ze_E_v (i := 9) (by omega)) (by omega) (by decide) d_X_mergeBags_92 ?_
                refine ze_goto 106 C d_X_mergeBags_93 (by decide) ?_
                refine ze_istore (lv' := [(8, .int (((T1 9).2.1) p)), (7, .int (((T1 9).1) p)), (6, .int (ze_bi b)), (5, .int (nI s)), (4, .int (nI q)), (3, .int (nI p)), (0, .ref (ad 0)), (1, .int (nI kd)), (2, .ref (ad (3 + 3 * m)))]) C d_X_mergeBags_106 (by decide) rfl ?_
                generalize (T1 9).1 p = key at hpk ⊢
                generalize (T1 9).2.1 p = value at hpk ⊢
                have ra := ze_rep_le (key, value) (SA.drop p)
                have rb := ze_rep_le (key, value) (SB.drop q)
                rw [List.length_drop] at ra rb
                refine ze_sub [(8, .int value), (7, .int key), (5, .int (nI s)), (4, .int (nI q)), (3, .int (nI p)), (0, .ref (ad 0)), (1, .int (nI kd)), (2, .ref (ad (3 + 3 * m)))] [0, 1, 3, 4, 5, 6, 7, 8] rfl ?_
                refine ze_aload_n C d_X_mergeBags_108 5 rfl rfl ?_
                refine ze_getf C fl_X_37 (by decide) ze_E_x rfl d_X_mergeBags_109 ?_
                refine ze_iload_n C d_X_mergeBags_112 4 rfl rfl ?_
                refine ze_iload C d_X_mergeBags_113 1 rfl ?_
                refine ze_iload C d_X_mergeBags_115 0 rfl ?_
                refine ze_eqE (ze_foc 9) ?_
                refine ze_callV (st := []) C (c_T_repeatsFrom (ze_l G) (ze_D G) (ze_i G) ad ms M T1 hd mv 9 (by omega) (T1 9).1 (T1 9).2.1 (T1 9).2.2.1 (T1 9).2.2.2 SA hA1 (by omega) p (by omega) key value) (kv_X_136 (ze_rml (by decide) (by decide))) (by decide) (ze_F_t (i := 9) (by omega)) rfl (Nat.le_of_ble_eq_true rfl) ⟨Nat.le_of_ble_eq_true rfl, Nat.le_of_ble_eq_true rfl⟩ d_X_mergeBags_117 ?_
                rintro _ _ _ _ ⟨rfl, rfl, _, rfl, rfl, rfl⟩
                refine ze_eqE (ze_foc 9).symm ?_
                refine ze_norm (c2 := 0) (s2 := 0) (st' := [.int (nI (ze_rep (key, value) (SA.drop p)))]) rfl rfl rfl ?_
                refine ze_istore (lv' := [(9, .int (nI (ze_rep (key, value) (SA.drop p)))), (8, .int value), (7, .int key), (5, .int (nI s)), (4, .int (nI q)), (3, .int (nI p)), (0, .ref (ad 0)), (1, .int (nI kd)), (2, .ref (ad (3 + 3 * m)))]) C d_X_mergeBags_120 (by decide) rfl ?_
                refine ze_aload_n C d_X_mergeBags_122 6 rfl rfl ?_
                refine ze_getf C fl_X_40 (by decide) ze_E_x rfl d_X_mergeBags_123 ?_
                refine ze_iload C d_X_mergeBags_126 4 rfl ?_
                refine ze_iload C d_X_mergeBags_128 2 rfl ?_
                refine ze_iload C d_X_mergeBags_130 1 rfl ?_
                refine ze_eqE (ze_foc 10) ?_
                refine ze_callV (st := []) C (c_T_repeatsFrom (ze_l G) (ze_D G) (ze_i G) ad ms M T1 hd mv 10 (by omega) (T1 10).1 (T1 10).2.1 (T1 10).2.2.1 (T1 10).2.2.2 SB hB1 (by omega) q (by omega) key value) (kv_X_136 (ze_rml (by decide) (by decide))) (by decide) (ze_F_t (i := 10) (by omega)) rfl (Nat.le_of_ble_eq_true rfl) ⟨Nat.le_of_ble_eq_true rfl, Nat.le_of_ble_eq_true rfl⟩ d_X_mergeBags_132 ?_
                rintro _ _ _ _ ⟨rfl, rfl, _, rfl, rfl, rfl⟩
                refine ze_eqE (ze_foc 10).symm ?_
                refine ze_norm (c2 := 0) (s2 := 0) (st' := [.int (nI (ze_rep (key, value) (SB.drop q)))]) rfl rfl rfl ?_
                refine ze_istore (lv' := [(10, .int (nI (ze_rep (key, value) (SB.drop q)))), (9, .int (nI (ze_rep (key, value) (SA.drop p)))), (8, .int value), (7, .int key), (5, .int (nI s)), (4, .int (nI q)), (3, .int (nI p)), (0, .ref (ad 0)), (1, .int (nI kd)), (2, .ref (ad (3 + 3 * m)))]) C d_X_mergeBags_135 (by decide) rfl ?_
                refine ze_iload_n C d_X_mergeBags_137 8 rfl rfl ?_
                refine ze_iload C d_X_mergeBags_138 1 rfl ?_
                refine ze_iload C d_X_mergeBags_140 0 rfl ?_
                refine ze_callS (st := []) C (c_X_timesInResult (ze_l G) (ze_D G) (ze_i G) _ _ _ kd (ze_rep (key, value) (SA.drop p)) (ze_rep (key, value) (SB.drop q)) hk (by omega) (by omega)) (ks_X_139 (ze_rml (by decide) (by decide))) rfl (Nat.le_of_ble_eq_true rfl) ⟨Nat.le_of_ble_eq_true rfl, Nat.le_of_ble_eq_true rfl⟩ d_X_mergeBags_142 ?_
                rintro _ _ _ _ ⟨rfl, rfl, rfl, rfl⟩
                refine ze_norm (c2 := 0) (s2 := 0) (st' := [.int (nI (ze_tm kd (ze_rep (key, value) (SA.drop p)) (ze_rep (key, value) (SB.drop q))))]) rfl rfl rfl ?_
                refine ze_istore (lv' := [(11, .int (nI (ze_tm kd (ze_rep (key, value) (SA.drop p)) (ze_rep (key, value) (SB.drop q))))), (10, .int (nI (ze_rep (key, value) (SB.drop q)))), (9, .int (nI (ze_rep (key, value) (SA.drop p)))), (8, .int value), (7, .int key), (5, .int (nI s)), (4, .int (nI q)), (3, .int (nI p)), (0, .ref (ad 0)), (1, .int (nI kd)), (2, .ref (ad (3 + 3 * m)))]) C d_X_mergeBags_145 (by decide) rfl ?_
                refine ze_iconst (v := nI 0) C d_X_mergeBags_147 (by decide) ?_
                refine ze_istore (lv' := [(12, .int (nI 0)), (11, .int (nI (ze_tm kd (ze_rep (key, value) (SA.drop p)) (ze_rep (key, value) (SB.drop q))))), (10, .int (nI (ze_rep (key, value) (SB.drop q)))), (9, .int (nI (ze_rep (key, value) (SA.drop p)))), (8, .int value), (7, .int key), (5, .int (nI s)), (4, .int (nI q)), (3, .int (nI p)), (0, .ref (ad 0)), (1, .int (nI kd)), (2, .ref (ad (3 + 3 * m)))]) C d_X_mergeBags_148 (by decide) rfl ?_
                have htm : ze_tm kd (ze_rep (key, value) (SA.drop p)) (ze_rep (key, value) (SB.drop q)) ≤ 120 := Nat.le_trans ze_tm_le (by omega)
                have inner : ∀ (r2 c : Nat) (T2 : Nat → ze_T), ze_tm kd (ze_rep (key, value) (SA.drop p)) (ze_rep (key, value) (SB.drop q)) - c = r2 → c ≤ ze_tm kd (ze_rep (key, value) (SA.drop p)) (ze_rep (key, value) (SB.drop q)) → (∀ z, z ≠ m → T2 z = T z) → ze_Hu (T2 m) (Lm ++ List.replicate c (key, value)) → ze_V G 48 ad (ze_E (ze_i G) ad (M, T2, hd, mv) ms) 0 0 150 [(12, .int (nI c)), (11, .int (nI (ze_tm kd (ze_rep (key, value) (SA.drop p)) (ze_rep (key, value) (SB.drop q))))), (10, .int (nI (ze_rep (key, value) (SB.drop q)))), (9, .int (nI (ze_rep (key, value) (SA.drop p)))), (8, .int value), (7, .int key), (5, .int (nI s)), (4, .int (nI q)), (3, .int (nI p)), (0, .ref (ad 0)), (1, .int (nI kd)), (2, .ref (ad (3 + 3 * m)))] [] := by
                  intro r2
                  induction r2 using Nat.strongRecOn with
                  | ind r2 ih2 =>
                    intro c T2 k0 k1 k2 k3
                    have hm2 := ze_Hu_le k3
                    refine ze_iload C d_X_mergeBags_150 0 rfl ?_
                    refine ze_iload C d_X_mergeBags_152 1 rfl ?_
                    refine ze_icmp_geN 171 C d_X_mergeBags_154 (by decide) (by omega) (by omega) (fun h154 => ?_) (fun h154 => ?_)
                    · refine ze_iload_n C d_X_mergeBags_171 8 rfl rfl ?_
                      refine ze_iload C d_X_mergeBags_172 3 rfl ?_
                      refine ze_iaddN C d_X_mergeBags_174 ?_
                      refine ze_istore_n (lv' := [(3, .int (nI (p + (ze_rep (key, value) (SA.drop p))))), (12, .int (nI c)), (11, .int (nI (ze_tm kd (ze_rep (key, value) (SA.drop p)) (ze_rep (key, value) (SB.drop q))))), (10, .int (nI (ze_rep (key, value) (SB.drop q)))), (9, .int (nI (ze_rep (key, value) (SA.drop p)))), (8, .int value), (7, .int key), (5, .int (nI s)), (4, .int (nI q)), (0, .ref (ad 0)), (1, .int (nI kd)), (2, .ref (ad (3 + 3 * m)))]) C d_X_mergeBags_175 rfl (by decide) rfl ?_
                      refine ze_iload C d_X_mergeBags_176 8 rfl ?_
                      refine ze_iload C d_X_mergeBags_178 3 rfl ?_
                      refine ze_iaddN C d_X_mergeBags_180 ?_
                      refine ze_istore (lv' := [(4, .int (nI (q + (ze_rep (key, value) (SB.drop q))))), (3, .int (nI (p + (ze_rep (key, value) (SA.drop p))))), (12, .int (nI c)), (11, .int (nI (ze_tm kd (ze_rep (key, value) (SA.drop p)) (ze_rep (key, value) (SB.drop q))))), (10, .int (nI (ze_rep (key, value) (SB.drop q)))), (9, .int (nI (ze_rep (key, value) (SA.drop p)))), (8, .int value), (7, .int key), (5, .int (nI s)), (0, .ref (ad 0)), (1, .int (nI kd)), (2, .ref (ad (3 + 3 * m)))]) C d_X_mergeBags_181 (by decide) rfl ?_
                      refine ze_iinc (j := 8) (v := nI (s + 1)) (lv' := [(5, .int (nI (s + 1))), (4, .int (nI (q + (ze_rep (key, value) (SB.drop q))))), (3, .int (nI (p + (ze_rep (key, value) (SA.drop p))))), (12, .int (nI c)), (11, .int (nI (ze_tm kd (ze_rep (key, value) (SA.drop p)) (ze_rep (key, value) (SB.drop q))))), (10, .int (nI (ze_rep (key, value) (SB.drop q)))), (9, .int (nI (ze_rep (key, value) (SA.drop p)))), (8, .int value), (7, .int key), (0, .ref (ad 0)), (1, .int (nI kd)), (2, .ref (ad (3 + 3 * m)))]) C d_X_mergeBags_183 rfl (nI_1 _) (by decide) rfl ?_
                      refine ze_goto 8 C d_X_mergeBags_186 (by decide) ?_
                      refine ze_sub [(5, .int (nI (s + 1))), (4, .int (nI (q + ze_rep (key, value) (SB.drop q)))), (3, .int (nI (p + ze_rep (key, value) (SA.drop p)))), (0, .ref (ad 0)), (1, .int (nI kd)), (2, .ref (ad (3 + 3 * m)))] [0, 1, 2, 9, 10, 11] rfl ?_
                      refine ih (120 - (s + 1)) (by omega) (s + 1) _ _ T2 _ rfl (by omega) (by omega) (by omega) k2 k3 ?_
                      rw [← g6, show 120 - s = (120 - (s + 1)) + 1 by omega, ze_mg_step hpk, List.append_assoc, List.drop_drop, List.drop_drop, show c = ze_tm kd (ze_rep (key, value) (SA.drop p)) (ze_rep (key, value) (SB.drop q)) by omega]
                    · refine ze_aload_n C d_X_mergeBags_157 11 rfl rfl ?_
                      refine ze_iload C d_X_mergeBags_158 5 rfl ?_
                      refine ze_iload C d_X_mergeBags_160 4 rfl ?_
                      refine ze_eqE (ze_foc m) ?_
                      refine ze_callV (st := []) C (c_T_append (ze_l G) (ze_D G) (ze_i G) ad ms M T2 hd mv m (by omega) (T2 m).1 (T2 m).2.1 (T2 m).2.2.1 (T2 m).2.2.2 (by omega) key value) (kv_X_53 (ze_rml (by decide) (by decide))) (by omega) (ze_F_t (i := m) (by omega)) rfl (Nat.le_of_ble_eq_true rfl) ⟨Nat.le_of_ble_eq_true rfl, Nat.le_of_ble_eq_true rfl⟩ d_X_mergeBags_162 ?_
                      rintro _ _ _ _ ⟨rfl, rfl, _, rfl, rfl, rfl⟩
                      refine ze_genT (fun T3 eT3 => ?_)
                      refine ze_norm (c2 := 0) (s2 := 0) (st' := []) rfl rfl rfl ?_
                      refine ze_iinc (j := 0) (v := nI (c + 1)) (lv' := [(12, .int (nI (c + 1))), (11, .int (nI (ze_tm kd (ze_rep (key, value) (SA.drop p)) (ze_rep (key, value) (SB.drop q))))), (10, .int (nI (ze_rep (key, value) (SB.drop q)))), (9, .int (nI (ze_rep (key, value) (SA.drop p)))), (8, .int value), (7, .int key), (5, .int (nI s)), (4, .int (nI q)), (3, .int (nI p)), (0, .ref (ad 0)), (1, .int (nI kd)), (2, .ref (ad (3 + 3 * m)))]) C d_X_mergeBags_165 rfl (nI_1 _) (by decide) rfl ?_
                      refine ze_goto 150 C d_X_mergeBags_168 (by decide) ?_
                      refine ze_sub [(12, .int (nI (c + 1))), (11, .int (nI (ze_tm kd (ze_rep (key, value) (SA.drop p)) (ze_rep (key, value) (SB.drop q))))), (10, .int (nI (ze_rep (key, value) (SB.drop q)))), (9, .int (nI (ze_rep (key, value) (SA.drop p)))), (8, .int value), (7, .int key), (5, .int (nI s)), (4, .int (nI q)), (3, .int (nI p)), (0, .ref (ad 0)), (1, .int (nI kd)), (2, .ref (ad (3 + 3 * m)))] [0, 1, 2, 3, 4, 5, 6, 7, 8, 9, 10, 11] rfl ?_
                      exact ih2 (ze_tm kd (ze_rep (key, value) (SA.drop p)) (ze_rep (key, value) (SB.drop q)) - (c + 1)) (by omega) (c + 1) T3 rfl (by omega) (fun z hz => (ze_upo eT3 z hz).trans (k2 z hz)) (by rw [List.replicate_succ', ← List.append_assoc]; exact ze_Hu_app k3 eT3)
                refine ze_sub [(12, .int (nI 0)), (11, .int (nI (ze_tm kd (ze_rep (key, value) (SA.drop p)) (ze_rep (key, value) (SB.drop q))))), (10, .int (nI (ze_rep (key, value) (SB.drop q)))), (9, .int (nI (ze_rep (key, value) (SA.drop p)))), (8, .int value), (7, .int key), (5, .int (nI s)), (4, .int (nI q)), (3, .int (nI p)), (0, .ref (ad 0)), (1, .int (nI kd)), (2, .ref (ad (3 + 3 * m)))] [0, 1, 2, 3, 4, 5, 6, 7, 8, 9, 10, 11] rfl ?_
                exact inner _ 0 T1 rfl (Nat.zero_le _) g4 (by rw [List.replicate_zero, List.append_nil]; exact g5)
          · refine ze_goto 189 C d_X_mergeBags_38 (by decide) ?_
            exact ze_vret C Rt d_X_mergeBags_189 (⟨rfl, rfl, _, rfl, rfl, T1, rfl, g4, by rw [← g6]; rw [List.drop_eq_nil_of_le (as := SA) (by omega), List.drop_eq_nil_of_le (as := SB) (by omega), show 120 - s = (119 - s) + 1 by omega, ze_mg, ze_pick, List.append_nil]; exact g5⟩)
  refine ze_iconst (v := nI 0) C d_X_mergeBags_0 (by decide) ?_
  refine ze_istore_n (lv' := [(3, .int (nI 0)), (0, .ref (ad 0)), (1, .int (nI kd)), (2, .ref (ad (3 + 3 * m)))]) C d_X_mergeBags_1 rfl (by decide) rfl ?_
  refine ze_iconst (v := nI 0) C d_X_mergeBags_2 (by decide) ?_
  refine ze_istore (lv' := [(4, .int (nI 0)), (3, .int (nI 0)), (0, .ref (ad 0)), (1, .int (nI kd)), (2, .ref (ad (3 + 3 * m)))]) C d_X_mergeBags_3 (by decide) rfl ?_
  refine ze_iconst (v := nI 0) C d_X_mergeBags_5 (by decide) ?_
  refine ze_istore (lv' := [(5, .int (nI 0)), (4, .int (nI 0)), (3, .int (nI 0)), (0, .ref (ad 0)), (1, .int (nI kd)), (2, .ref (ad (3 + 3 * m)))]) C d_X_mergeBags_6 (by decide) rfl ?_
  exact loop _ 0 0 0 T [] rfl (by decide) (Nat.zero_le _) (Nat.zero_le _) (fun _ _ => rfl) hm (by rw [List.nil_append, List.drop_zero, List.drop_zero])

theorem ze_kind_no {σ : ze_Sg} {kind a b into : Int32} (h : kind < 0 ∨ ¬ kind ≤ nI 3) : sp_combine σ kind a b into = (-1, σ) := by
  have : decide (0 ≤ kind.toInt ∧ kind.toInt ≤ 3) = false := by
    refine decide_eq_false ?_
    rw [Int32.lt_iff_toInt_lt, Int32.le_iff_toInt_le] at h
    simp only [show (0 : Int32).toInt = 0 from rfl, show (nI 3).toInt = 3 from rfl] at h
    omega
  simp [sp_combine, sp_op, this]
theorem ze_kind_yes {kind : Int32} (h1 : ¬ kind < 0) (h2 : kind ≤ nI 3) : ∃ kd, kd ≤ 3 ∧ kind = nI kd := by
  obtain ⟨kd, h3, rfl⟩ := nI_of h1
  rw [nI_leI h3 (by decide)] at h2
  exact ⟨kd, h2, rfl⟩
theorem ze_comb_op {σ : ze_Sg} {a b into : Int32} {kd : Nat} (h : kd ≤ 3) : sp_combine σ (nI kd) a b into = sp_op σ true a b into (fun A B => (ze_cmb kd A B, ze_sc σ.2.2.2 A.length + ze_sc σ.2.2.2 B.length + ze_sz A.length + ze_sz B.length + ze_sz (ze_cmb kd A B).length)) := by
  have h1 : decide (0 ≤ (nI kd).toInt ∧ (nI kd).toInt ≤ 3) = true := decide_eq_true (by rw [nI_toInt (by omega)]; omega)
  rw [sp_combine, h1, ze_n_nI (by omega)]

set_option maxRecDepth 100000 in
set_option maxHeartbeats 4000000 in
theorem c_X_combine (l : Launch) (D : va_G) (ids : Nat → ClassId) (ad : Nat → Nat) (ms : ze_MS) (M : Nat) (T : Nat → ze_T) (hd : Nat → Bool) (mv : Int64) (inp : List ze_Row) (sl : Nat → Option (List ze_Row)) (hR : ze_rX (M, T, hd, mv) (inp, sl, mv, M)) (kind a b into : Int32) : ze_MX l D ids ad ms y_X_combine ws_X_combine 20 (M, T, hd, mv) [.ref (ad 0), .int kind, .int a, .int b, .int into] (fun v x' => v = some (.int (sp_combine (inp, sl, mv, M) kind a b into).1) ∧ ze_rX x' (sp_combine (inp, sl, mv, M) kind a b into).2) := by
  refine ze_enter (cc := b_X_combine) (maxL := 9) (ret := (some .int)) (by decide +kernel) rfl (Nat.le_of_ble_eq_true rfl) ?_
  rintro G rfl rfl rfl - C Rt
  refine ze_lv (lv' := [(0, .ref (ad 0)), (1, .int kind), (2, .int a), (3, .int b), (4, .int into)]) rfl ?_
  obtain ⟨-, hM3, hM6, -, hin, -, -⟩ := id hR
  simp only at hin hM3 hM6
  refine ze_iload_n C d_X_combine_0 1 rfl rfl ?_
  refine ze_if_lt 9 C d_X_combine_1 (by decide) (fun h1 => ?_) (fun h1 => ?_)
  · refine ze_iconst (v := -1) C d_X_combine_9 (by decide) ?_
    exact ze_iret C Rt d_X_combine_10 (⟨rfl, rfl, _, rfl, by rw [ze_kind_no (Or.inl h1)], by rw [ze_kind_no (Or.inl h1)]; exact hR⟩)
  · refine ze_iload_n C d_X_combine_4 1 rfl rfl ?_
    refine ze_iconst (v := nI 3) C d_X_combine_5 (by decide) ?_
    refine ze_icmp_le 11 C d_X_combine_6 (by decide) (fun h6 => ?_) (fun h6 => ?_)
    · obtain ⟨kd, hkd, rfl⟩ := ze_kind_yes h1 h6
      have hsp0 := ze_comb_op (σ := (inp, sl, mv, M)) (a := a) (b := b) (into := into) hkd
      refine ze_aload_n C d_X_combine_11 0 rfl rfl ?_
      refine ze_iload_n C d_X_combine_12 2 rfl rfl ?_
      refine ze_iload_n C d_X_combine_13 3 rfl rfl ?_
      refine ze_iload C d_X_combine_14 4 rfl ?_
      refine ze_callV (st := []) C (c_X_refusalOf (ze_l G) (ze_D G) (ze_i G) ad ms M T hd mv a b into) (kv_X_90 (ze_rml (by decide) (by decide))) (by decide) ze_E_x rfl (Nat.le_of_ble_eq_true rfl) ⟨Nat.le_of_ble_eq_true rfl, Nat.le_of_ble_eq_true rfl⟩ d_X_combine_16 ?_
      rintro _ _ _ _ ⟨rfl, rfl, _, rfl, rfl, rfl⟩
      refine ze_norm (c2 := 0) (s2 := 0) (st' := [.int (ze_rf hd a b into)]) rfl rfl rfl ?_
      refine ze_istore (lv' := [(5, .int (ze_rf hd a b into)), (0, .ref (ad 0)), (1, .int (nI kd)), (2, .int a), (3, .int b), (4, .int into)]) C d_X_combine_19 (by decide) rfl ?_
      refine ze_iload C d_X_combine_21 0 rfl ?_
      refine ze_if_eq 29 C d_X_combine_23 (by decide) (fun h23 => ?_) (fun h23 => ?_)
      · obtain ⟨ja, jb, ji, A, B, hja, hjb, hji, rfl, rfl, rfl, hne, hneb, hAs, hBs, hI, hHA, hHB, hop⟩ := ze_rf_0 hR h23
        have hcA : (T ja).2.2.1 = A.length := hHA.1
        have hA60 : A.length ≤ 60 := hHA.2.1
        have hcB : (T jb).2.2.1 = B.length := hHB.1
        have hB60 : B.length ≤ 60 := hHB.2.1
        refine ze_sub [(0, .ref (ad 0)), (1, .int (nI kd)), (2, .int (nI ja)), (3, .int (nI jb)), (4, .int (nI ji))] [1, 2, 3, 4, 5] rfl ?_
        have hsp : sp_combine (inp, sl, mv, M) (nI kd) (nI ja) (nI jb) (nI ji) = sp_fin (inp, sl, mv, M) ji (ze_cmb kd A B, ze_sc M A.length + ze_sc M B.length + ze_sz A.length + ze_sz B.length + ze_sz (ze_cmb kd A B).length) := by rw [hsp0, hop]
        refine ze_aload_n C d_X_combine_29 0 rfl rfl ?_
        refine ze_getf C fl_X_37 (by decide) ze_E_x rfl d_X_combine_30 ?_
        refine ze_aload_n C d_X_combine_33 0 rfl rfl ?_
        refine ze_getf C fl_X_24 (by decide) ze_E_x rfl d_X_combine_34 ?_
        refine ze_iload_n C d_X_combine_37 2 rfl rfl ?_
        refine ze_aald (k := 1) (i := ja) C (by decide) ze_E_tabs (by omega) (by decide) rfl d_X_combine_38 ?_
        refine ze_eqE (ze_foc 9) ?_
        refine ze_callV (st := []) C (c_T_copyFrom (ze_l G) (ze_D G) (ze_i G) ad ms M T hd mv 9 (by omega) (T 9).1 (T 9).2.1 (T 9).2.2.1 (T 9).2.2.2 ja (by omega) (by omega) (by omega)) (kv_X_61 (ze_rml (by decide) (by decide))) (by decide) (ze_F_t (i := 9) (by omega)) rfl (Nat.le_of_ble_eq_true rfl) ⟨Nat.le_of_ble_eq_true rfl, Nat.le_of_ble_eq_true rfl⟩ d_X_combine_39 ?_
        rintro _ _ _ _ ⟨rfl, rfl, _, rfl, rfl, rfl⟩
        refine ze_genT (fun T1 eT1 => ?_)
        refine ze_norm (c2 := 0) (s2 := 0) (st' := []) rfl rfl rfl ?_
        have hA1 := (ze_H_cpy hHA eT1).1
        have hR1 := ze_rX_wk hR (by decide) (fun h => absurd h (by decide)) (ze_upo eT1)
        have hc1 : (T1 9).2.2.1 = A.length := hA1.1
        refine ze_aload_n C d_X_combine_42 0 rfl rfl ?_
        refine ze_getf C fl_X_37 (by decide) ze_E_x rfl d_X_combine_43 ?_
        refine ze_iconst (v := nI 2) C d_X_combine_46 (by decide) ?_
        refine ze_eqE (ze_foc 9) ?_
        refine ze_callV (st := []) C (c_T_arrange (ze_l G) (ze_D G) (ze_i G) ad ms M T1 hd mv 9 (by omega) (T1 9).1 (T1 9).2.1 (T1 9).2.2.1 (T1 9).2.2.2 A hA1 (by omega) 2 (by decide)) (kv_X_94 (ze_rml (by decide) (by decide))) (by decide) (ze_F_t (i := 9) (by omega)) rfl (Nat.le_of_ble_eq_true rfl) ⟨Nat.le_of_ble_eq_true rfl, Nat.le_of_ble_eq_true rfl⟩ d_X_combine_47 ?_
        rintro _ _ _ _ ⟨rfl, rfl, _, rfl, rfl, f2, g2, rfl, hs2⟩
        refine ze_genT (fun T2 eT2 => ?_)
        refine ze_norm (c2 := 0) (s2 := 0) (st' := []) rfl rfl rfl ?_
        have hA2 : ze_H (T2 9) (ze_srt 2 A) := by rw [ze_ups eT2]; exact hs2
        have hR2 := ze_rX_wk hR1 (by decide) (fun h => absurd h (by decide)) (ze_upo eT2)
        have hB2 : ze_H (T2 jb) B := by rw [ze_upo eT2 jb (by omega), ze_upo eT1 jb (by omega)]; exact hHB
        have hcB2 : (T2 jb).2.2.1 = B.length := hB2.1
        refine ze_aload_n C d_X_combine_50 0 rfl rfl ?_
        refine ze_getf C fl_X_40 (by decide) ze_E_x rfl d_X_combine_51 ?_
        refine ze_aload_n C d_X_combine_54 0 rfl rfl ?_
        refine ze_getf C fl_X_24 (by decide) ze_E_x rfl d_X_combine_55 ?_
        refine ze_iload_n C d_X_combine_58 3 rfl rfl ?_
        refine ze_aald (k := 1) (i := jb) C (by decide) ze_E_tabs (by omega) (by decide) rfl d_X_combine_59 ?_
        refine ze_eqE (ze_foc 10) ?_
        refine ze_callV (st := []) C (c_T_copyFrom (ze_l G) (ze_D G) (ze_i G) ad ms M T2 hd mv 10 (by omega) (T2 10).1 (T2 10).2.1 (T2 10).2.2.1 (T2 10).2.2.2 jb (by omega) (by omega) (by omega)) (kv_X_61 (ze_rml (by decide) (by decide))) (by decide) (ze_F_t (i := 10) (by omega)) rfl (Nat.le_of_ble_eq_true rfl) ⟨Nat.le_of_ble_eq_true rfl, Nat.le_of_ble_eq_true rfl⟩ d_X_combine_60 ?_
        rintro _ _ _ _ ⟨rfl, rfl, _, rfl, rfl, rfl⟩
        refine ze_genT (fun T3 eT3 => ?_)
        refine ze_norm (c2 := 0) (s2 := 0) (st' := []) rfl rfl rfl ?_
        have hB3 := (ze_H_cpy hB2 eT3).1
        have hR3 := ze_rX_wk hR2 (by decide) (fun h => absurd h (by decide)) (ze_upo eT3)
        have hc3 : (T3 10).2.2.1 = B.length := hB3.1
        refine ze_aload_n C d_X_combine_63 0 rfl rfl ?_
        refine ze_getf C fl_X_40 (by decide) ze_E_x rfl d_X_combine_64 ?_
        refine ze_iconst (v := nI 2) C d_X_combine_67 (by decide) ?_
        refine ze_eqE (ze_foc 10) ?_
        refine ze_callV (st := []) C (c_T_arrange (ze_l G) (ze_D G) (ze_i G) ad ms M T3 hd mv 10 (by omega) (T3 10).1 (T3 10).2.1 (T3 10).2.2.1 (T3 10).2.2.2 B hB3 (by omega) 2 (by decide)) (kv_X_94 (ze_rml (by decide) (by decide))) (by decide) (ze_F_t (i := 10) (by omega)) rfl (Nat.le_of_ble_eq_true rfl) ⟨Nat.le_of_ble_eq_true rfl, Nat.le_of_ble_eq_true rfl⟩ d_X_combine_68 ?_
        rintro _ _ _ _ ⟨rfl, rfl, _, rfl, rfl, f4, g4, rfl, hs4⟩
        refine ze_genT (fun T4 eT4 => ?_)
        refine ze_norm (c2 := 0) (s2 := 0) (st' := []) rfl rfl rfl ?_
        have hB4 : ze_H (T4 10) (ze_srt 2 B) := by rw [ze_ups eT4]; exact hs4
        have hR4 := ze_rX_wk hR3 (by decide) (fun h => absurd h (by decide)) (ze_upo eT4)
        refine ze_aload_n C d_X_combine_71 0 rfl rfl ?_
        refine ze_getf C fl_X_24 (by decide) ze_E_x rfl d_X_combine_72 ?_
        refine ze_iload C d_X_combine_75 4 rfl ?_
        refine ze_aald (k := 1) (i := ji) C (by decide) ze_E_tabs (by omega) (by decide) rfl d_X_combine_77 ?_
        refine ze_astore (lv' := [(6, .ref (ad (3 + 3 * ji))), (0, .ref (ad 0)), (1, .int (nI kd)), (2, .int (nI ja)), (3, .int (nI jb)), (4, .int (nI ji))]) C d_X_combine_78 (by decide) rfl ?_
        refine ze_aload C d_X_combine_80 0 rfl ?_
        refine ze_eqE (ze_foc ji) ?_
        refine ze_callV (st := []) C (c_T_clear (ze_l G) (ze_D G) (ze_i G) ad ms M T4 hd mv ji (by omega) (T4 ji).1 (T4 ji).2.1 (T4 ji).2.2.1 (T4 ji).2.2.2 ) (kv_X_65 (ze_rml (by decide) (by decide))) (by omega) (ze_F_t (i := ji) (by omega)) rfl (Nat.le_of_ble_eq_true rfl) ⟨Nat.le_of_ble_eq_true rfl, Nat.le_of_ble_eq_true rfl⟩ d_X_combine_82 ?_
        rintro _ _ _ _ ⟨rfl, rfl, _, rfl, rfl, rfl⟩
        refine ze_genT (fun T5 eT5 => ?_)
        refine ze_norm (c2 := 0) (s2 := 0) (st' := []) rfl rfl rfl ?_
        have hu5 := ze_Hu_clr eT5
        have hR5 := ze_rX_wk hR4 (by omega) (fun _ => hI) (ze_upo eT5)
        have hB5 : ze_H (T5 10) (ze_srt 2 B) := by rw [ze_upo eT5 10 (by omega)]; exact hB4
        have hA5 : ze_H (T5 9) (ze_srt 2 A) := by rw [ze_upo eT5 9 (by omega), ze_upo eT4 9 (by decide), ze_upo eT3 9 (by decide)]; exact hA2
        refine ze_aload_n C d_X_combine_85 1 rfl rfl ?_
        refine ze_iload_n C d_X_combine_86 2 rfl rfl ?_
        refine ze_aload C d_X_combine_87 0 rfl ?_
        refine ze_callV (st := []) C (c_X_mergeBags (ze_l G) (ze_D G) (ze_i G) ad ms M T5 hd mv (ze_srt 2 A) (ze_srt 2 B) hA5 hB5 kd hkd ji hji hu5) (kv_X_109 (ze_rml (by decide) (by decide))) (by decide) ze_E_x rfl (Nat.le_of_ble_eq_true rfl) ⟨Nat.le_of_ble_eq_true rfl, Nat.le_of_ble_eq_true rfl⟩ d_X_combine_89 ?_
        rintro _ _ _ _ ⟨rfl, rfl, _, rfl, rfl, T6, rfl, oT6, hu6⟩
        refine ze_norm (c2 := 0) (s2 := 0) (st' := []) rfl rfl rfl ?_
        rw [ze_mg_cmb kd A B 120 (by omega)] at hu6
        have hR6 := ze_rX_wk hR5 (by omega) (fun _ => hI) oT6
        have hcA6 : (T6 9).2.2.1 = A.length := by rw [oT6 9 (by omega), hA5.1, ze_srt_len]
        have hcB6 : (T6 10).2.2.1 = B.length := by rw [oT6 10 (by omega), hB5.1, ze_srt_len]
        have hm6 := ze_Hu_le hu6
        refine ze_aload_n C d_X_combine_92 1 rfl rfl ?_
        refine ze_aload_n C d_X_combine_93 1 rfl rfl ?_
        refine ze_getf C fl_X_37 (by decide) ze_E_x rfl d_X_combine_94 ?_
        refine ze_getf (k := 3 + 3 * 9) C fl_X_50 (by decide) (ze_E_t (i := 9) (by omega)) rfl d_X_combine_97 ?_
        refine ze_callV (st := []) C (c_X_sortCost (ze_l G) (ze_D G) (ze_i G) ad ms M T6 hd mv ⟨hM3, hM6⟩ (T6 9).2.2.1 (by omega)) (kv_X_98 (ze_rml (by decide) (by decide))) (by decide) ze_E_x rfl (Nat.le_of_ble_eq_true rfl) ⟨Nat.le_of_ble_eq_true rfl, Nat.le_of_ble_eq_true rfl⟩ d_X_combine_100 ?_
        rintro _ _ _ _ ⟨rfl, rfl, _, rfl, rfl, rfl⟩
        refine ze_norm (c2 := 0) (s2 := 0) (st' := [.long (lN (ze_sc M (T6 9).2.2.1))]) rfl rfl rfl ?_
        refine ze_aload_n C d_X_combine_103 1 rfl rfl ?_
        refine ze_aload_n C d_X_combine_104 1 rfl rfl ?_
        refine ze_getf C fl_X_40 (by decide) ze_E_x rfl d_X_combine_105 ?_
        refine ze_getf (k := 3 + 3 * 10) C fl_X_50 (by decide) (ze_E_t (i := 10) (by omega)) rfl d_X_combine_108 ?_
        refine ze_callV (st := [.long (lN (ze_sc M (T6 9).2.2.1))]) C (c_X_sortCost (ze_l G) (ze_D G) (ze_i G) ad ms M T6 hd mv ⟨hM3, hM6⟩ (T6 10).2.2.1 (by omega)) (kv_X_98 (ze_rml (by decide) (by decide))) (by decide) ze_E_x rfl (Nat.le_of_ble_eq_true rfl) ⟨Nat.le_of_ble_eq_true rfl, Nat.le_of_ble_eq_true rfl⟩ d_X_combine_111 ?_
        rintro _ _ _ _ ⟨rfl, rfl, _, rfl, rfl, rfl⟩
        refine ze_norm (c2 := 0) (s2 := 0) (st' := [.long (lN (ze_sc M (T6 10).2.2.1)), .long (lN (ze_sc M (T6 9).2.2.1))]) rfl rfl rfl ?_
        refine ze_laddN C d_X_combine_114 ?_
        refine ze_lstore (lv' := [(7, .long (lN (ze_sc M (T6 9).2.2.1 + (ze_sc M (T6 10).2.2.1)))), (6, .ref (ad (3 + 3 * ji))), (0, .ref (ad 0)), (1, .int (nI kd)), (2, .int (nI ja)), (3, .int (nI jb)), (4, .int (nI ji))]) C d_X_combine_115 (by decide) rfl ?_
        refine ze_lload C d_X_combine_117 0 rfl ?_
        refine ze_aload_n C d_X_combine_119 2 rfl rfl ?_
        refine ze_getf C fl_X_37 (by decide) ze_E_x rfl d_X_combine_120 ?_
        refine ze_getf (k := 3 + 3 * 9) C fl_X_50 (by decide) (ze_E_t (i := 9) (by omega)) rfl d_X_combine_123 ?_
        refine ze_callS (st := [.long (lN (ze_sc M (T6 9).2.2.1 + (ze_sc M (T6 10).2.2.1)))]) C (c_X_sizeOf (ze_l G) (ze_D G) (ze_i G) _ _ _ ((T6 9).2.2.1) (by omega)) (ks_X_68 (ze_rml (by decide) (by decide))) rfl (Nat.le_of_ble_eq_true rfl) ⟨Nat.le_of_ble_eq_true rfl, Nat.le_of_ble_eq_true rfl⟩ d_X_combine_126 ?_
        rintro _ _ _ _ ⟨rfl, rfl, rfl, rfl⟩
        refine ze_norm (c2 := 0) (s2 := 0) (st' := [.int (nI (ze_sz ((T6 9).2.2.1))), .long (lN (ze_sc M (T6 9).2.2.1 + (ze_sc M (T6 10).2.2.1)))]) rfl rfl rfl ?_
        have hz126 := ze_sz_le ((T6 9).2.2.1)
        refine ze_aload_n C d_X_combine_129 2 rfl rfl ?_
        refine ze_getf C fl_X_40 (by decide) ze_E_x rfl d_X_combine_130 ?_
        refine ze_getf (k := 3 + 3 * 10) C fl_X_50 (by decide) (ze_E_t (i := 10) (by omega)) rfl d_X_combine_133 ?_
        refine ze_callS (st := [.int (nI (ze_sz ((T6 9).2.2.1))), .long (lN (ze_sc M (T6 9).2.2.1 + (ze_sc M (T6 10).2.2.1)))]) C (c_X_sizeOf (ze_l G) (ze_D G) (ze_i G) _ _ _ ((T6 10).2.2.1) (by omega)) (ks_X_68 (ze_rml (by decide) (by decide))) rfl (Nat.le_of_ble_eq_true rfl) ⟨Nat.le_of_ble_eq_true rfl, Nat.le_of_ble_eq_true rfl⟩ d_X_combine_136 ?_
        rintro _ _ _ _ ⟨rfl, rfl, rfl, rfl⟩
        refine ze_norm (c2 := 0) (s2 := 0) (st' := [.int (nI (ze_sz ((T6 10).2.2.1))), .int (nI (ze_sz ((T6 9).2.2.1))), .long (lN (ze_sc M (T6 9).2.2.1 + (ze_sc M (T6 10).2.2.1)))]) rfl rfl rfl ?_
        have hz136 := ze_sz_le ((T6 10).2.2.1)
        refine ze_iaddN C d_X_combine_139 ?_
        refine ze_i2lN C d_X_combine_140 (by omega) ?_
        refine ze_laddN C d_X_combine_141 ?_
        refine ze_lstore (lv' := [(7, .long (lN (ze_sc M (T6 9).2.2.1 + (ze_sc M (T6 10).2.2.1) + (ze_sz ((T6 9).2.2.1) + (ze_sz ((T6 10).2.2.1)))))), (6, .ref (ad (3 + 3 * ji))), (0, .ref (ad 0)), (1, .int (nI kd)), (2, .int (nI ja)), (3, .int (nI jb)), (4, .int (nI ji))]) C d_X_combine_142 (by decide) rfl ?_
        refine ze_aload_n C d_X_combine_144 2 rfl rfl ?_
        refine ze_iload C d_X_combine_145 6 rfl ?_
        refine ze_lload C d_X_combine_147 0 rfl ?_
        refine ze_aload C d_X_combine_149 1 rfl ?_
        refine ze_getf (k := 3 + 3 * ji) C fl_X_50 (by omega) (ze_E_t (i := ji) (by omega)) rfl d_X_combine_151 ?_
        refine ze_callS (st := [.long (lN (ze_sc M (T6 9).2.2.1 + (ze_sc M (T6 10).2.2.1) + (ze_sz ((T6 9).2.2.1) + (ze_sz ((T6 10).2.2.1))))), .int (nI ji), .ref (ad 0)]) C (c_X_sizeOf (ze_l G) (ze_D G) (ze_i G) _ _ _ ((T6 ji).2.2.1) (by omega)) (ks_X_68 (ze_rml (by decide) (by decide))) rfl (Nat.le_of_ble_eq_true rfl) ⟨Nat.le_of_ble_eq_true rfl, Nat.le_of_ble_eq_true rfl⟩ d_X_combine_154 ?_
        rintro _ _ _ _ ⟨rfl, rfl, rfl, rfl⟩
        refine ze_norm (c2 := 0) (s2 := 0) (st' := [.int (nI (ze_sz ((T6 ji).2.2.1))), .long (lN (ze_sc M (T6 9).2.2.1 + (ze_sc M (T6 10).2.2.1) + (ze_sz ((T6 9).2.2.1) + (ze_sz ((T6 10).2.2.1))))), .int (nI ji), .ref (ad 0)]) rfl rfl rfl ?_
        have hz154 := ze_sz_le ((T6 ji).2.2.1)
        refine ze_i2lN C d_X_combine_157 (by omega) ?_
        refine ze_laddN C d_X_combine_158 ?_
        refine ze_callV (st := []) C (c_X_finish (ze_l G) (ze_D G) (ze_i G) ad ms M T6 hd mv ji (by omega) (lN (ze_sc M (T6 9).2.2.1 + (ze_sc M (T6 10).2.2.1) + (ze_sz ((T6 9).2.2.1) + (ze_sz ((T6 10).2.2.1))) + (ze_sz ((T6 ji).2.2.1))))) (kv_X_72 (ze_rml (by decide) (by decide))) (by decide) ze_E_x rfl (Nat.le_of_ble_eq_true rfl) ⟨Nat.le_of_ble_eq_true rfl, Nat.le_of_ble_eq_true rfl⟩ d_X_combine_159 ?_
        rintro _ _ _ _ ⟨rfl, rfl, x', rfl, hfin⟩
        obtain ⟨r, rfl, hr1, hr2⟩ := ze_op_end (q := (ze_cmb kd A B, ze_sc M A.length + ze_sc M B.length + ze_sz A.length + ze_sz B.length + ze_sz (ze_cmb kd A B).length)) hR6 hji hu6 (fun z => by rw [hcA6, hcB6, (ze_Hu_H hu6 z).1]; congr 1; omega) hfin
        refine ze_norm (c2 := 0) (s2 := 0) (st' := [.int r]) rfl rfl rfl ?_
        exact ze_iret C Rt d_X_combine_162 ⟨rfl, rfl, _, rfl, by rw [hsp, hr1], by rw [hsp]; exact hr2⟩
      · refine ze_iload C d_X_combine_26 0 rfl ?_
        exact ze_iret C Rt d_X_combine_28 (⟨rfl, rfl, _, rfl, by rw [hsp0, ze_rf_ne hR h23], by rw [hsp0, ze_rf_ne hR h23]; exact hR⟩)
    · refine ze_iconst (v := -1) C d_X_combine_9 (by decide) ?_
      exact ze_iret C Rt d_X_combine_10 (⟨rfl, rfl, _, rfl, by rw [ze_kind_no (Or.inr h6)], by rw [ze_kind_no (Or.inr h6)]; exact hR⟩)
