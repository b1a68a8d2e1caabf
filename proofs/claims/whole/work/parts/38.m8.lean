theorem ze_fl_app (M : Nat) (pt : List Nat) (f : ze_Row → Int32) (A B : List ze_Row) : ze_fl M pt f (A ++ B) = ze_fl M pt f A ++ ze_fl M pt f B := List.filter_append _ _
theorem ze_jr_app (A A' B : List ze_Row) : ze_jr (A ++ A') B = ze_jr A B ++ ze_jr A' B := by
  unfold ze_jr
  rw [List.flatMap_append]
theorem ze_jr_pre (M : Nat) (pt : List Nat) (f : ze_Row → Int32) (A B : List ze_Row) (p : Nat) : (ze_jr (ze_fl M pt f (A.take p)) B).length ≤ (ze_jr (ze_fl M pt f A) B).length := by
  conv => rhs; rw [← List.take_append_drop p A, ze_fl_app, ze_jr_app, List.length_append]
  omega
theorem ze_cdn {n w c : Nat} (hw : 0 < w) (h1 : n ≤ c * w) (h2 : c ≤ (n + w - 1) / w) : c = (n + w - 1) / w := by
  rcases Nat.lt_or_ge c ((n + w - 1) / w) with h | h
  · have := ze_cd1 hw h; omega
  · omega
theorem ze_cdlt {n w c : Nat} (hw : 0 < w) (h1 : c * w < n) : c < (n + w - 1) / w := by
  rcases Nat.lt_or_ge c ((n + w - 1) / w) with h | h
  · exact h
  · have := ze_cd2 hw h; omega

set_option maxRecDepth 100000 in
set_option maxHeartbeats 4000000 in
theorem c_M_chunk (l : Launch) (D : va_G) (ids : Nat → ClassId) (ad : Nat → Nat) (x : ze_XS) (M : Nat) (mv : Int64) (ty ma co le : Nat) (Ar : Nat → Nat → Int32) (hM : 3 ≤ M ∧ M ≤ 6) (B : List ze_Row) (jb : Nat) (hjb : jb < 8) (hB60 : B.length ≤ 60) (hcB : Ar 2 jb = nI B.length) (hHB : ze_Hl (Ar 3) (Ar 4) (60 * jb) B) (pt : List Nat) (hle : le = pt.length) (hpt : pt.length ≤ 3) (hpd : ∀ d, d < pt.length → pt.getD d 0 < 10) (hph : ze_ph Ar pt) (L0 : List ze_Row) (hk : ze_Mk Ar ma L0) (hma : ma ≤ 20000) (ia : Nat) (hia : ia < 480) (fm to : Nat) (hft : fm ≤ to) (hto : to ≤ 1000) : ze_MM l D ids ad x y_M_chunk ws_M_chunk 4 (M, mv, ty, ma, co, le, Ar) [.ref (ad 39), .int (nI ia), .int (nI jb), .int (nI fm), .int (nI to)] (fun w ms' => w = none ∧ ∃ m' A', ms' = (M, mv, ty, m', co, le, A') ∧ ze_Mk A' m' (L0 ++ ze_j1 (Ar 3 ia, Ar 4 ia) (((ze_fl M pt (fun r => r.1) (B)).drop fm).take (to - fm))) ∧ (∀ z, z ≠ 5 → z ≠ 6 → A' z = Ar z) ∧ m' ≤ ma + 60) := by
  refine ze_enter (cc := b_M_chunk) (maxL := 7) (ret := none) (by decide +kernel) rfl (Nat.le_of_ble_eq_true rfl) ?_
  rintro G rfl rfl rfl - C Rt
  refine ze_lv (lv' := [(0, .ref (ad 39)), (1, .int (nI ia)), (2, .int (nI jb)), (3, .int (nI fm)), (4, .int (nI to))]) rfl ?_
  have loop : ∀ (r : Nat) (p at_ m1 : Nat) (A1 : Nat → Nat → Int32), B.length - p = r → p ≤ B.length → at_ = (ze_fl M pt (fun r => r.1) (B.take p)).length → (∀ z, z ≠ 5 → z ≠ 6 → A1 z = Ar z) → ze_Mk A1 m1 (L0 ++ ze_j1 (Ar 3 ia, Ar 4 ia) (((ze_fl M pt (fun r => r.1) (B.take p)).drop fm).take (to - fm))) → m1 ≤ ma + p → ze_V G 48 ad (ze_E (ze_i G) ad x (M, mv, ty, m1, co, le, A1)) 0 0 9 [(6, .int (nI (60 * jb + p))), (5, .int (nI at_)), (0, .ref (ad 39)), (1, .int (nI ia)), (2, .int (nI jb)), (3, .int (nI fm)), (4, .int (nI to))] [] := by
    intro r
    induction r using Nat.strongRecOn with
    | ind r ih =>
      intro p at_ m1 A1 hr g1 g2 g3 g4 g5
      have hc1 : A1 2 jb = nI B.length := by rw [g3 2 (by decide) (by decide)]; exact hcB
      have hH1 : ze_Hl (A1 3) (A1 4) (60 * jb) B := by rw [g3 3 (by decide) (by decide), g3 4 (by decide) (by decide)]; exact hHB
      have hph1 : ze_ph A1 pt := by intro d hd; rw [g3 7 (by decide) (by decide)]; exact hph d hd
      have hatl := ze_fl_len M pt (fun r => r.1) (B.take p)
      rw [List.length_take] at hatl
      refine ze_iload C d_M_chunk_9 0 rfl ?_
      refine ze_bipush (v := nI 60) C d_M_chunk_11 (by decide) ?_
      refine ze_iload_n C d_M_chunk_13 4 rfl rfl ?_
      refine ze_imulN C d_M_chunk_14 ?_
      refine ze_aload_n C d_M_chunk_15 2 rfl rfl ?_
      refine ze_getf (k := 39) C fl_M_16 (by decide) ze_E_m rfl d_M_chunk_16 ?_
      refine ze_iload_n C d_M_chunk_19 4 rfl rfl ?_
      refine ze_iald (k := 40 + 2) (i := jb) C (by decide) (ze_E_a (j := 2)) (by show _ < 8; omega) (by decide) d_M_chunk_20 ?_
      rw [hc1]
      refine ze_iaddN C d_M_chunk_21 ?_
      refine ze_icmp_geN 97 C d_M_chunk_22 (by decide) (by omega) (by omega) (fun h22 => ?_) (fun h22 => ?_)
      · exact ze_vret C Rt d_M_chunk_97 (⟨rfl, rfl, _, rfl, rfl, m1, A1, rfl, by rw [show B.take p = B from List.take_of_length_le (by omega)] at g4; exact g4, g3, by omega⟩)
      · refine ze_aload_n C d_M_chunk_25 2 rfl rfl ?_
        refine ze_aload_n C d_M_chunk_26 2 rfl rfl ?_
        refine ze_getf (k := 39) C fl_M_19 (by decide) ze_E_m rfl d_M_chunk_27 ?_
        refine ze_iload C d_M_chunk_30 0 rfl ?_
        refine ze_iald (k := 40 + 3) (i := 60 * jb + p) C (by decide) (ze_E_a (j := 3)) (by show _ < 480; omega) (by decide) d_M_chunk_32 ?_
        refine ze_callV (st := []) C (c_M_here (ze_l G) (ze_D G) (ze_i G) ad x M mv ty m1 co le A1 hM pt hle hpt hpd hph1 (A1 3 (60 * jb + p))) (kv_M_104 (ze_rml (by decide) (by decide))) (by decide) ze_E_m rfl (Nat.le_of_ble_eq_true rfl) ⟨Nat.le_of_ble_eq_true rfl, Nat.le_of_ble_eq_true rfl⟩ d_M_chunk_33 ?_
        rintro _ _ _ _ ⟨rfl, rfl, _, rfl, rfl, rfl⟩
        refine ze_norm (c2 := 0) (s2 := 0) (st' := [.int (ze_bi (ze_here M pt (A1 3 (60 * jb + p))))]) rfl rfl rfl ?_
        refine ze_if_eq 91 C d_M_chunk_36 (by decide) (fun h36 => ?_) (fun h36 => ?_)
        · refine ze_iinc (j := 0) (v := nI (60 * jb + p + 1)) (lv' := [(6, .int (nI (60 * jb + p + 1))), (5, .int (nI at_)), (0, .ref (ad 39)), (1, .int (nI ia)), (2, .int (nI jb)), (3, .int (nI fm)), (4, .int (nI to))]) C d_M_chunk_91 rfl (nI_1 _) (by decide) rfl ?_
          refine ze_goto 9 C d_M_chunk_94 (by decide) ?_
          refine ze_sub [(6, .int (nI (60 * jb + (p + 1)))), (5, .int (nI at_)), (0, .ref (ad 39)), (1, .int (nI ia)), (2, .int (nI jb)), (3, .int (nI fm)), (4, .int (nI to))] [0, 1, 2, 3, 4, 5, 6] rfl ?_
          have hfe : ze_fl M pt (fun r => r.1) (B.take (p + 1)) = ze_fl M pt (fun r => r.1) (B.take p) := by rw [ze_Hl_take hH1 (by omega), ze_fl_take, if_neg (by simp only; rw [ze_bi0.mp h36]; decide)]
          exact ih (B.length - (p + 1)) (by omega) (p + 1) at_ m1 A1 rfl (by omega) (by rw [hfe]; exact g2) g3 (by rw [hfe]; exact g4) (by omega)
        · refine ze_iload C d_M_chunk_39 1 rfl ?_
          refine ze_iload_n C d_M_chunk_41 5 rfl rfl ?_
          refine ze_icmp_ltN 85 C d_M_chunk_42 (by decide) (by omega) (by omega) (fun h42 => ?_) (fun h42 => ?_)
          · refine ze_iload C d_M_chunk_85 1 rfl ?_
            refine ze_iconst (v := nI 1) C d_M_chunk_87 (by decide) ?_
            refine ze_iaddN C d_M_chunk_88 ?_
            refine ze_istore (lv' := [(5, .int (nI (at_ + 1))), (6, .int (nI (60 * jb + p))), (0, .ref (ad 39)), (1, .int (nI ia)), (2, .int (nI jb)), (3, .int (nI fm)), (4, .int (nI to))]) C d_M_chunk_89 (by decide) rfl ?_
            refine ze_iinc (j := 1) (v := nI (60 * jb + p + 1)) (lv' := [(6, .int (nI (60 * jb + p + 1))), (5, .int (nI (at_ + 1))), (0, .ref (ad 39)), (1, .int (nI ia)), (2, .int (nI jb)), (3, .int (nI fm)), (4, .int (nI to))]) C d_M_chunk_91 rfl (nI_1 _) (by decide) rfl ?_
            refine ze_goto 9 C d_M_chunk_94 (by decide) ?_
            refine ze_sub [(6, .int (nI (60 * jb + (p + 1)))), (5, .int (nI (at_ + 1))), (0, .ref (ad 39)), (1, .int (nI ia)), (2, .int (nI jb)), (3, .int (nI fm)), (4, .int (nI to))] [0, 1, 2, 3, 4, 5, 6] rfl ?_
            have hfe : ze_fl M pt (fun r => r.1) (B.take (p + 1)) = ze_fl M pt (fun r => r.1) (B.take p) ++ [(A1 3 (60 * jb + p), A1 4 (60 * jb + p))] := by rw [ze_Hl_take hH1 (by omega), ze_fl_take, if_pos (ze_bi1 h36)]
            exact ih (B.length - (p + 1)) (by omega) (p + 1) _ m1 A1 rfl (by omega) (by rw [hfe, List.length_append, ← g2]; rfl) g3 (by rw [hfe, ze_slice_snoc, if_neg (by omega)]; exact g4) (by omega)
          · refine ze_iload C d_M_chunk_45 1 rfl ?_
            refine ze_iload C d_M_chunk_47 6 rfl ?_
            refine ze_icmp_geN 85 C d_M_chunk_49 (by decide) (by omega) (by omega) (fun h49 => ?_) (fun h49 => ?_)
            · refine ze_iload C d_M_chunk_85 1 rfl ?_
              refine ze_iconst (v := nI 1) C d_M_chunk_87 (by decide) ?_
              refine ze_iaddN C d_M_chunk_88 ?_
              refine ze_istore (lv' := [(5, .int (nI (at_ + 1))), (6, .int (nI (60 * jb + p))), (0, .ref (ad 39)), (1, .int (nI ia)), (2, .int (nI jb)), (3, .int (nI fm)), (4, .int (nI to))]) C d_M_chunk_89 (by decide) rfl ?_
              refine ze_iinc (j := 1) (v := nI (60 * jb + p + 1)) (lv' := [(6, .int (nI (60 * jb + p + 1))), (5, .int (nI (at_ + 1))), (0, .ref (ad 39)), (1, .int (nI ia)), (2, .int (nI jb)), (3, .int (nI fm)), (4, .int (nI to))]) C d_M_chunk_91 rfl (nI_1 _) (by decide) rfl ?_
              refine ze_goto 9 C d_M_chunk_94 (by decide) ?_
              refine ze_sub [(6, .int (nI (60 * jb + (p + 1)))), (5, .int (nI (at_ + 1))), (0, .ref (ad 39)), (1, .int (nI ia)), (2, .int (nI jb)), (3, .int (nI fm)), (4, .int (nI to))] [0, 1, 2, 3, 4, 5, 6] rfl ?_
              have hfe : ze_fl M pt (fun r => r.1) (B.take (p + 1)) = ze_fl M pt (fun r => r.1) (B.take p) ++ [(A1 3 (60 * jb + p), A1 4 (60 * jb + p))] := by rw [ze_Hl_take hH1 (by omega), ze_fl_take, if_pos (ze_bi1 h36)]
              exact ih (B.length - (p + 1)) (by omega) (p + 1) _ m1 A1 rfl (by omega) (by rw [hfe, List.length_append, ← g2]; rfl) g3 (by rw [hfe, ze_slice_snoc, if_neg (by omega)]; exact g4) (by omega)
            · refine ze_aload_n C d_M_chunk_52 2 rfl rfl ?_
              refine ze_getf (k := 39) C fl_M_19 (by decide) ze_E_m rfl d_M_chunk_53 ?_
              refine ze_iload C d_M_chunk_56 0 rfl ?_
              refine ze_iald (k := 40 + 3) (i := 60 * jb + p) C (by decide) (ze_E_a (j := 3)) (by show _ < 480; omega) (by decide) d_M_chunk_58 ?_
              refine ze_aload_n C d_M_chunk_59 2 rfl rfl ?_
              refine ze_getf (k := 39) C fl_M_22 (by decide) ze_E_m rfl d_M_chunk_60 ?_
              refine ze_iload_n C d_M_chunk_63 3 rfl rfl ?_
              refine ze_iald (k := 40 + 4) (i := ia) C (by decide) (ze_E_a (j := 4)) (by show _ < 480; omega) (by decide) d_M_chunk_64 ?_
              refine ze_icmp_ne 85 C d_M_chunk_65 (by decide) (fun h65 => ?_) (fun h65 => ?_)
              · refine ze_iload C d_M_chunk_85 1 rfl ?_
                refine ze_iconst (v := nI 1) C d_M_chunk_87 (by decide) ?_
                refine ze_iaddN C d_M_chunk_88 ?_
                refine ze_istore (lv' := [(5, .int (nI (at_ + 1))), (6, .int (nI (60 * jb + p))), (0, .ref (ad 39)), (1, .int (nI ia)), (2, .int (nI jb)), (3, .int (nI fm)), (4, .int (nI to))]) C d_M_chunk_89 (by decide) rfl ?_
                refine ze_iinc (j := 1) (v := nI (60 * jb + p + 1)) (lv' := [(6, .int (nI (60 * jb + p + 1))), (5, .int (nI (at_ + 1))), (0, .ref (ad 39)), (1, .int (nI ia)), (2, .int (nI jb)), (3, .int (nI fm)), (4, .int (nI to))]) C d_M_chunk_91 rfl (nI_1 _) (by decide) rfl ?_
                refine ze_goto 9 C d_M_chunk_94 (by decide) ?_
                refine ze_sub [(6, .int (nI (60 * jb + (p + 1)))), (5, .int (nI (at_ + 1))), (0, .ref (ad 39)), (1, .int (nI ia)), (2, .int (nI jb)), (3, .int (nI fm)), (4, .int (nI to))] [0, 1, 2, 3, 4, 5, 6] rfl ?_
                have hfe : ze_fl M pt (fun r => r.1) (B.take (p + 1)) = ze_fl M pt (fun r => r.1) (B.take p) ++ [(A1 3 (60 * jb + p), A1 4 (60 * jb + p))] := by rw [ze_Hl_take hH1 (by omega), ze_fl_take, if_pos (ze_bi1 h36)]
                exact ih (B.length - (p + 1)) (by omega) (p + 1) _ m1 A1 rfl (by omega) (by rw [hfe, List.length_append, ← g2]; rfl) g3 (by rw [hfe, ze_slice_snoc, if_pos (by omega), ze_j1_snoc, if_neg (by rw [g3 4 (by decide) (by decide)] at h65; exact h65)]; exact g4) (by omega)
              · refine ze_aload_n C d_M_chunk_68 2 rfl rfl ?_
                refine ze_aload_n C d_M_chunk_69 2 rfl rfl ?_
                refine ze_getf (k := 39) C fl_M_19 (by decide) ze_E_m rfl d_M_chunk_70 ?_
                refine ze_iload_n C d_M_chunk_73 3 rfl rfl ?_
                refine ze_iald (k := 40 + 3) (i := ia) C (by decide) (ze_E_a (j := 3)) (by show _ < 480; omega) (by decide) d_M_chunk_74 ?_
                refine ze_aload_n C d_M_chunk_75 2 rfl rfl ?_
                refine ze_getf (k := 39) C fl_M_22 (by decide) ze_E_m rfl d_M_chunk_76 ?_
                refine ze_iload C d_M_chunk_79 0 rfl ?_
                refine ze_iald (k := 40 + 4) (i := 60 * jb + p) C (by decide) (ze_E_a (j := 4)) (by show _ < 480; omega) (by decide) d_M_chunk_81 ?_
                refine ze_callV (st := []) C (c_M_make (ze_l G) (ze_D G) (ze_i G) ad x M mv ty m1 co le A1 _ g4 (by omega) (A1 3 ia) (A1 4 (60 * jb + p))) (kv_M_80 (ze_rml (by decide) (by decide))) (by decide) ze_E_m rfl (Nat.le_of_ble_eq_true rfl) ⟨Nat.le_of_ble_eq_true rfl, Nat.le_of_ble_eq_true rfl⟩ d_M_chunk_82 ?_
                rintro _ _ _ _ ⟨rfl, rfl, _, rfl, rfl, A2, rfl, hk2, oA2⟩
                refine ze_norm (c2 := 0) (s2 := 0) (st' := []) rfl rfl rfl ?_
                refine ze_iload C d_M_chunk_85 1 rfl ?_
                refine ze_iconst (v := nI 1) C d_M_chunk_87 (by decide) ?_
                refine ze_iaddN C d_M_chunk_88 ?_
                refine ze_istore (lv' := [(5, .int (nI (at_ + 1))), (6, .int (nI (60 * jb + p))), (0, .ref (ad 39)), (1, .int (nI ia)), (2, .int (nI jb)), (3, .int (nI fm)), (4, .int (nI to))]) C d_M_chunk_89 (by decide) rfl ?_
                refine ze_iinc (j := 1) (v := nI (60 * jb + p + 1)) (lv' := [(6, .int (nI (60 * jb + p + 1))), (5, .int (nI (at_ + 1))), (0, .ref (ad 39)), (1, .int (nI ia)), (2, .int (nI jb)), (3, .int (nI fm)), (4, .int (nI to))]) C d_M_chunk_91 rfl (nI_1 _) (by decide) rfl ?_
                refine ze_goto 9 C d_M_chunk_94 (by decide) ?_
                refine ze_sub [(6, .int (nI (60 * jb + (p + 1)))), (5, .int (nI (at_ + 1))), (0, .ref (ad 39)), (1, .int (nI ia)), (2, .int (nI jb)), (3, .int (nI fm)), (4, .int (nI to))] [0, 1, 2, 3, 4, 5, 6] rfl ?_
                have hfe : ze_fl M pt (fun r => r.1) (B.take (p + 1)) = ze_fl M pt (fun r => r.1) (B.take p) ++ [(A1 3 (60 * jb + p), A1 4 (60 * jb + p))] := by rw [ze_Hl_take hH1 (by omega), ze_fl_take, if_pos (ze_bi1 h36)]
                exact ih (B.length - (p + 1)) (by omega) (p + 1) _ (m1 + 1) A2 rfl (by omega) (by rw [hfe, List.length_append, ← g2]; rfl) (fun z z1 z2 => (oA2 z z1 z2).trans (g3 z z1 z2)) (by rw [hfe, ze_slice_snoc, if_pos (by omega), ze_j1_snoc, if_pos (by rw [g3 4 (by decide) (by decide)] at h65; exact h65), ← List.append_assoc]; rw [g3 3 (by decide) (by decide)] at hk2 ⊢; exact hk2) (by omega)
  refine ze_iconst (v := nI 0) C d_M_chunk_0 (by decide) ?_
  refine ze_istore (lv' := [(5, .int (nI 0)), (0, .ref (ad 39)), (1, .int (nI ia)), (2, .int (nI jb)), (3, .int (nI fm)), (4, .int (nI to))]) C d_M_chunk_1 (by decide) rfl ?_
  refine ze_bipush (v := nI 60) C d_M_chunk_3 (by decide) ?_
  refine ze_iload_n C d_M_chunk_5 3 rfl rfl ?_
  refine ze_imulN C d_M_chunk_6 ?_
  refine ze_istore (lv' := [(6, .int (nI (60 * jb))), (5, .int (nI 0)), (0, .ref (ad 39)), (1, .int (nI ia)), (2, .int (nI jb)), (3, .int (nI fm)), (4, .int (nI to))]) C d_M_chunk_7 (by decide) rfl ?_
  refine ze_sub [(6, .int (nI (60 * jb + 0))), (5, .int (nI 0)), (0, .ref (ad 39)), (1, .int (nI ia)), (2, .int (nI jb)), (3, .int (nI fm)), (4, .int (nI to))] [0, 1, 2, 3, 4, 5, 6] rfl ?_
  exact loop _ 0 0 ma Ar rfl (Nat.zero_le _) rfl (fun _ _ _ => rfl) (by rw [List.take_zero, show ze_fl M pt (fun r => r.1) [] = [] from rfl, List.drop_nil, List.take_nil, show ∀ r, ze_j1 r [] = [] from fun _ => rfl, List.append_nil]; exact hk) (Nat.le_refl _)

set_option maxRecDepth 100000 in
set_option maxHeartbeats 4000000 in
theorem c_M_chunks (l : Launch) (D : va_G) (ids : Nat → ClassId) (ad : Nat → Nat) (x : ze_XS) (M : Nat) (mv : Int64) (ty ma co le : Nat) (Ar : Nat → Nat → Int32) (hM : 3 ≤ M ∧ M ≤ 6) (A : List ze_Row) (ja : Nat) (hja : ja < 8) (hA60 : A.length ≤ 60) (hcA : Ar 2 ja = nI A.length) (hHA : ze_Hl (Ar 3) (Ar 4) (60 * ja) A) (B : List ze_Row) (jb : Nat) (hjb : jb < 8) (hB60 : B.length ≤ 60) (hcB : Ar 2 jb = nI B.length) (hHB : ze_Hl (Ar 3) (Ar 4) (60 * jb) B) (pt : List Nat) (hle : le = pt.length) (hpt : pt.length ≤ 3) (hpd : ∀ d, d < pt.length → pt.getD d 0 < 10) (hph : ze_ph Ar pt) (L0 : List ze_Row) (hk : ze_Mk Ar ma L0) (hbd : L0.length + (ze_jc (ze_rm4 M) (ze_fl M pt (fun r => r.2) A) ((ze_fl M pt (fun r => r.1) B).length) (ze_fl M pt (fun r => r.1) B)).length ≤ 10000) : ze_MM l D ids ad x y_M_chunks ws_M_chunks 5 (M, mv, ty, ma, co, le, Ar) [.ref (ad 39), .int (nI ja), .int (nI jb), .int (nI (ze_rm4 M))] (fun w ms' => w = none ∧ ∃ m' A', ms' = (M, mv, ty, m', co + (ze_sz (ze_fl M pt (fun r => r.1) B).length + ((ze_fl M pt (fun r => r.1) B).length + ze_rm4 M - 1) / ze_rm4 M * ze_sz (ze_fl M pt (fun r => r.2) A).length), le, A') ∧ ze_Mk A' m' (L0 ++ ze_jc (ze_rm4 M) (ze_fl M pt (fun r => r.2) A) ((ze_fl M pt (fun r => r.1) B).length) (ze_fl M pt (fun r => r.1) B)) ∧ (∀ z, z ≠ 5 → z ≠ 6 → A' z = Ar z)) := by
  refine ze_enter (cc := b_M_chunks) (maxL := 8) (ret := none) (by decide +kernel) rfl (Nat.le_of_ble_eq_true rfl) ?_
  rintro G rfl rfl rfl - C Rt
  refine ze_lv (lv' := [(0, .ref (ad 39)), (1, .int (nI ja)), (2, .int (nI jb)), (3, .int (nI (ze_rm4 M)))]) rfl ?_
  have hw : 4 ≤ ze_rm4 M ∧ ze_rm4 M ≤ 16 := by unfold ze_rm4; omega
  have hlA := ze_fl_len M pt (fun r => r.2) A
  have hlB := ze_fl_len M pt (fun r => r.1) B
  have loop : ∀ (r : Nat) (c m1 : Nat) (A1 : Nat → Nat → Int32) (Lc : List ze_Row), (ze_fl M pt (fun r => r.1) B).length - c = r → c ≤ ((ze_fl M pt (fun r => r.1) B).length + ze_rm4 M - 1) / ze_rm4 M → (∀ z, z ≠ 5 → z ≠ 6 → A1 z = Ar z) → ze_Mk A1 m1 Lc → Lc ++ ze_jc (ze_rm4 M) (ze_fl M pt (fun r => r.2) A) ((ze_fl M pt (fun r => r.1) B).length - c) ((ze_fl M pt (fun r => r.1) B).drop (c * ze_rm4 M)) = L0 ++ ze_jc (ze_rm4 M) (ze_fl M pt (fun r => r.2) A) ((ze_fl M pt (fun r => r.1) B).length) (ze_fl M pt (fun r => r.1) B) → ze_V G 48 ad (ze_E (ze_i G) ad x (M, mv, ty, m1, co + ze_sz (ze_fl M pt (fun r => r.1) B).length + c * ze_sz (ze_fl M pt (fun r => r.2) A).length, le, A1)) 0 0 39 [(6, .int (nI (c * ze_rm4 M))), (5, .int (nI (ze_sz (ze_fl M pt (fun r => r.2) A).length))), (4, .int (nI ((ze_fl M pt (fun r => r.1) B).length))), (0, .ref (ad 39)), (1, .int (nI ja)), (2, .int (nI jb)), (3, .int (nI (ze_rm4 M)))] [] := by
    intro r
    induction r using Nat.strongRecOn with
    | ind r ih =>
      intro c m1 A1 Lc hr g1 g2 g3 g4
      have hn3 := ze_cd3 (n := (ze_fl M pt (fun r => r.1) B).length) (w := ze_rm4 M) (by omega)
      have hcw : c * ze_rm4 M ≤ 60 * 16 := Nat.mul_le_mul (by omega) hw.2
      have hm1 := g3.1
      have hszA := ze_sz_le (ze_fl M pt (fun r => r.2) A).length
      have hl4 := congrArg List.length g4
      rw [List.length_append, List.length_append] at hl4
      refine ze_iload C d_M_chunks_39 0 rfl ?_
      refine ze_iload C d_M_chunks_41 2 rfl ?_
      refine ze_icmp_geN 122 C d_M_chunks_43 (by decide) (by omega) (by omega) (fun h43 => ?_) (fun h43 => ?_)
      · have hce := ze_cdn (by omega) h43 g1
        rw [List.drop_eq_nil_of_le h43, ze_jc_nil, List.append_nil] at g4
        exact ze_vret C Rt d_M_chunks_122 (⟨rfl, rfl, _, rfl, rfl, m1, A1, by rw [hce, Nat.add_assoc], by rw [← g4]; exact g3, g2⟩)
      · refine ze_aload_n C d_M_chunks_46 3 rfl rfl ?_
        refine ze_aload_n C d_M_chunks_47 3 rfl rfl ?_
        refine ze_getf (k := 39) C fl_M_58 (by decide) ze_E_m rfl d_M_chunks_48 ?_
        refine ze_iload C d_M_chunks_51 1 rfl ?_
        refine ze_i2lN C d_M_chunks_53 (by omega) ?_
        refine ze_laddN C d_M_chunks_54 ?_
        refine ze_putf (k := 39) C fp_M_58 (by decide) ze_E_m rfl rfl (Nat.le_of_ble_eq_true rfl) d_M_chunks_55 ?_
        refine ze_eqE (ze_up_m (ms' := (M, mv, ty, m1, co + ze_sz (ze_fl M pt (fun r => r.1) B).length + c * ze_sz (ze_fl M pt (fun r => r.2) A).length + (ze_sz (ze_fl M pt (fun r => r.2) A).length), le, A1)) rfl rfl) ?_
        refine ze_bipush (v := nI 60) C d_M_chunks_58 (by decide) ?_
        refine ze_iload_n C d_M_chunks_60 4 rfl rfl ?_
        refine ze_imulN C d_M_chunks_61 ?_
        refine ze_istore (lv' := [(7, .int (nI (60 * ja))), (6, .int (nI (c * ze_rm4 M))), (5, .int (nI (ze_sz (ze_fl M pt (fun r => r.2) A).length))), (4, .int (nI ((ze_fl M pt (fun r => r.1) B).length))), (0, .ref (ad 39)), (1, .int (nI ja)), (2, .int (nI jb)), (3, .int (nI (ze_rm4 M)))]) C d_M_chunks_62 (by decide) rfl ?_
        have hcl : c < ((ze_fl M pt (fun r => r.1) B).length + ze_rm4 M - 1) / ze_rm4 M := ze_cdlt (by omega) h43
        have hne : (ze_fl M pt (fun r => r.1) B).drop (c * ze_rm4 M) ≠ [] := fun z => by have := congrArg List.length z; rw [List.length_drop] at this; simp at this; omega
        have hstep : ze_jc (ze_rm4 M) (ze_fl M pt (fun r => r.2) A) ((ze_fl M pt (fun r => r.1) B).length - c) ((ze_fl M pt (fun r => r.1) B).drop (c * ze_rm4 M)) = ze_jr (ze_fl M pt (fun r => r.2) A) (((ze_fl M pt (fun r => r.1) B).drop (c * ze_rm4 M)).take (ze_rm4 M)) ++ ze_jc (ze_rm4 M) (ze_fl M pt (fun r => r.2) A) ((ze_fl M pt (fun r => r.1) B).length - (c + 1)) ((ze_fl M pt (fun r => r.1) B).drop ((c + 1) * ze_rm4 M)) := by rw [show (ze_fl M pt (fun r => r.1) B).length - c = ((ze_fl M pt (fun r => r.1) B).length - (c + 1)) + 1 by omega, ze_jc_step hne, List.drop_drop, Nat.succ_mul]
        rw [hstep, List.length_append] at hl4
        generalize hcc2 : co + ze_sz (ze_fl M pt (fun r => r.1) B).length + c * ze_sz (ze_fl M pt (fun r => r.2) A).length + ze_sz (ze_fl M pt (fun r => r.2) A).length = cc2
        have inner : ∀ (r2 : Nat) (p m2 : Nat) (A2 : Nat → Nat → Int32), A.length - p = r2 → p ≤ A.length → (∀ z, z ≠ 5 → z ≠ 6 → A2 z = Ar z) → ze_Mk A2 m2 (Lc ++ ze_jr (ze_fl M pt (fun r => r.2) (A.take p)) (((ze_fl M pt (fun r => r.1) B).drop (c * ze_rm4 M)).take (ze_rm4 M))) → ze_V G 48 ad (ze_E (ze_i G) ad x (M, mv, ty, m2, cc2, le, A2)) 0 0 64 [(7, .int (nI (60 * ja + p))), (6, .int (nI (c * ze_rm4 M))), (5, .int (nI (ze_sz (ze_fl M pt (fun r => r.2) A).length))), (4, .int (nI ((ze_fl M pt (fun r => r.1) B).length))), (0, .ref (ad 39)), (1, .int (nI ja)), (2, .int (nI jb)), (3, .int (nI (ze_rm4 M)))] [] := by
          intro r2
          induction r2 using Nat.strongRecOn with
          | ind r2 ih2 =>
            intro p m2 A2 hr2 k1 k2 k3
            have hc1 : A2 2 ja = nI A.length := by rw [k2 2 (by decide) (by decide)]; exact hcA
            have hc2 : A2 2 jb = nI B.length := by rw [k2 2 (by decide) (by decide)]; exact hcB
            have h3 := k2 3 (by decide) (by decide)
            have h4 := k2 4 (by decide) (by decide)
            have hH1 : ze_Hl (A2 3) (A2 4) (60 * ja) A := by rw [h3, h4]; exact hHA
            have hH2 : ze_Hl (A2 3) (A2 4) (60 * jb) B := by rw [h3, h4]; exact hHB
            have hph2 : ze_ph A2 pt := by intro d hd; rw [k2 7 (by decide) (by decide)]; exact hph d hd
            have hm2 := k3.1
            rw [List.length_append] at hm2
            have hpre := ze_jr_pre M pt (fun r => r.2) A (((ze_fl M pt (fun r => r.1) B).drop (c * ze_rm4 M)).take (ze_rm4 M)) p
            refine ze_iload C d_M_chunks_64 0 rfl ?_
            refine ze_bipush (v := nI 60) C d_M_chunks_66 (by decide) ?_
            refine ze_iload_n C d_M_chunks_68 5 rfl rfl ?_
            refine ze_imulN C d_M_chunks_69 ?_
            refine ze_aload_n C d_M_chunks_70 4 rfl rfl ?_
            refine ze_getf (k := 39) C fl_M_16 (by decide) ze_E_m rfl d_M_chunks_71 ?_
            refine ze_iload_n C d_M_chunks_74 5 rfl rfl ?_
            refine ze_iald (k := 40 + 2) (i := ja) C (by decide) (ze_E_a (j := 2)) (by show _ < 8; omega) (by decide) d_M_chunks_75 ?_
            rw [hc1]
            refine ze_iaddN C d_M_chunks_76 ?_
            refine ze_icmp_geN 113 C d_M_chunks_77 (by decide) (by omega) (by omega) (fun h77 => ?_) (fun h77 => ?_)
            · refine ze_iload C d_M_chunks_113 1 rfl ?_
              refine ze_iload_n C d_M_chunks_115 7 rfl rfl ?_
              refine ze_iaddN C d_M_chunks_116 ?_
              refine ze_istore (lv' := [(6, .int (nI (c * ze_rm4 M + (ze_rm4 M)))), (7, .int (nI (60 * ja + p))), (5, .int (nI (ze_sz (ze_fl M pt (fun r => r.2) A).length))), (4, .int (nI ((ze_fl M pt (fun r => r.1) B).length))), (0, .ref (ad 39)), (1, .int (nI ja)), (2, .int (nI jb)), (3, .int (nI (ze_rm4 M)))]) C d_M_chunks_117 (by decide) rfl ?_
              refine ze_goto 39 C d_M_chunks_119 (by decide) ?_
              refine ze_sub [(6, .int (nI (c * ze_rm4 M + ze_rm4 M))), (5, .int (nI (ze_sz (ze_fl M pt (fun r => r.2) A).length))), (4, .int (nI ((ze_fl M pt (fun r => r.1) B).length))), (0, .ref (ad 39)), (1, .int (nI ja)), (2, .int (nI jb)), (3, .int (nI (ze_rm4 M)))] [0, 2, 3, 4, 5, 6, 7] rfl ?_
              rw [show c * ze_rm4 M + ze_rm4 M = (c + 1) * ze_rm4 M from (Nat.succ_mul _ _).symm, ← hcc2, show co + ze_sz (ze_fl M pt (fun r => r.1) B).length + c * ze_sz (ze_fl M pt (fun r => r.2) A).length + ze_sz (ze_fl M pt (fun r => r.2) A).length = co + ze_sz (ze_fl M pt (fun r => r.1) B).length + (c + 1) * ze_sz (ze_fl M pt (fun r => r.2) A).length by rw [Nat.succ_mul]; omega]
              rw [show A.take p = A from List.take_of_length_le (by omega)] at k3
              exact ih ((ze_fl M pt (fun r => r.1) B).length - (c + 1)) (by omega) (c + 1) m2 A2 _ rfl (by omega) k2 k3 (by rw [List.append_assoc, ← hstep]; exact g4)
            · refine ze_aload_n C d_M_chunks_80 4 rfl rfl ?_
              refine ze_aload_n C d_M_chunks_81 4 rfl rfl ?_
              refine ze_getf (k := 39) C fl_M_22 (by decide) ze_E_m rfl d_M_chunks_82 ?_
              refine ze_iload C d_M_chunks_85 0 rfl ?_
              refine ze_iald (k := 40 + 4) (i := 60 * ja + p) C (by decide) (ze_E_a (j := 4)) (by show _ < 480; omega) (by decide) d_M_chunks_87 ?_
              refine ze_callV (st := []) C (c_M_here (ze_l G) (ze_D G) (ze_i G) ad x M mv ty m2 cc2 le A2 hM pt hle hpt hpd hph2 (A2 4 (60 * ja + p))) (kv_M_104 (ze_rml (by decide) (by decide))) (by decide) ze_E_m rfl (Nat.le_of_ble_eq_true rfl) ⟨Nat.le_of_ble_eq_true rfl, Nat.le_of_ble_eq_true rfl⟩ d_M_chunks_88 ?_
              rintro _ _ _ _ ⟨rfl, rfl, _, rfl, rfl, rfl⟩
              refine ze_norm (c2 := 0) (s2 := 0) (st' := [.int (ze_bi (ze_here M pt (A2 4 (60 * ja + p))))]) rfl rfl rfl ?_
              refine ze_if_eq 107 C d_M_chunks_91 (by decide) (fun h91 => ?_) (fun h91 => ?_)
              · refine ze_iinc (j := 0) (v := nI (60 * ja + p + 1)) (lv' := [(7, .int (nI (60 * ja + p + 1))), (6, .int (nI (c * ze_rm4 M))), (5, .int (nI (ze_sz (ze_fl M pt (fun r => r.2) A).length))), (4, .int (nI ((ze_fl M pt (fun r => r.1) B).length))), (0, .ref (ad 39)), (1, .int (nI ja)), (2, .int (nI jb)), (3, .int (nI (ze_rm4 M)))]) C d_M_chunks_107 rfl (nI_1 _) (by decide) rfl ?_
                refine ze_goto 64 C d_M_chunks_110 (by decide) ?_
                refine ze_sub [(7, .int (nI (60 * ja + (p + 1)))), (6, .int (nI (c * ze_rm4 M))), (5, .int (nI (ze_sz (ze_fl M pt (fun r => r.2) A).length))), (4, .int (nI ((ze_fl M pt (fun r => r.1) B).length))), (0, .ref (ad 39)), (1, .int (nI ja)), (2, .int (nI jb)), (3, .int (nI (ze_rm4 M)))] [0, 1, 2, 3, 4, 5, 6, 7] rfl ?_
                exact ih2 (A.length - (p + 1)) (by omega) (p + 1) m2 A2 rfl (by omega) k2 (by rw [ze_Hl_take hH1 (by omega), ze_fl_take, if_neg (by simp only; rw [ze_bi0.mp h91]; decide)]; exact k3)
              · refine ze_aload_n C d_M_chunks_94 4 rfl rfl ?_
                refine ze_iload C d_M_chunks_95 0 rfl ?_
                refine ze_iload_n C d_M_chunks_97 6 rfl rfl ?_
                refine ze_iload C d_M_chunks_98 1 rfl ?_
                refine ze_iload C d_M_chunks_100 1 rfl ?_
                refine ze_iload_n C d_M_chunks_102 7 rfl rfl ?_
                refine ze_iaddN C d_M_chunks_103 ?_
                refine ze_callV (st := []) C (c_M_chunk (ze_l G) (ze_D G) (ze_i G) ad x M mv ty m2 cc2 le A2 hM B jb hjb hB60 hc2 hH2 pt hle hpt hpd hph2 _ k3 (by omega) (60 * ja + p) (by omega) (c * ze_rm4 M) (c * ze_rm4 M + ze_rm4 M) (by omega) (by omega)) (kv_M_111 (ze_rml (by decide) (by decide))) (by decide) ze_E_m rfl (Nat.le_of_ble_eq_true rfl) ⟨Nat.le_of_ble_eq_true rfl, Nat.le_of_ble_eq_true rfl⟩ d_M_chunks_104 ?_
                rintro _ _ _ _ ⟨rfl, rfl, _, rfl, rfl, m3, A3, rfl, hk3, o3, hm3⟩
                refine ze_norm (c2 := 0) (s2 := 0) (st' := []) rfl rfl rfl ?_
                refine ze_iinc (j := 0) (v := nI (60 * ja + p + 1)) (lv' := [(7, .int (nI (60 * ja + p + 1))), (6, .int (nI (c * ze_rm4 M))), (5, .int (nI (ze_sz (ze_fl M pt (fun r => r.2) A).length))), (4, .int (nI ((ze_fl M pt (fun r => r.1) B).length))), (0, .ref (ad 39)), (1, .int (nI ja)), (2, .int (nI jb)), (3, .int (nI (ze_rm4 M)))]) C d_M_chunks_107 rfl (nI_1 _) (by decide) rfl ?_
                refine ze_goto 64 C d_M_chunks_110 (by decide) ?_
                refine ze_sub [(7, .int (nI (60 * ja + (p + 1)))), (6, .int (nI (c * ze_rm4 M))), (5, .int (nI (ze_sz (ze_fl M pt (fun r => r.2) A).length))), (4, .int (nI ((ze_fl M pt (fun r => r.1) B).length))), (0, .ref (ad 39)), (1, .int (nI ja)), (2, .int (nI jb)), (3, .int (nI (ze_rm4 M)))] [0, 1, 2, 3, 4, 5, 6, 7] rfl ?_
                exact ih2 (A.length - (p + 1)) (by omega) (p + 1) m3 A3 rfl (by omega) (fun z z1 z2 => (o3 z z1 z2).trans (k2 z z1 z2)) (by rw [ze_Hl_take hH1 (by omega), ze_fl_take, if_pos (ze_bi1 h91), ze_jr_snoc, ← List.append_assoc]; rw [show c * ze_rm4 M + ze_rm4 M - c * ze_rm4 M = ze_rm4 M by omega] at hk3; exact hk3)
        refine ze_sub [(7, .int (nI (60 * ja + 0))), (6, .int (nI (c * ze_rm4 M))), (5, .int (nI (ze_sz (ze_fl M pt (fun r => r.2) A).length))), (4, .int (nI ((ze_fl M pt (fun r => r.1) B).length))), (0, .ref (ad 39)), (1, .int (nI ja)), (2, .int (nI jb)), (3, .int (nI (ze_rm4 M)))] [0, 1, 2, 3, 4, 5, 6, 7] rfl ?_
        exact inner _ 0 m1 A1 rfl (Nat.zero_le _) g2 (by rw [List.take_zero, show ze_fl M pt (fun r => r.2) [] = [] from rfl, show ∀ X, ze_jr [] X = [] from fun _ => rfl, List.append_nil]; exact g3)
  refine ze_aload_n C d_M_chunks_0 0 rfl rfl ?_
  refine ze_iload_n C d_M_chunks_1 2 rfl rfl ?_
  refine ze_iconst (v := ze_bi false) C d_M_chunks_2 (by decide) ?_
  refine ze_iconst (v := -1) C d_M_chunks_3 (by decide) ?_
  refine ze_callV (st := []) C (c_M_many_B (ze_l G) (ze_D G) (ze_i G) ad x M mv ty ma co le Ar hM B jb hjb hB60 hcB hHB pt hle hpt hpd hph) (kv_M_107 (ze_rml (by decide) (by decide))) (by decide) ze_E_m rfl (Nat.le_of_ble_eq_true rfl) ⟨Nat.le_of_ble_eq_true rfl, Nat.le_of_ble_eq_true rfl⟩ d_M_chunks_4 ?_
  rintro _ _ _ _ ⟨rfl, rfl, _, rfl, rfl, rfl⟩
  refine ze_norm (c2 := 0) (s2 := 0) (st' := [.int (nI ((ze_fl M pt (fun r => r.1) B).length))]) rfl rfl rfl ?_
  refine ze_istore (lv' := [(4, .int (nI ((ze_fl M pt (fun r => r.1) B).length))), (0, .ref (ad 39)), (1, .int (nI ja)), (2, .int (nI jb)), (3, .int (nI (ze_rm4 M)))]) C d_M_chunks_7 (by decide) rfl ?_
  refine ze_aload_n C d_M_chunks_9 1 rfl rfl ?_
  refine ze_iload_n C d_M_chunks_10 2 rfl rfl ?_
  refine ze_iconst (v := ze_bi true) C d_M_chunks_11 (by decide) ?_
  refine ze_iconst (v := -1) C d_M_chunks_12 (by decide) ?_
  refine ze_callV (st := []) C (c_M_many_A (ze_l G) (ze_D G) (ze_i G) ad x M mv ty ma co le Ar hM A ja hja hA60 hcA hHA pt hle hpt hpd hph) (kv_M_107 (ze_rml (by decide) (by decide))) (by decide) ze_E_m rfl (Nat.le_of_ble_eq_true rfl) ⟨Nat.le_of_ble_eq_true rfl, Nat.le_of_ble_eq_true rfl⟩ d_M_chunks_13 ?_
  rintro _ _ _ _ ⟨rfl, rfl, _, rfl, rfl, rfl⟩
  refine ze_norm (c2 := 0) (s2 := 0) (st' := [.int (nI ((ze_fl M pt (fun r => r.2) A).length))]) rfl rfl rfl ?_
  refine ze_callS (st := []) C (c_M_size (ze_l G) (ze_D G) (ze_i G) _ _ _ ((ze_fl M pt (fun r => r.2) A).length) (by omega)) (ks_M_38 (ze_rml (by decide) (by decide))) rfl (Nat.le_of_ble_eq_true rfl) ⟨Nat.le_of_ble_eq_true rfl, Nat.le_of_ble_eq_true rfl⟩ d_M_chunks_16 ?_
  rintro _ _ _ _ ⟨rfl, rfl, rfl, rfl⟩
  refine ze_norm (c2 := 0) (s2 := 0) (st' := [.int (nI (ze_sz ((ze_fl M pt (fun r => r.2) A).length)))]) rfl rfl rfl ?_
  have hz16 := ze_sz_le ((ze_fl M pt (fun r => r.2) A).length)
  refine ze_istore (lv' := [(5, .int (nI (ze_sz ((ze_fl M pt (fun r => r.2) A).length)))), (4, .int (nI ((ze_fl M pt (fun r => r.1) B).length))), (0, .ref (ad 39)), (1, .int (nI ja)), (2, .int (nI jb)), (3, .int (nI (ze_rm4 M)))]) C d_M_chunks_19 (by decide) rfl ?_
  refine ze_aload_n C d_M_chunks_21 2 rfl rfl ?_
  refine ze_aload_n C d_M_chunks_22 2 rfl rfl ?_
  refine ze_getf (k := 39) C fl_M_58 (by decide) ze_E_m rfl d_M_chunks_23 ?_
  refine ze_iload C d_M_chunks_26 1 rfl ?_
  refine ze_callS (st := [.long (lN co), .ref (ad 39)]) C (c_M_size (ze_l G) (ze_D G) (ze_i G) _ _ _ ((ze_fl M pt (fun r => r.1) B).length) (by omega)) (ks_M_38 (ze_rml (by decide) (by decide))) rfl (Nat.le_of_ble_eq_true rfl) ⟨Nat.le_of_ble_eq_true rfl, Nat.le_of_ble_eq_true rfl⟩ d_M_chunks_28 ?_
  rintro _ _ _ _ ⟨rfl, rfl, rfl, rfl⟩
  refine ze_norm (c2 := 0) (s2 := 0) (st' := [.int (nI (ze_sz ((ze_fl M pt (fun r => r.1) B).length))), .long (lN co), .ref (ad 39)]) rfl rfl rfl ?_
  have hz28 := ze_sz_le ((ze_fl M pt (fun r => r.1) B).length)
  refine ze_i2lN C d_M_chunks_31 (by omega) ?_
  refine ze_laddN C d_M_chunks_32 ?_
  refine ze_putf (k := 39) C fp_M_58 (by decide) ze_E_m rfl rfl (Nat.le_of_ble_eq_true rfl) d_M_chunks_33 ?_
  refine ze_eqE (ze_up_m (ms' := (M, mv, ty, ma, co + (ze_sz ((ze_fl M pt (fun r => r.1) B).length)), le, Ar)) rfl rfl) ?_
  refine ze_iconst (v := nI 0) C d_M_chunks_36 (by decide) ?_
  refine ze_istore (lv' := [(6, .int (nI 0)), (5, .int (nI (ze_sz ((ze_fl M pt (fun r => r.2) A).length)))), (4, .int (nI ((ze_fl M pt (fun r => r.1) B).length))), (0, .ref (ad 39)), (1, .int (nI ja)), (2, .int (nI jb)), (3, .int (nI (ze_rm4 M)))]) C d_M_chunks_37 (by decide) rfl ?_
  rw [show co + ze_sz (ze_fl M pt (fun r => r.1) B).length = co + ze_sz (ze_fl M pt (fun r => r.1) B).length + 0 * ze_sz (ze_fl M pt (fun r => r.2) A).length by omega]
  refine ze_sub [(6, .int (nI 0)), (5, .int (nI (ze_sz (ze_fl M pt (fun r => r.2) A).length))), (4, .int (nI ((ze_fl M pt (fun r => r.1) B).length))), (0, .ref (ad 39)), (1, .int (nI ja)), (2, .int (nI jb)), (3, .int (nI (ze_rm4 M)))] [0, 1, 2, 3, 4, 5, 6] rfl ?_
  rw [show nI 0 = nI (0 * ze_rm4 M) by rw [Nat.zero_mul]]
  exact loop _ 0 ma Ar L0 rfl (Nat.zero_le _) (fun _ _ _ => rfl) hk (by rw [Nat.zero_mul, List.drop_zero, Nat.sub_zero])
