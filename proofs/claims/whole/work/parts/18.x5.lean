section ZGR
variable {T1 T2 : Nat → ze_T} {m e pl : Nat} {L0 P R : List ze_Row} {key v : Int32}
theorem ze_gK_pre (e p : Nat) (R : List ze_Row) : (ze_gK e (R.take p)).length ≤ (ze_dk R).length := by
  obtain ⟨K, hK⟩ := ze_dk_app (R.take p) (R.drop p)
  rw [List.take_append_drop] at hK
  have := (ze_gK_len e (R.take p)).2
  rw [hK, List.length_append]
  omega
theorem ze_gr_hl (hm : ze_Hu (T1 m) (L0 ++ ze_gS e P)) (hl : L0.length + (ze_gK e P).length ≤ 60) : ze_Hl (T1 m).1 (T1 m).2.1 0 (L0 ++ ze_gS e P) := by
  have h := hm.2.2
  rw [List.take_of_length_le (by rw [List.length_append, ze_gS_len]; exact hl)] at h
  exact h
theorem ze_gr_cnt (hm : ze_Hu (T1 m) (L0 ++ ze_gS e P)) (hl : L0.length + (ze_gK e P).length ≤ 60) : (T1 m).2.2.1 = L0.length + (ze_gK e P).length := by
  rw [hm.1, List.length_append, ze_gS_len]
  omega
theorem ze_Hu_set {t : ze_T} {L : List ze_Row} {p : Nat} {r : ze_Row} (h : ze_Hu t L) (hl : L.length ≤ 60) (hp : p < L.length) (hk : t.1 p = r.1) : ze_Hu (t.1, upd t.2.1 p r.2, t.2.2.1, t.2.2.2) (L.set p r) := by
  obtain ⟨h1, h2, h3⟩ := h
  refine ⟨by simp only [List.length_set]; exact h1, by simp only [List.length_set]; exact h2, ?_⟩
  rw [List.take_of_length_le hl] at h3
  rw [List.take_of_length_le (by rw [List.length_set]; exact hl)]
  have h4 := ze_Hl_set (r := r) h3 hp
  rw [Nat.zero_add, ze_upd_id hk] at h4
  exact h4
theorem ze_gr_hit (hm : ze_Hu (T1 m) (L0 ++ ze_gS e P)) (hl : L0.length + (ze_gK e P).length ≤ 60) (h1 : L0.length ≤ pl) (h2 : pl < (T1 m).2.2.1) (h4 : (T1 m).1 pl = key) (eT : T2 = va_up T1 m ((T1 m).1, upd (T1 m).2.1 pl ((T1 m).2.1 pl + v), (T1 m).2.2.1, (T1 m).2.2.2)) : ze_Hu (T2 m) (L0 ++ ze_gS e (P ++ [(key, v)])) ∧ ze_gR e (P ++ [(key, v)]) = ze_gR e P := by
  have hc := ze_gr_cnt hm hl
  obtain ⟨a1, a2⟩ := ze_g_at (ze_gr_hl hm hl) (j := pl - L0.length) (by omega)
  rw [show L0.length + (pl - L0.length) = pl by omega, h4] at a1 a2
  obtain ⟨b1, b2, b3⟩ := ze_g_hit (v := v) a1
  refine ⟨?_, b2⟩
  rw [b3, ze_ups eT, a2]
  have h5 := ze_Hu_set (r := (key, ze_sum key P + v)) hm (by rw [List.length_append, ze_gS_len]; exact hl) (p := pl) (by rw [List.length_append, ze_gS_len]; omega) h4
  rw [List.set_append_right _ _ h1] at h5
  exact h5
theorem ze_gr_miss (hm : ze_Hu (T1 m) (L0 ++ ze_gS e P)) (hl : L0.length + (ze_gK e P).length ≤ 60) (h3 : ∀ q, L0.length ≤ q → q < pl → (T1 m).1 q ≠ key) (h5 : (T1 m).2.2.1 ≤ pl) : key ∉ ze_gK e P := by
  intro hk
  obtain ⟨t, ht⟩ := List.getElem?_of_mem hk
  have hlt := (List.getElem?_eq_some_iff.mp ht).1
  obtain ⟨a1, -⟩ := ze_g_at (ze_gr_hl hm hl) hlt
  rw [ht] at a1
  have hc := ze_gr_cnt hm hl
  exact h3 (L0.length + t) (by omega) (by omega) (Option.some.inj a1).symm
theorem ze_gr_new (hm : ze_Hu (T1 m) (L0 ++ ze_gS e P)) (hk : key ∉ ze_gK e P) (hl : (ze_gK e P).length < e) (eT : T2 = va_up T1 m (if (T1 m).2.2.1 < 60 then (upd (T1 m).1 (T1 m).2.2.1 key, upd (T1 m).2.1 (T1 m).2.2.1 v, (T1 m).2.2.1 + 1, (T1 m).2.2.2) else ((T1 m).1, (T1 m).2.1, (T1 m).2.2.1, true))) : ze_Hu (T2 m) (L0 ++ ze_gS e (P ++ [(key, v)])) ∧ ze_gR e (P ++ [(key, v)]) = ze_gR e P := by
  obtain ⟨b1, b2, b3⟩ := ze_g_new (v := v) hk hl
  refine ⟨?_, b2⟩
  rw [b3, ← List.append_assoc]
  exact ze_Hu_app hm eT
end ZGR

set_option maxRecDepth 100000 in
set_option maxHeartbeats 4000000 in
theorem c_X_groupOneRound (l : Launch) (D : va_G) (ids : Nat → ClassId) (ad : Nat → Nat) (ms : ze_MS) (M : Nat) (T : Nat → ze_T) (hd : Nat → Bool) (mv : Int64) (hM : 3 ≤ M ∧ M ≤ 6) (R L0 : List ze_Row) (hRR : ze_H (T 9) R) (m : Nat) (hm8 : m < 8) (hm : ze_Hu (T m) L0) (hsum : L0.length + (ze_dk R).length ≤ 60) : ze_MX l D ids ad ms y_X_groupOneRound ws_X_groupOneRound 5 (M, T, hd, mv) [.ref (ad 0), .ref (ad 30), .ref (ad (3 + 3 * m))] (fun v x' => v = none ∧ ∃ T', x' = (M, T', hd, mv) ∧ (∀ z, z ≠ m → z ≠ 9 → T' z = T z) ∧ ze_Hu (T' m) (L0 ++ ze_gS (ze_rm4 M) R) ∧ ze_H (T' 9) (ze_gR (ze_rm4 M) R)) := by
  refine ze_enter (cc := b_X_groupOneRound) (maxL := 8) (ret := none) (by decide +kernel) rfl (Nat.le_of_ble_eq_true rfl) ?_
  rintro G rfl rfl rfl - C Rt
  refine ze_lv (lv' := [(0, .ref (ad 0)), (1, .ref (ad 30)), (2, .ref (ad (3 + 3 * m)))]) rfl ?_
  have hcR : (T 9).2.2.1 = R.length := hRR.1
  have hR6 : R.length ≤ 60 := hRR.2.1
  have hcm : (T m).2.2.1 = L0.length := by rw [hm.1]; omega
  have loop : ∀ (r p k : Nat) (T1 : Nat → ze_T), R.length - p = r → p ≤ R.length → k ≤ p → k = (ze_gR (ze_rm4 M) (R.take p)).length → (∀ z, z ≠ m → z ≠ 9 → T1 z = T z) → ze_Hu (T1 m) (L0 ++ ze_gS (ze_rm4 M) (R.take p)) → ze_Hl (T1 9).1 (T1 9).2.1 0 (ze_gR (ze_rm4 M) (R.take p)) → ze_Hl (T1 9).1 (T1 9).2.1 p (R.drop p) → (T1 9).2.2.1 = R.length → ze_V G 48 ad (ze_E (ze_i G) ad (M, T1, hd, mv) ms) 0 0 11 [(5, .int (nI p)), (4, .int (nI k)), (3, .int (nI L0.length)), (0, .ref (ad 0)), (1, .ref (ad 30)), (2, .ref (ad (3 + 3 * m)))] [] := by
    intro r
    induction r using Nat.strongRecOn with
    | ind r ih =>
      intro p k T1 hr g1 g2 g3 g4 g5 g6 g7 g8
      have hgl : L0.length + (ze_gK (ze_rm4 M) (R.take p)).length ≤ 60 := Nat.le_trans (Nat.add_le_add_left (ze_gK_pre _ p R) _) hsum
      have hcc := ze_gr_cnt g5 hgl
      refine ze_iload C d_X_groupOneRound_11 0 rfl ?_
      refine ze_aload_n C d_X_groupOneRound_13 4 rfl rfl ?_
      refine ze_getf (k := 3 + 3 * 9) C fl_X_50 (by decide) (ze_E_t (i := 9) (by omega)) rfl d_X_groupOneRound_14 ?_
      refine ze_icmp_geN 128 C d_X_groupOneRound_17 (by decide) (by omega) (by omega) (fun h17 => ?_) (fun h17 => ?_)
      · rw [List.take_of_length_le (by omega)] at g3 g5 g6
        refine ze_aload_n C d_X_groupOneRound_128 4 rfl rfl ?_
        refine ze_iload C d_X_groupOneRound_129 1 rfl ?_
        refine ze_eqE (ze_foc 9) ?_
        refine ze_putf (k := 3 + 3 * 9) C fp_X_50 (by decide) (ze_F_t (i := 9) (by omega)) rfl rfl (Nat.le_of_ble_eq_true rfl) d_X_groupOneRound_131 ?_
        refine ze_eqE (ze_W_t (i := 9) (c' := k) (o' := (T1 9).2.2.2) (by omega)) ?_
        refine ze_genT (fun T2 eT2 => ?_)
        exact ze_vret C Rt d_X_groupOneRound_134 (⟨rfl, rfl, _, rfl, rfl, T2, rfl, fun z z1 z2 => (ze_upo eT2 z z2).trans (g4 z z1 z2), by rw [ze_upo eT2 m (by omega)]; exact g5, by rw [ze_ups eT2]; exact ⟨g3, by rw [← g3]; omega, g6⟩⟩)
      · refine ze_aload_n C d_X_groupOneRound_20 4 rfl rfl ?_
        refine ze_getf (k := 3 + 3 * 9) C fl_X_83 (by decide) (ze_E_t (i := 9) (by omega)) rfl d_X_groupOneRound_21 ?_
        refine ze_iload C d_X_groupOneRound_24 0 rfl ?_
        refine ze_iald (k := 4 + 3 * 9) (i := p) C (by decide) (ze_E_k (i := 9) (by omega)) (by omega) (by decide) d_X_groupOneRound_26 ?_
        refine ze_istore (lv' := [(6, .int (((T1 9).1) p)), (5, .int (nI p)), (4, .int (nI k)), (3, .int (nI L0.length)), (0, .ref (ad 0)), (1, .ref (ad 30)), (2, .ref (ad (3 + 3 * m)))]) C d_X_groupOneRound_27 (by decide) rfl ?_
        refine ze_aload_n C d_X_groupOneRound_29 6 rfl rfl ?_
        refine ze_iload C d_X_groupOneRound_30 0 rfl ?_
        refine ze_iload_n C d_X_groupOneRound_32 3 rfl rfl ?_
        refine ze_eqE (ze_foc m) ?_
        refine ze_callV (st := []) C (c_T_placeOfKey (ze_l G) (ze_D G) (ze_i G) ad ms M T1 hd mv m (by omega) (T1 m).1 (T1 m).2.1 (T1 m).2.2.1 (T1 m).2.2.2 (by omega) ((T1 9).1 p) L0.length (by omega)) (kv_X_126 (ze_rml (by decide) (by decide))) (by omega) (ze_F_t (i := m) (by omega)) rfl (Nat.le_of_ble_eq_true rfl) ⟨Nat.le_of_ble_eq_true rfl, Nat.le_of_ble_eq_true rfl⟩ d_X_groupOneRound_33 ?_
        rintro _ _ _ _ ⟨rfl, rfl, _, rfl, pl, rfl, rfl, hp1, hp2, hp3, hp4⟩
        refine ze_eqE (ze_foc m).symm ?_
        refine ze_norm (c2 := 0) (s2 := 0) (st' := [.int (nI pl)]) rfl rfl rfl ?_
        refine ze_istore (lv' := [(7, .int (nI pl)), (6, .int (((T1 9).1) p)), (5, .int (nI p)), (4, .int (nI k)), (3, .int (nI L0.length)), (0, .ref (ad 0)), (1, .ref (ad 30)), (2, .ref (ad (3 + 3 * m)))]) C d_X_groupOneRound_36 (by decide) rfl ?_
        refine ze_iload C d_X_groupOneRound_38 0 rfl ?_
        refine ze_aload_n C d_X_groupOneRound_40 7 rfl rfl ?_
        refine ze_getf (k := 3 + 3 * m) C fl_X_50 (by omega) (ze_E_t (i := m) (by omega)) rfl d_X_groupOneRound_41 ?_
        refine ze_icmp_geN 67 C d_X_groupOneRound_44 (by decide) (by omega) (by omega) (fun h44 => ?_) (fun h44 => ?_)
        · refine ze_aload_n C d_X_groupOneRound_67 7 rfl rfl ?_
          refine ze_getf (k := 3 + 3 * m) C fl_X_50 (by omega) (ze_E_t (i := m) (by omega)) rfl d_X_groupOneRound_68 ?_
          refine ze_iload_n C d_X_groupOneRound_71 4 rfl rfl ?_
          refine ze_isubN C d_X_groupOneRound_72 (by omega) ?_
          refine ze_aload_n C d_X_groupOneRound_73 5 rfl rfl ?_
          refine ze_callV (st := [.int (nI (((T1 m).2.2.1) - L0.length))]) C (c_X_rowsInMemory (ze_l G) (ze_D G) (ze_i G) ad ms M T1 hd mv hM) (kv_X_129 (ze_rml (by decide) (by decide))) (by decide) ze_E_x rfl (Nat.le_of_ble_eq_true rfl) ⟨Nat.le_of_ble_eq_true rfl, Nat.le_of_ble_eq_true rfl⟩ d_X_groupOneRound_74 ?_
          rintro _ _ _ _ ⟨rfl, rfl, _, rfl, rfl, rfl⟩
          refine ze_norm (c2 := 0) (s2 := 0) (st' := [.int (nI (ze_rm4 M)), .int (nI (((T1 m).2.2.1) - L0.length))]) rfl rfl rfl ?_
          refine ze_icmp_geN 96 C d_X_groupOneRound_77 (by decide) (by omega) (by unfold ze_rm4; omega) (fun h77 => ?_) (fun h77 => ?_)
          · refine ze_aload_n C d_X_groupOneRound_96 6 rfl rfl ?_
            refine ze_getf (k := 3 + 3 * 9) C fl_X_83 (by decide) (ze_E_t (i := 9) (by omega)) rfl d_X_groupOneRound_97 ?_
            refine ze_iload C d_X_groupOneRound_100 3 rfl ?_
            refine ze_iload C d_X_groupOneRound_102 1 rfl ?_
            refine ze_eqE (ze_foc 9) ?_
            refine ze_iast (k := 4 + 3 * 9) (i := k) C (by decide) (ze_F_k (i := 9) (by omega)) (by omega) (by decide) d_X_groupOneRound_104 ?_
            refine ze_eqE (ze_W_k (i := 9) (by omega)) ?_
            refine ze_genT (fun T2 eT2 => ?_)
            refine ze_aload_n C d_X_groupOneRound_105 6 rfl rfl ?_
            refine ze_getf (k := 3 + 3 * 9) C fl_X_87 (by decide) (ze_E_t (i := 9) (by omega)) rfl d_X_groupOneRound_106 ?_
            refine ze_iload C d_X_groupOneRound_109 3 rfl ?_
            refine ze_aload_n C d_X_groupOneRound_111 6 rfl rfl ?_
            refine ze_getf (k := 3 + 3 * 9) C fl_X_87 (by decide) (ze_E_t (i := 9) (by omega)) rfl d_X_groupOneRound_112 ?_
            refine ze_iload C d_X_groupOneRound_115 2 rfl ?_
            refine ze_iald (k := 5 + 3 * 9) (i := p) C (by decide) (ze_E_v (i := 9) (by omega)) (by omega) (by decide) d_X_groupOneRound_117 ?_
            have ev : (T2 9).2.1 p = (T1 9).2.1 p := by rw [ze_ups eT2]
            rw [ev]
            refine ze_eqE (ze_foc 9) ?_
            refine ze_iast (k := 5 + 3 * 9) (i := k) C (by decide) (ze_F_v (i := 9) (by omega)) (by omega) (by decide) d_X_groupOneRound_118 ?_
            refine ze_eqE (ze_W_v (i := 9) (by omega)) ?_
            refine ze_genT (fun T3 eT3 => ?_)
            refine ze_iinc (j := 3) (v := nI (k + 1)) (lv' := [(4, .int (nI (k + 1))), (7, .int (nI pl)), (6, .int (((T1 9).1) p)), (5, .int (nI p)), (3, .int (nI L0.length)), (0, .ref (ad 0)), (1, .ref (ad 30)), (2, .ref (ad (3 + 3 * m)))]) C d_X_groupOneRound_119 rfl (nI_1 _) (by decide) rfl ?_
            refine ze_iinc (j := 3) (v := nI (p + 1)) (lv' := [(5, .int (nI (p + 1))), (4, .int (nI (k + 1))), (7, .int (nI pl)), (6, .int (((T1 9).1) p)), (3, .int (nI L0.length)), (0, .ref (ad 0)), (1, .ref (ad 30)), (2, .ref (ad (3 + 3 * m)))]) C d_X_groupOneRound_122 rfl (nI_1 _) (by decide) rfl ?_
            refine ze_goto 11 C d_X_groupOneRound_125 (by decide) ?_
            refine ze_sub [(5, .int (nI (p + 1))), (4, .int (nI (k + 1))), (3, .int (nI L0.length)), (0, .ref (ad 0)), (1, .ref (ad 30)), (2, .ref (ad (3 + 3 * m)))] [0, 1, 4, 5, 6, 7] rfl ?_
            obtain ⟨e1, e2, e3⟩ := ze_Hl_step g7 (by omega)
            obtain ⟨-, b2, b3⟩ := ze_g_kept (v := (T1 9).2.1 p) (ze_gr_miss g5 hgl hp3 h44) (by omega)
            have em : T3 m = T1 m := (ze_upo eT3 m (by omega)).trans (ze_upo eT2 m (by omega))
            have s3 := ze_ups eT3
            rw [ze_ups eT2] at s3
            simp only at s3
            refine ih (R.length - (p + 1)) (by omega) (p + 1) (k + 1) T3 rfl (by omega) (by omega) (by rw [e2, b2, List.length_append, ← g3]; rfl) (fun z z1 z2 => (ze_upo eT3 z z2).trans ((ze_upo eT2 z z2).trans (g4 z z1 z2))) (by rw [e2, b3, em]; exact g5) ?_ ?_ (by rw [s3]; exact g8)
            · rw [s3, e2, b2]
              have h6 := ze_Hl_snoc (r := ((T1 9).1 p, (T1 9).2.1 p)) g6
              rw [Nat.zero_add, ← g3] at h6
              exact h6
            · rw [s3]
              exact ze_Hl_upd e3 (Or.inl (by omega))
          · refine ze_aload_n C d_X_groupOneRound_80 7 rfl rfl ?_
            refine ze_iload C d_X_groupOneRound_81 1 rfl ?_
            refine ze_aload_n C d_X_groupOneRound_83 6 rfl rfl ?_
            refine ze_getf (k := 3 + 3 * 9) C fl_X_87 (by decide) (ze_E_t (i := 9) (by omega)) rfl d_X_groupOneRound_84 ?_
            refine ze_iload C d_X_groupOneRound_87 2 rfl ?_
            refine ze_iald (k := 5 + 3 * 9) (i := p) C (by decide) (ze_E_v (i := 9) (by omega)) (by omega) (by decide) d_X_groupOneRound_89 ?_
            refine ze_eqE (ze_foc m) ?_
            refine ze_callV (st := []) C (c_T_append (ze_l G) (ze_D G) (ze_i G) ad ms M T1 hd mv m (by omega) (T1 m).1 (T1 m).2.1 (T1 m).2.2.1 (T1 m).2.2.2 (by omega) (((T1 9).1) p) (((T1 9).2.1) p)) (kv_X_53 (ze_rml (by decide) (by decide))) (by omega) (ze_F_t (i := m) (by omega)) rfl (Nat.le_of_ble_eq_true rfl) ⟨Nat.le_of_ble_eq_true rfl, Nat.le_of_ble_eq_true rfl⟩ d_X_groupOneRound_90 ?_
            rintro _ _ _ _ ⟨rfl, rfl, _, rfl, rfl, rfl⟩
            refine ze_genT (fun T2 eT2 => ?_)
            refine ze_norm (c2 := 0) (s2 := 0) (st' := []) rfl rfl rfl ?_
            refine ze_goto 122 C d_X_groupOneRound_93 (by decide) ?_
            refine ze_iinc (j := 2) (v := nI (p + 1)) (lv' := [(5, .int (nI (p + 1))), (7, .int (nI pl)), (6, .int (((T1 9).1) p)), (4, .int (nI k)), (3, .int (nI L0.length)), (0, .ref (ad 0)), (1, .ref (ad 30)), (2, .ref (ad (3 + 3 * m)))]) C d_X_groupOneRound_122 rfl (nI_1 _) (by decide) rfl ?_
            refine ze_goto 11 C d_X_groupOneRound_125 (by decide) ?_
            refine ze_sub [(5, .int (nI (p + 1))), (4, .int (nI k)), (3, .int (nI L0.length)), (0, .ref (ad 0)), (1, .ref (ad 30)), (2, .ref (ad (3 + 3 * m)))] [0, 3, 4, 5, 6, 7] rfl ?_
            obtain ⟨e1, e2, e3⟩ := ze_Hl_step g7 (by omega)
            obtain ⟨b1, b2⟩ := ze_gr_new g5 (ze_gr_miss g5 hgl hp3 h44) (by omega) eT2
            have e9 := ze_upo eT2 9 (by omega)
            exact ih (R.length - (p + 1)) (by omega) (p + 1) k T2 rfl (by omega) (by omega) (by rw [e2, b2]; exact g3) (fun z z1 z2 => (ze_upo eT2 z z1).trans (g4 z z1 z2)) (by rw [e2]; exact b1) (by rw [e9, e2, b2]; exact g6) (by rw [e9]; exact e3) (by rw [e9]; exact g8)
        · refine ze_aload_n C d_X_groupOneRound_47 7 rfl rfl ?_
          refine ze_getf (k := 3 + 3 * m) C fl_X_87 (by omega) (ze_E_t (i := m) (by omega)) rfl d_X_groupOneRound_48 ?_
          refine ze_iload C d_X_groupOneRound_51 0 rfl ?_
          refine ze_dup2 C d_X_groupOneRound_53 rfl rfl ?_
          refine ze_iald (k := 5 + 3 * m) (i := pl) C (by omega) (ze_E_v (i := m) (by omega)) (by omega) (by decide) d_X_groupOneRound_54 ?_
          refine ze_aload_n C d_X_groupOneRound_55 6 rfl rfl ?_
          refine ze_getf (k := 3 + 3 * 9) C fl_X_87 (by decide) (ze_E_t (i := 9) (by omega)) rfl d_X_groupOneRound_56 ?_
          refine ze_iload C d_X_groupOneRound_59 2 rfl ?_
          refine ze_iald (k := 5 + 3 * 9) (i := p) C (by decide) (ze_E_v (i := 9) (by omega)) (by omega) (by decide) d_X_groupOneRound_61 ?_
          refine ze_iadd C d_X_groupOneRound_62 ?_
          refine ze_eqE (ze_foc m) ?_
          refine ze_iast (k := 5 + 3 * m) (i := pl) C (by omega) (ze_F_v (i := m) (by omega)) (by omega) (by decide) d_X_groupOneRound_63 ?_
          refine ze_eqE (ze_W_v (i := m) (by omega)) ?_
          refine ze_genT (fun T2 eT2 => ?_)
          refine ze_goto 122 C d_X_groupOneRound_64 (by decide) ?_
          refine ze_iinc (j := 2) (v := nI (p + 1)) (lv' := [(5, .int (nI (p + 1))), (7, .int (nI pl)), (6, .int (((T1 9).1) p)), (4, .int (nI k)), (3, .int (nI L0.length)), (0, .ref (ad 0)), (1, .ref (ad 30)), (2, .ref (ad (3 + 3 * m)))]) C d_X_groupOneRound_122 rfl (nI_1 _) (by decide) rfl ?_
          refine ze_goto 11 C d_X_groupOneRound_125 (by decide) ?_
          refine ze_sub [(5, .int (nI (p + 1))), (4, .int (nI k)), (3, .int (nI L0.length)), (0, .ref (ad 0)), (1, .ref (ad 30)), (2, .ref (ad (3 + 3 * m)))] [0, 3, 4, 5, 6, 7] rfl ?_
          obtain ⟨e1, e2, e3⟩ := ze_Hl_step g7 (by omega)
          obtain ⟨b1, b2⟩ := ze_gr_hit g5 hgl hp1 h44 (hp4 h44) eT2
          have e9 := ze_upo eT2 9 (by omega)
          exact ih (R.length - (p + 1)) (by omega) (p + 1) k T2 rfl (by omega) (by omega) (by rw [e2, b2]; exact g3) (fun z z1 z2 => (ze_upo eT2 z z1).trans (g4 z z1 z2)) (by rw [e2]; exact b1) (by rw [e9, e2, b2]; exact g6) (by rw [e9]; exact e3) (by rw [e9]; exact g8)
  refine ze_aload_n C d_X_groupOneRound_0 2 rfl rfl ?_
  refine ze_getf (k := 3 + 3 * m) C fl_X_50 (by omega) (ze_E_t (i := m) (by omega)) rfl d_X_groupOneRound_1 ?_
  refine ze_istore_n (lv' := [(3, .int (nI ((T m).2.2.1))), (0, .ref (ad 0)), (1, .ref (ad 30)), (2, .ref (ad (3 + 3 * m)))]) C d_X_groupOneRound_4 rfl (by decide) rfl ?_
  refine ze_iconst (v := nI 0) C d_X_groupOneRound_5 (by decide) ?_
  refine ze_istore (lv' := [(4, .int (nI 0)), (3, .int (nI ((T m).2.2.1))), (0, .ref (ad 0)), (1, .ref (ad 30)), (2, .ref (ad (3 + 3 * m)))]) C d_X_groupOneRound_6 (by decide) rfl ?_
  refine ze_iconst (v := nI 0) C d_X_groupOneRound_8 (by decide) ?_
  refine ze_istore (lv' := [(5, .int (nI 0)), (4, .int (nI 0)), (3, .int (nI ((T m).2.2.1))), (0, .ref (ad 0)), (1, .ref (ad 30)), (2, .ref (ad (3 + 3 * m)))]) C d_X_groupOneRound_9 (by decide) rfl ?_
  rw [hcm]
  exact loop _ 0 0 T rfl (Nat.zero_le _) (Nat.le_refl _) rfl (fun _ _ _ => rfl) (by rw [List.take_zero, show ze_gS (ze_rm4 M) [] = [] by simp [ze_gS, ze_gK, ze_dk], List.append_nil]; exact hm) ze_Hl_nil (by rw [List.drop_zero]; exact hRR.2.2) hcR

theorem ze_rX_wk2 {M : Nat} {T T1 : Nat → ze_T} {hd : Nat → Bool} {mv : Int64} {inp : List ze_Row} {sl : Nat → Option (List ze_Row)} {i j : Nat} (h : ze_rX (M, T, hd, mv) (inp, sl, mv, M)) (hi : i ≠ 8) (hj : j ≠ 8) (hn : i < 8 → sl i = none) (hn2 : j < 8 → sl j = none) (e : ∀ q, q ≠ i → q ≠ j → T1 q = T q) : ze_rX (M, T1, hd, mv) (inp, sl, mv, M) := by
  have h1 := ze_rX_wk (T1 := va_up T i (T1 i)) h hi hn (fun q hq => va_up_ne _ _ hq)
  refine ze_rX_wk (i := j) h1 hj hn2 (fun q hq => ?_)
  by_cases hqi : q = i
  · subst hqi; rw [va_up_self]
  · rw [va_up_ne _ _ hqi]; exact e q hqi hq

set_option maxRecDepth 100000 in
set_option maxHeartbeats 4000000 in
theorem c_X_group (l : Launch) (D : va_G) (ids : Nat → ClassId) (ad : Nat → Nat) (ms : ze_MS) (M : Nat) (T : Nat → ze_T) (hd : Nat → Bool) (mv : Int64) (inp : List ze_Row) (sl : Nat → Option (List ze_Row)) (hR : ze_rX (M, T, hd, mv) (inp, sl, mv, M)) (fr into : Int32) : ze_MX l D ids ad ms y_X_group ws_X_group 20 (M, T, hd, mv) [.ref (ad 0), .int fr, .int into] (fun v x' => v = some (.int (sp_group (inp, sl, mv, M) fr into).1) ∧ ze_rX x' (sp_group (inp, sl, mv, M) fr into).2) := by
  refine ze_enter (cc := b_X_group) (maxL := 8) (ret := (some .int)) (by decide +kernel) rfl (Nat.le_of_ble_eq_true rfl) ?_
  rintro G rfl rfl rfl - C Rt
  refine ze_lv (lv' := [(0, .ref (ad 0)), (1, .int fr), (2, .int into)]) rfl ?_
  obtain ⟨-, hM3, hM6, -, hin, -, -⟩ := id hR
  simp only at hin hM3 hM6
  refine ze_aload_n C d_X_group_0 0 rfl rfl ?_
  refine ze_iload_n C d_X_group_1 1 rfl rfl ?_
  refine ze_iload_n C d_X_group_2 1 rfl rfl ?_
  refine ze_iload_n C d_X_group_3 2 rfl rfl ?_
  refine ze_callV (st := []) C (c_X_refusalOf (ze_l G) (ze_D G) (ze_i G) ad ms M T hd mv fr fr into) (kv_X_90 (ze_rml (by decide) (by decide))) (by decide) ze_E_x rfl (Nat.le_of_ble_eq_true rfl) ⟨Nat.le_of_ble_eq_true rfl, Nat.le_of_ble_eq_true rfl⟩ d_X_group_4 ?_
  rintro _ _ _ _ ⟨rfl, rfl, _, rfl, rfl, rfl⟩
  refine ze_norm (c2 := 0) (s2 := 0) (st' := [.int (ze_rf hd fr fr into)]) rfl rfl rfl ?_
  refine ze_istore_n (lv' := [(3, .int (ze_rf hd fr fr into)), (0, .ref (ad 0)), (1, .int fr), (2, .int into)]) C d_X_group_7 rfl (by decide) rfl ?_
  refine ze_iload_n C d_X_group_8 0 rfl rfl ?_
  refine ze_if_eq 14 C d_X_group_9 (by decide) (fun h9 => ?_) (fun h9 => ?_)
  · obtain ⟨ja, ji, A, hja, hji, rfl, rfl, hne, hA, hI, hHA, hop⟩ := ze_rf_01 hR h9
    have hcA : (T ja).2.2.1 = A.length := hHA.1
    have hA60 : A.length ≤ 60 := hHA.2.1
    refine ze_sub [(0, .ref (ad 0)), (1, .int (nI ja)), (2, .int (nI ji))] [1, 2, 3] rfl ?_
    have hsp : sp_group (inp, sl, mv, M) (nI ja) (nI ji) = sp_fin (inp, sl, mv, M) ji (ze_grp A, ze_gc (ze_rm4 M) A 60 0 + ze_sz (ze_grp A).length) := by rw [sp_group, hop]
    refine ze_aload_n C d_X_group_14 0 rfl rfl ?_
    refine ze_getf C fl_X_24 (by decide) ze_E_x rfl d_X_group_15 ?_
    refine ze_iload_n C d_X_group_18 2 rfl rfl ?_
    refine ze_aald (k := 1) (i := ji) C (by decide) ze_E_tabs (by omega) (by decide) rfl d_X_group_19 ?_
    refine ze_astore (lv' := [(4, .ref (ad (3 + 3 * ji))), (0, .ref (ad 0)), (1, .int (nI ja)), (2, .int (nI ji))]) C d_X_group_20 (by decide) rfl ?_
    refine ze_aload C d_X_group_22 0 rfl ?_
    refine ze_eqE (ze_foc ji) ?_
    refine ze_callV (st := []) C (c_T_clear (ze_l G) (ze_D G) (ze_i G) ad ms M T hd mv ji (by omega) (T ji).1 (T ji).2.1 (T ji).2.2.1 (T ji).2.2.2 ) (kv_X_65 (ze_rml (by decide) (by decide))) (by omega) (ze_F_t (i := ji) (by omega)) rfl (Nat.le_of_ble_eq_true rfl) ⟨Nat.le_of_ble_eq_true rfl, Nat.le_of_ble_eq_true rfl⟩ d_X_group_24 ?_
    rintro _ _ _ _ ⟨rfl, rfl, _, rfl, rfl, rfl⟩
    refine ze_genT (fun T1 eT1 => ?_)
    refine ze_norm (c2 := 0) (s2 := 0) (st' := []) rfl rfl rfl ?_
    have hu1 := ze_Hu_clr eT1
    have hHA1 : ze_H (T1 ja) A := by rw [ze_upo eT1 ja (by omega)]; exact hHA
    have hcA1 : (T1 ja).2.2.1 = A.length := hHA1.1
    refine ze_aload_n C d_X_group_27 1 rfl rfl ?_
    refine ze_getf C fl_X_37 (by decide) ze_E_x rfl d_X_group_28 ?_
    refine ze_aload_n C d_X_group_31 1 rfl rfl ?_
    refine ze_getf C fl_X_24 (by decide) ze_E_x rfl d_X_group_32 ?_
    refine ze_iload_n C d_X_group_35 2 rfl rfl ?_
    refine ze_aald (k := 1) (i := ja) C (by decide) ze_E_tabs (by omega) (by decide) rfl d_X_group_36 ?_
    refine ze_eqE (ze_foc 9) ?_
    refine ze_callV (st := []) C (c_T_copyFrom (ze_l G) (ze_D G) (ze_i G) ad ms M T1 hd mv 9 (by omega) (T1 9).1 (T1 9).2.1 (T1 9).2.2.1 (T1 9).2.2.2 ja (by omega) (by omega) (by omega)) (kv_X_61 (ze_rml (by decide) (by decide))) (by decide) (ze_F_t (i := 9) (by omega)) rfl (Nat.le_of_ble_eq_true rfl) ⟨Nat.le_of_ble_eq_true rfl, Nat.le_of_ble_eq_true rfl⟩ d_X_group_37 ?_
    rintro _ _ _ _ ⟨rfl, rfl, _, rfl, rfl, rfl⟩
    refine ze_genT (fun T2 eT2 => ?_)
    refine ze_norm (c2 := 0) (s2 := 0) (st' := []) rfl rfl rfl ?_
    have hA2 := (ze_H_cpy hHA1 eT2).1
    refine ze_lconst (v := lN 0) C d_X_group_40 (by decide) ?_
    refine ze_lstore (lv' := [(5, .long (lN 0)), (4, .ref (ad (3 + 3 * ji))), (0, .ref (ad 0)), (1, .int (nI ja)), (2, .int (nI ji))]) C d_X_group_41 (by decide) rfl ?_
    refine ze_iconst (v := nI 0) C d_X_group_43 (by decide) ?_
    refine ze_istore (lv' := [(7, .int (nI 0)), (5, .long (lN 0)), (4, .ref (ad (3 + 3 * ji))), (0, .ref (ad 0)), (1, .int (nI ja)), (2, .int (nI ji))]) C d_X_group_44 (by decide) rfl ?_
    refine ze_sub [(7, .int (nI 0)), (5, .long (lN 0)), (4, .ref (ad (3 + 3 * ji))), (0, .ref (ad 0)), (1, .int (nI ja)), (2, .int (nI ji))] [0, 1, 2, 3, 4, 5] rfl ?_
    have he : 4 ≤ ze_rm4 M := by unfold ze_rm4; omega
    have hdk : (ze_dk A).length ≤ 60 := Nat.le_trans (ze_dk_len A) hA60
    have loop : ∀ (r d cst : Nat) (T3 : Nat → ze_T), 60 - d = r → d ≤ 60 → cst + ze_gc (ze_rm4 M) A (60 - d) (d * ze_rm4 M) = ze_gc (ze_rm4 M) A 60 0 → (∀ z, z ≠ ji → z ≠ 9 → T3 z = T z) → ze_Hu (T3 ji) ((ze_grp A).take (d * ze_rm4 M)) → ze_H (T3 9) (ze_lf A (d * ze_rm4 M)) → ze_V G 48 ad (ze_E (ze_i G) ad (M, T3, hd, mv) ms) 0 0 46 [(7, .int (nI d)), (5, .long (lN cst)), (4, .ref (ad (3 + 3 * ji))), (0, .ref (ad 0)), (1, .int (nI ja)), (2, .int (nI ji))] [] := by
      intro r
      induction r using Nat.strongRecOn with
      | ind r ih =>
        intro d cst T3 hr g1 g2 g3 g4 g5
        have hc9 : (T3 9).2.2.1 = (ze_lf A (d * ze_rm4 M)).length := g5.1
        have h960 := g5.2.1
        have hm3 := ze_Hu_le g4
        refine ze_iload C d_X_group_46 0 rfl ?_
        refine ze_bipush (v := nI 60) C d_X_group_48 (by decide) ?_
        refine ze_icmp_geN 111 C d_X_group_50 (by decide) (by omega) (by omega) (fun h50 => ?_) (fun h50 => ?_)
        · have hall : (ze_dk A).length ≤ d * ze_rm4 M := Nat.le_trans hdk (by rw [show d = 60 by omega]; omega)
          have hcst : cst = ze_gc (ze_rm4 M) A 60 0 := by rw [← g2, show 60 - d = 0 by omega]; rfl
          rw [List.take_of_length_le (by rw [ze_grp_len]; exact hall)] at g4
          have hR3 := ze_rX_wk2 hR (by omega) (by decide) (fun _ => hI) (fun h => absurd h (by decide)) g3
          refine ze_aload_n C d_X_group_111 3 rfl rfl ?_
          refine ze_iload_n C d_X_group_112 5 rfl rfl ?_
          refine ze_lload C d_X_group_113 1 rfl ?_
          refine ze_aload C d_X_group_115 2 rfl ?_
          refine ze_getf (k := 3 + 3 * ji) C fl_X_50 (by omega) (ze_E_t (i := ji) (by omega)) rfl d_X_group_117 ?_
          refine ze_callS (st := [.long (lN cst), .int (nI ji), .ref (ad 0)]) C (c_X_sizeOf (ze_l G) (ze_D G) (ze_i G) _ _ _ ((T3 ji).2.2.1) (by omega)) (ks_X_68 (ze_rml (by decide) (by decide))) rfl (Nat.le_of_ble_eq_true rfl) ⟨Nat.le_of_ble_eq_true rfl, Nat.le_of_ble_eq_true rfl⟩ d_X_group_120 ?_
          rintro _ _ _ _ ⟨rfl, rfl, rfl, rfl⟩
          refine ze_norm (c2 := 0) (s2 := 0) (st' := [.int (nI (ze_sz ((T3 ji).2.2.1))), .long (lN cst), .int (nI ji), .ref (ad 0)]) rfl rfl rfl ?_
          have hz120 := ze_sz_le ((T3 ji).2.2.1)
          refine ze_i2lN C d_X_group_123 (by omega) ?_
          refine ze_laddN C d_X_group_124 ?_
          refine ze_callV (st := []) C (c_X_finish (ze_l G) (ze_D G) (ze_i G) ad ms M T3 hd mv ji (by omega) (lN (cst + (ze_sz ((T3 ji).2.2.1))))) (kv_X_72 (ze_rml (by decide) (by decide))) (by decide) ze_E_x rfl (Nat.le_of_ble_eq_true rfl) ⟨Nat.le_of_ble_eq_true rfl, Nat.le_of_ble_eq_true rfl⟩ d_X_group_125 ?_
          rintro _ _ _ _ ⟨rfl, rfl, x', rfl, hfin⟩
          obtain ⟨r, rfl, hr1, hr2⟩ := ze_op_end (q := (ze_grp A, ze_gc (ze_rm4 M) A 60 0 + ze_sz (ze_grp A).length)) hR3 hji g4 (fun z => by rw [hcst, (ze_Hu_H g4 z).1]) hfin
          refine ze_norm (c2 := 0) (s2 := 0) (st' := [.int r]) rfl rfl rfl ?_
          exact ze_iret C Rt d_X_group_128 ⟨rfl, rfl, _, rfl, by rw [hsp, hr1], by rw [hsp]; exact hr2⟩
        · refine ze_aload_n C d_X_group_53 3 rfl rfl ?_
          refine ze_getf C fl_X_37 (by decide) ze_E_x rfl d_X_group_54 ?_
          refine ze_getf (k := 3 + 3 * 9) C fl_X_50 (by decide) (ze_E_t (i := 9) (by omega)) rfl d_X_group_57 ?_
          refine ze_if_leN 111 C d_X_group_60 (by decide) (by omega) (fun h60 => ?_) (fun h60 => ?_)
          · have hnil : ze_lf A (d * ze_rm4 M) = [] := List.eq_nil_of_length_eq_zero (by omega)
            have hall := ze_lf_nil.mp hnil
            have hcst : cst = ze_gc (ze_rm4 M) A 60 0 := by rw [← g2, show 60 - d = (59 - d) + 1 by omega, ze_gc, if_neg (by omega)]; rfl
            rw [List.take_of_length_le (by rw [ze_grp_len]; exact hall)] at g4
            have hR3 := ze_rX_wk2 hR (by omega) (by decide) (fun _ => hI) (fun h => absurd h (by decide)) g3
            refine ze_aload_n C d_X_group_111 3 rfl rfl ?_
            refine ze_iload_n C d_X_group_112 5 rfl rfl ?_
            refine ze_lload C d_X_group_113 1 rfl ?_
            refine ze_aload C d_X_group_115 2 rfl ?_
            refine ze_getf (k := 3 + 3 * ji) C fl_X_50 (by omega) (ze_E_t (i := ji) (by omega)) rfl d_X_group_117 ?_
            refine ze_callS (st := [.long (lN cst), .int (nI ji), .ref (ad 0)]) C (c_X_sizeOf (ze_l G) (ze_D G) (ze_i G) _ _ _ ((T3 ji).2.2.1) (by omega)) (ks_X_68 (ze_rml (by decide) (by decide))) rfl (Nat.le_of_ble_eq_true rfl) ⟨Nat.le_of_ble_eq_true rfl, Nat.le_of_ble_eq_true rfl⟩ d_X_group_120 ?_
            rintro _ _ _ _ ⟨rfl, rfl, rfl, rfl⟩
            refine ze_norm (c2 := 0) (s2 := 0) (st' := [.int (nI (ze_sz ((T3 ji).2.2.1))), .long (lN cst), .int (nI ji), .ref (ad 0)]) rfl rfl rfl ?_
            have hz120 := ze_sz_le ((T3 ji).2.2.1)
            refine ze_i2lN C d_X_group_123 (by omega) ?_
            refine ze_laddN C d_X_group_124 ?_
            refine ze_callV (st := []) C (c_X_finish (ze_l G) (ze_D G) (ze_i G) ad ms M T3 hd mv ji (by omega) (lN (cst + (ze_sz ((T3 ji).2.2.1))))) (kv_X_72 (ze_rml (by decide) (by decide))) (by decide) ze_E_x rfl (Nat.le_of_ble_eq_true rfl) ⟨Nat.le_of_ble_eq_true rfl, Nat.le_of_ble_eq_true rfl⟩ d_X_group_125 ?_
            rintro _ _ _ _ ⟨rfl, rfl, x', rfl, hfin⟩
            obtain ⟨r, rfl, hr1, hr2⟩ := ze_op_end (q := (ze_grp A, ze_gc (ze_rm4 M) A 60 0 + ze_sz (ze_grp A).length)) hR3 hji g4 (fun z => by rw [hcst, (ze_Hu_H g4 z).1]) hfin
            refine ze_norm (c2 := 0) (s2 := 0) (st' := [.int r]) rfl rfl rfl ?_
            exact ze_iret C Rt d_X_group_128 ⟨rfl, rfl, _, rfl, by rw [hsp, hr1], by rw [hsp]; exact hr2⟩
          · have hlt : d * ze_rm4 M < (ze_dk A).length := Nat.lt_of_not_le (fun z => by rw [ze_lf_nil.mpr z] at hc9; simp at hc9; omega)
            refine ze_lload C d_X_group_63 1 rfl ?_
            refine ze_aload_n C d_X_group_65 3 rfl rfl ?_
            refine ze_getf C fl_X_37 (by decide) ze_E_x rfl d_X_group_66 ?_
            refine ze_getf (k := 3 + 3 * 9) C fl_X_50 (by decide) (ze_E_t (i := 9) (by omega)) rfl d_X_group_69 ?_
            refine ze_callS (st := [.long (lN cst)]) C (c_X_sizeOf (ze_l G) (ze_D G) (ze_i G) _ _ _ ((T3 9).2.2.1) (by omega)) (ks_X_68 (ze_rml (by decide) (by decide))) rfl (Nat.le_of_ble_eq_true rfl) ⟨Nat.le_of_ble_eq_true rfl, Nat.le_of_ble_eq_true rfl⟩ d_X_group_72 ?_
            rintro _ _ _ _ ⟨rfl, rfl, rfl, rfl⟩
            refine ze_norm (c2 := 0) (s2 := 0) (st' := [.int (nI (ze_sz ((T3 9).2.2.1))), .long (lN cst)]) rfl rfl rfl ?_
            have hz72 := ze_sz_le ((T3 9).2.2.1)
            refine ze_i2lN C d_X_group_75 (by omega) ?_
            refine ze_laddN C d_X_group_76 ?_
            refine ze_lstore (lv' := [(5, .long (lN (cst + (ze_sz ((T3 9).2.2.1))))), (7, .int (nI d)), (4, .ref (ad (3 + 3 * ji))), (0, .ref (ad 0)), (1, .int (nI ja)), (2, .int (nI ji))]) C d_X_group_77 (by decide) rfl ?_
            refine ze_aload_n C d_X_group_79 3 rfl rfl ?_
            refine ze_aload_n C d_X_group_80 3 rfl rfl ?_
            refine ze_getf C fl_X_37 (by decide) ze_E_x rfl d_X_group_81 ?_
            refine ze_aload C d_X_group_84 2 rfl ?_
            refine ze_callV (st := []) C (c_X_groupOneRound (ze_l G) (ze_D G) (ze_i G) ad ms M T3 hd mv ⟨hM3, hM6⟩ (ze_lf A (d * ze_rm4 M)) ((ze_grp A).take (d * ze_rm4 M)) g5 ji hji g4 (by rw [List.length_take, ze_grp_len, ze_dk_lf, List.length_drop]; omega)) (kv_X_105 (ze_rml (by decide) (by decide))) (by decide) ze_E_x rfl (Nat.le_of_ble_eq_true rfl) ⟨Nat.le_of_ble_eq_true rfl, Nat.le_of_ble_eq_true rfl⟩ d_X_group_86 ?_
            rintro _ _ _ _ ⟨rfl, rfl, _, rfl, rfl, T4, rfl, oT4, hu4, h94⟩
            refine ze_norm (c2 := 0) (s2 := 0) (st' := []) rfl rfl rfl ?_
            have h946 := h94.2.1
            have hc94 := h94.1
            refine ze_lload C d_X_group_89 0 rfl ?_
            refine ze_aload_n C d_X_group_91 3 rfl rfl ?_
            refine ze_getf C fl_X_37 (by decide) ze_E_x rfl d_X_group_92 ?_
            refine ze_getf (k := 3 + 3 * 9) C fl_X_50 (by decide) (ze_E_t (i := 9) (by omega)) rfl d_X_group_95 ?_
            refine ze_callS (st := [.long (lN (cst + (ze_sz ((T3 9).2.2.1))))]) C (c_X_sizeOf (ze_l G) (ze_D G) (ze_i G) _ _ _ ((T4 9).2.2.1) (by omega)) (ks_X_68 (ze_rml (by decide) (by decide))) rfl (Nat.le_of_ble_eq_true rfl) ⟨Nat.le_of_ble_eq_true rfl, Nat.le_of_ble_eq_true rfl⟩ d_X_group_98 ?_
            rintro _ _ _ _ ⟨rfl, rfl, rfl, rfl⟩
            refine ze_norm (c2 := 0) (s2 := 0) (st' := [.int (nI (ze_sz ((T4 9).2.2.1))), .long (lN (cst + (ze_sz ((T3 9).2.2.1))))]) rfl rfl rfl ?_
            have hz98 := ze_sz_le ((T4 9).2.2.1)
            refine ze_i2lN C d_X_group_101 (by omega) ?_
            refine ze_laddN C d_X_group_102 ?_
            refine ze_lstore (lv' := [(5, .long (lN (cst + (ze_sz ((T3 9).2.2.1)) + (ze_sz ((T4 9).2.2.1))))), (7, .int (nI d)), (4, .ref (ad (3 + 3 * ji))), (0, .ref (ad 0)), (1, .int (nI ja)), (2, .int (nI ji))]) C d_X_group_103 (by decide) rfl ?_
            refine ze_iinc (j := 1) (v := nI (d + 1)) (lv' := [(7, .int (nI (d + 1))), (5, .long (lN (cst + (ze_sz ((T3 9).2.2.1)) + (ze_sz ((T4 9).2.2.1))))), (4, .ref (ad (3 + 3 * ji))), (0, .ref (ad 0)), (1, .int (nI ja)), (2, .int (nI ji))]) C d_X_group_105 rfl (nI_1 _) (by decide) rfl ?_
            refine ze_goto 46 C d_X_group_108 (by decide) ?_
            refine ze_sub [(7, .int (nI (d + 1))), (5, .long (lN (cst + ze_sz (T3 9).2.2.1 + ze_sz (T4 9).2.2.1))), (4, .ref (ad (3 + 3 * ji))), (0, .ref (ad 0)), (1, .int (nI ja)), (2, .int (nI ji))] [0, 1, 2, 3, 4, 5] rfl ?_
            have hqe : (d + 1) * ze_rm4 M = d * ze_rm4 M + ze_rm4 M := Nat.succ_mul _ _
            refine ih (60 - (d + 1)) (by omega) (d + 1) _ T4 rfl (by omega) ?_ (fun z z1 z2 => (oT4 z z1 z2).trans (g3 z z1 z2)) (by rw [hqe, ← ze_gS_lf]; exact hu4) (by rw [hqe, ← ze_gR_lf]; exact h94)
            rw [← g2, show 60 - d = (60 - (d + 1)) + 1 by omega, ze_gc, if_pos hlt, hqe, hc9, h94.1, ze_gR_lf]
            omega
    exact loop _ 0 0 T2 rfl (Nat.zero_le _) (by rw [Nat.zero_add, Nat.zero_mul]) (fun z z1 z2 => (ze_upo eT2 z z2).trans (ze_upo eT1 z z1)) (by rw [Nat.zero_mul, List.take_zero, ze_upo eT2 ji (by omega)]; exact hu1) (by rw [Nat.zero_mul, ze_lf_0]; exact hA2)
  · refine ze_iload_n C d_X_group_12 0 rfl rfl ?_
    exact ze_iret C Rt d_X_group_13 (⟨rfl, rfl, _, rfl, by rw [sp_group, ze_rf_ne hR h9], by rw [sp_group, ze_rf_ne hR h9]; exact hR⟩)
