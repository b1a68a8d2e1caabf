/-- the join of the rows of a path -/
def ze_Jn (M : Nat) (A B : List ze_Row) (pt : List Nat) : List ze_Row × Nat := ze_jn M (3 - pt.length) (ze_fl M pt (fun r => r.2) A) (ze_fl M pt (fun r => r.1) B)
/-- the parts p, p + 1 .. below a path, n of them -/
def ze_sj (M : Nat) (A B : List ze_Row) (P : List Nat) : Nat → Nat → List ze_Row × Nat
  | 0, _ => ([], 0)
  | n + 1, p => ((ze_Jn M A B (P ++ [p])).1 ++ (ze_sj M A B P n (p + 1)).1, (ze_Jn M A B (P ++ [p])).2 + (ze_sj M A B P n (p + 1)).2)
theorem ze_sj_rows (M : Nat) (A B : List ze_Row) (P : List Nat) : ∀ n p : Nat, (List.range' p n).flatMap (fun q => (ze_Jn M A B (P ++ [q])).1) = (ze_sj M A B P n p).1
  | 0, p => rfl
  | n + 1, p => by
    rw [List.range'_succ, List.flatMap_cons, ze_sj_rows M A B P n (p + 1)]
    rfl
theorem ze_sj_cost (M : Nat) (A B : List ze_Row) (P : List Nat) : ∀ n p : Nat, ((List.range' p n).map (fun q => (ze_Jn M A B (P ++ [q])).2)).sum = (ze_sj M A B P n p).2
  | 0, p => rfl
  | n + 1, p => by
    rw [List.range'_succ, List.map_cons, List.sum_cons, ze_sj_cost M A B P n (p + 1)]
    rfl
theorem ze_Jn_leaf {M : Nat} {A B : List ze_Row} {pt : List Nat} (h : ¬ (ze_fl M pt (fun r => r.2) A = [] ∨ ze_fl M pt (fun r => r.1) B = [])) (hk : pt.length = 3 ∨ (ze_fl M pt (fun r => r.1) B).length ≤ ze_rm4 M) : ze_Jn M A B pt = (ze_jc (ze_rm4 M) (ze_fl M pt (fun r => r.2) A) (ze_fl M pt (fun r => r.1) B).length (ze_fl M pt (fun r => r.1) B), ze_sz (ze_fl M pt (fun r => r.1) B).length + ((ze_fl M pt (fun r => r.1) B).length + ze_rm4 M - 1) / ze_rm4 M * ze_sz (ze_fl M pt (fun r => r.2) A).length) := by
  unfold ze_Jn
  exact ze_jn_leaf h (hk.imp (fun z => by omega) id)
/-- the cost of a node, without its parts' -/
def ze_nc (M : Nat) (A B : List ze_Row) (pt : List Nat) (p : Nat) : Nat := ((List.range p).map (fun q => ze_sz (ze_fl M (pt ++ [q]) (fun r => r.2) A).length + ze_sz (ze_fl M (pt ++ [q]) (fun r => r.1) B).length)).sum
theorem ze_nc_succ (M : Nat) (A B : List ze_Row) (pt : List Nat) (p : Nat) : ze_nc M A B pt (p + 1) = ze_nc M A B pt p + (ze_sz (ze_fl M (pt ++ [p]) (fun r => r.2) A).length + ze_sz (ze_fl M (pt ++ [p]) (fun r => r.1) B).length) := by
  unfold ze_nc
  rw [List.range_succ, List.map_append, List.sum_append]
  simp
theorem ze_sum_add (f g : Nat → Nat) : ∀ L : List Nat, (L.map (fun q => f q + g q)).sum = (L.map f).sum + (L.map g).sum
  | [] => rfl
  | a :: L => by
    simp only [List.map_cons, List.sum_cons, ze_sum_add f g L]
    omega
theorem ze_Jn_node {M : Nat} {A B : List ze_Row} {pt : List Nat} (h : ¬ (ze_fl M pt (fun r => r.2) A = [] ∨ ze_fl M pt (fun r => r.1) B = [])) (hl : pt.length < 3) (hr : ¬ (ze_fl M pt (fun r => r.1) B).length ≤ ze_rm4 M) : (ze_Jn M A B pt).1 = (ze_sj M A B pt (M - 1) 0).1 ∧ (ze_Jn M A B pt).2 = ze_sz (ze_fl M pt (fun r => r.2) A).length + ze_sz (ze_fl M pt (fun r => r.1) B).length + ze_nc M A B pt (M - 1) + (ze_sj M A B pt (M - 1) 0).2 := by
  have hk : 3 - pt.length = (2 - pt.length) + 1 := by omega
  have hk2 : 2 - (2 - pt.length) = pt.length := by omega
  have hc : ∀ q, ze_Jn M A B (pt ++ [q]) = ze_jn M (2 - pt.length) (ze_pt M pt.length q (fun r => r.2) (ze_fl M pt (fun r => r.2) A)) (ze_pt M pt.length q (fun r => r.1) (ze_fl M pt (fun r => r.1) B)) := by
    intro q
    unfold ze_Jn
    rw [ze_fl_snoc, ze_fl_snoc, List.length_append, List.length_singleton, show 3 - (pt.length + 1) = 2 - pt.length by omega]
  have hj : ze_Jn M A B pt = ((List.range (M - 1)).flatMap (fun q => (ze_Jn M A B (pt ++ [q])).1), ze_sz (ze_fl M pt (fun r => r.2) A).length + ze_sz (ze_fl M pt (fun r => r.1) B).length + ((List.range (M - 1)).map (fun q => ze_sz (ze_fl M (pt ++ [q]) (fun r => r.2) A).length + ze_sz (ze_fl M (pt ++ [q]) (fun r => r.1) B).length + (ze_Jn M A B (pt ++ [q])).2)).sum) := by
    simp only [hc, ze_fl_snoc]
    unfold ze_Jn
    rw [hk, ze_jn, if_neg h, if_neg hr, hk2]
  constructor
  · rw [← ze_sj_rows, ← List.range_eq_range', hj]
  · rw [← ze_sj_cost, ← List.range_eq_range', hj]
    show ze_sz (ze_fl M pt (fun r => r.2) A).length + ze_sz (ze_fl M pt (fun r => r.1) B).length + _ = _
    rw [ze_sum_add (fun q => ze_sz (ze_fl M (pt ++ [q]) (fun r => r.2) A).length + ze_sz (ze_fl M (pt ++ [q]) (fun r => r.1) B).length) (fun q => (ze_Jn M A B (pt ++ [q])).2)]
    exact (Nat.add_assoc _ _ _).symm

set_option maxRecDepth 100000 in
set_option maxHeartbeats 4000000 in
theorem c_M_visit (l : Launch) (D : va_G) (ids : Nat → ClassId) (ad : Nat → Nat) (x : ze_XS) (M : Nat) (mv : Int64) (ty ma co le : Nat) (Ar : Nat → Nat → Int32) (hM : 3 ≤ M ∧ M ≤ 6) (A : List ze_Row) (ja : Nat) (hja : ja < 8) (hA60 : A.length ≤ 60) (hcA : Ar 2 ja = nI A.length) (hHA : ze_Hl (Ar 3) (Ar 4) (60 * ja) A) (B : List ze_Row) (jb : Nat) (hjb : jb < 8) (hB60 : B.length ≤ 60) (hcB : Ar 2 jb = nI B.length) (hHB : ze_Hl (Ar 3) (Ar 4) (60 * jb) B) (pt : List Nat) (hle : le = pt.length) (hpt : pt.length ≤ 3) (hpd : ∀ d, d < pt.length → pt.getD d 0 < 10) (hph : ze_ph Ar pt) (L0 : List ze_Row) (hk : ze_Mk Ar ma L0) (hbd : L0.length + (ze_Jn M A B pt).1.length ≤ 10000) : ze_MM l D ids ad x y_M_visit ws_M_visit 6 (M, mv, ty, ma, co, le, Ar) [.ref (ad 39), .int (nI ja), .int (nI jb)] (fun w ms' => ∃ b m' c' A', w = some (.int (ze_bi b)) ∧ ms' = (M, mv, ty, m', c', le, A') ∧ (∀ z, z ≠ 5 → z ≠ 6 → A' z = Ar z) ∧ (b = false → ze_Mk A' m' (L0 ++ (ze_Jn M A B pt).1) ∧ c' = co + (ze_Jn M A B pt).2) ∧ (b = true → pt.length < 3 ∧ ze_Mk A' m' L0 ∧ (ze_Jn M A B pt).1 = (ze_sj M A B pt (M - 1) 0).1 ∧ co + (ze_Jn M A B pt).2 = c' + (ze_sj M A B pt (M - 1) 0).2)) := by
  refine ze_enter (cc := b_M_visit) (maxL := 9) (ret := (some .boolean)) (by decide +kernel) rfl (Nat.le_of_ble_eq_true rfl) ?_
  rintro G rfl rfl rfl - C Rt
  refine ze_lv (lv' := [(0, .ref (ad 39)), (1, .int (nI ja)), (2, .int (nI jb))]) rfl ?_
  have hw : 4 ≤ ze_rm4 M ∧ ze_rm4 M ≤ 16 := by unfold ze_rm4; omega
  have hr4 : 4 * (M - 2) = ze_rm4 M := rfl
  have hlA0 := ze_fl_len M pt (fun r => r.2) A
  have hlB0 := ze_fl_len M pt (fun r => r.1) B
  refine ze_aload_n C d_M_visit_0 0 rfl rfl ?_
  refine ze_iload_n C d_M_visit_1 1 rfl rfl ?_
  refine ze_iconst (v := ze_bi true) C d_M_visit_2 (by decide) ?_
  refine ze_iconst (v := -1) C d_M_visit_3 (by decide) ?_
  refine ze_callV (st := []) C (c_M_many_A (ze_l G) (ze_D G) (ze_i G) ad x M mv ty ma co le Ar hM A ja hja hA60 hcA hHA pt hle hpt hpd hph) (kv_M_107 (ze_rml (by decide) (by decide))) (by decide) ze_E_m rfl (Nat.le_of_ble_eq_true rfl) ⟨Nat.le_of_ble_eq_true rfl, Nat.le_of_ble_eq_true rfl⟩ d_M_visit_4 ?_
  rintro _ _ _ _ ⟨rfl, rfl, _, rfl, rfl, rfl⟩
  refine ze_norm (c2 := 0) (s2 := 0) (st' := [.int (nI ((ze_fl M pt (fun r => r.2) A).length))]) rfl rfl rfl ?_
  refine ze_istore_n (lv' := [(3, .int (nI ((ze_fl M pt (fun r => r.2) A).length))), (0, .ref (ad 39)), (1, .int (nI ja)), (2, .int (nI jb))]) C d_M_visit_7 rfl (by decide) rfl ?_
  refine ze_aload_n C d_M_visit_8 1 rfl rfl ?_
  refine ze_iload_n C d_M_visit_9 3 rfl rfl ?_
  refine ze_iconst (v := ze_bi false) C d_M_visit_10 (by decide) ?_
  refine ze_iconst (v := -1) C d_M_visit_11 (by decide) ?_
  refine ze_callV (st := []) C (c_M_many_B (ze_l G) (ze_D G) (ze_i G) ad x M mv ty ma co le Ar hM B jb hjb hB60 hcB hHB pt hle hpt hpd hph) (kv_M_107 (ze_rml (by decide) (by decide))) (by decide) ze_E_m rfl (Nat.le_of_ble_eq_true rfl) ⟨Nat.le_of_ble_eq_true rfl, Nat.le_of_ble_eq_true rfl⟩ d_M_visit_12 ?_
  rintro _ _ _ _ ⟨rfl, rfl, _, rfl, rfl, rfl⟩
  refine ze_norm (c2 := 0) (s2 := 0) (st' := [.int (nI ((ze_fl M pt (fun r => r.1) B).length))]) rfl rfl rfl ?_
  refine ze_istore (lv' := [(4, .int (nI ((ze_fl M pt (fun r => r.1) B).length))), (3, .int (nI ((ze_fl M pt (fun r => r.2) A).length))), (0, .ref (ad 39)), (1, .int (nI ja)), (2, .int (nI jb))]) C d_M_visit_15 (by decide) rfl ?_
  refine ze_iconst (v := nI 4) C d_M_visit_17 (by decide) ?_
  refine ze_aload_n C d_M_visit_18 2 rfl rfl ?_
  refine ze_getf (k := 39) C fl_M_34 (by decide) ze_E_m rfl d_M_visit_19 ?_
  refine ze_iconst (v := nI 2) C d_M_visit_22 (by decide) ?_
  refine ze_isubN C d_M_visit_23 (by omega) ?_
  refine ze_imulN C d_M_visit_24 ?_
  refine ze_istore (lv' := [(5, .int (nI (4 * (M - 2)))), (4, .int (nI ((ze_fl M pt (fun r => r.1) B).length))), (3, .int (nI ((ze_fl M pt (fun r => r.2) A).length))), (0, .ref (ad 39)), (1, .int (nI ja)), (2, .int (nI jb))]) C d_M_visit_25 (by decide) rfl ?_
  refine ze_iload_n C d_M_visit_27 2 rfl rfl ?_
  refine ze_if_eqN 36 C d_M_visit_28 (by decide) (by omega) (fun h28 => ?_) (fun h28 => ?_)
  · have hj0 : ze_Jn M A B pt = ([], 0) := ze_jn_nil (Or.inl (List.eq_nil_of_length_eq_zero h28))
    refine ze_iconst (v := ze_bi false) C d_M_visit_36 (by decide) ?_
    exact ze_zret C Rt (by decide) d_M_visit_37 (⟨rfl, rfl, _, rfl, false, ma, co, Ar, rfl, rfl, fun _ _ _ => rfl, fun _ => ⟨by rw [hj0, List.append_nil]; exact hk, by rw [hj0]; rfl⟩, fun z => absurd z (by decide)⟩)
  · refine ze_iload C d_M_visit_31 1 rfl ?_
    refine ze_if_neN 38 C d_M_visit_33 (by decide) (by omega) (fun h33 => ?_) (fun h33 => ?_)
    · have hne : ¬ (ze_fl M pt (fun r => r.2) A = [] ∨ ze_fl M pt (fun r => r.1) B = []) := fun z => z.elim (fun z => h28 (by rw [z]; rfl)) (fun z => h33 (by rw [z]; rfl))
      refine ze_iload C d_M_visit_38 1 rfl ?_
      refine ze_iload C d_M_visit_40 0 rfl ?_
      refine ze_icmp_leN 53 C d_M_visit_42 (by decide) (by omega) (by omega) (fun h42 => ?_) (fun h42 => ?_)
      · refine ze_aload_n C d_M_visit_53 3 rfl rfl ?_
        refine ze_iload_n C d_M_visit_54 4 rfl rfl ?_
        refine ze_iload_n C d_M_visit_55 5 rfl rfl ?_
        refine ze_iload C d_M_visit_56 0 rfl ?_
        have hlf := ze_Jn_leaf hne (Or.inr h42)
        refine ze_callV (st := []) C (c_M_chunks (ze_l G) (ze_D G) (ze_i G) ad x M mv ty ma co le Ar hM A ja hja hA60 hcA hHA B jb hjb hB60 hcB hHB pt hle hpt hpd hph L0 hk (by rw [hlf] at hbd; exact hbd)) (kv_M_115 (ze_rml (by decide) (by decide))) (by decide) ze_E_m rfl (Nat.le_of_ble_eq_true rfl) ⟨Nat.le_of_ble_eq_true rfl, Nat.le_of_ble_eq_true rfl⟩ d_M_visit_58 ?_
        rintro _ _ _ _ ⟨rfl, rfl, _, rfl, rfl, m', A', rfl, hk', o'⟩
        refine ze_norm (c2 := 0) (s2 := 0) (st' := []) rfl rfl rfl ?_
        refine ze_iconst (v := ze_bi false) C d_M_visit_61 (by decide) ?_
        exact ze_zret C Rt (by decide) d_M_visit_62 (⟨rfl, rfl, _, rfl, false, m', _, A', rfl, rfl, o', fun _ => ⟨by rw [hlf]; exact hk', by rw [hlf]⟩, fun z => absurd z (by decide)⟩)
      · refine ze_aload_n C d_M_visit_45 3 rfl rfl ?_
        refine ze_getf (k := 39) C fl_M_98 (by decide) ze_E_m rfl d_M_visit_46 ?_
        refine ze_iconst (v := nI 3) C d_M_visit_49 (by decide) ?_
        refine ze_icmp_neN 63 C d_M_visit_50 (by decide) (by omega) (by omega) (fun h50 => ?_) (fun h50 => ?_)
        · refine ze_aload_n C d_M_visit_63 3 rfl rfl ?_
          refine ze_aload_n C d_M_visit_64 3 rfl rfl ?_
          refine ze_getf (k := 39) C fl_M_58 (by decide) ze_E_m rfl d_M_visit_65 ?_
          refine ze_iload_n C d_M_visit_68 2 rfl rfl ?_
          refine ze_callS (st := [.long (lN co), .ref (ad 39)]) C (c_M_size (ze_l G) (ze_D G) (ze_i G) _ _ _ ((ze_fl M pt (fun r => r.2) A).length) (by omega)) (ks_M_38 (ze_rml (by decide) (by decide))) rfl (Nat.le_of_ble_eq_true rfl) ⟨Nat.le_of_ble_eq_true rfl, Nat.le_of_ble_eq_true rfl⟩ d_M_visit_69 ?_
          rintro _ _ _ _ ⟨rfl, rfl, rfl, rfl⟩
          refine ze_norm (c2 := 0) (s2 := 0) (st' := [.int (nI (ze_sz ((ze_fl M pt (fun r => r.2) A).length))), .long (lN co), .ref (ad 39)]) rfl rfl rfl ?_
          have hz69 := ze_sz_le ((ze_fl M pt (fun r => r.2) A).length)
          refine ze_i2lN C d_M_visit_72 (by omega) ?_
          refine ze_laddN C d_M_visit_73 ?_
          refine ze_iload C d_M_visit_74 1 rfl ?_
          refine ze_callS (st := [.long (lN (co + (ze_sz ((ze_fl M pt (fun r => r.2) A).length)))), .ref (ad 39)]) C (c_M_size (ze_l G) (ze_D G) (ze_i G) _ _ _ ((ze_fl M pt (fun r => r.1) B).length) (by omega)) (ks_M_38 (ze_rml (by decide) (by decide))) rfl (Nat.le_of_ble_eq_true rfl) ⟨Nat.le_of_ble_eq_true rfl, Nat.le_of_ble_eq_true rfl⟩ d_M_visit_76 ?_
          rintro _ _ _ _ ⟨rfl, rfl, rfl, rfl⟩
          refine ze_norm (c2 := 0) (s2 := 0) (st' := [.int (nI (ze_sz ((ze_fl M pt (fun r => r.1) B).length))), .long (lN (co + (ze_sz ((ze_fl M pt (fun r => r.2) A).length)))), .ref (ad 39)]) rfl rfl rfl ?_
          have hz76 := ze_sz_le ((ze_fl M pt (fun r => r.1) B).length)
          refine ze_i2lN C d_M_visit_79 (by omega) ?_
          refine ze_laddN C d_M_visit_80 ?_
          refine ze_putf (k := 39) C fp_M_58 (by decide) ze_E_m rfl rfl (Nat.le_of_ble_eq_true rfl) d_M_visit_81 ?_
          refine ze_eqE (ze_up_m (ms' := (M, mv, ty, ma, co + (ze_sz ((ze_fl M pt (fun r => r.2) A).length)) + (ze_sz ((ze_fl M pt (fun r => r.1) B).length)), le, Ar)) rfl rfl) ?_
          refine ze_iconst (v := nI 0) C d_M_visit_84 (by decide) ?_
          refine ze_istore (lv' := [(6, .int (nI 0)), (5, .int (nI (4 * (M - 2)))), (4, .int (nI ((ze_fl M pt (fun r => r.1) B).length))), (3, .int (nI ((ze_fl M pt (fun r => r.2) A).length))), (0, .ref (ad 39)), (1, .int (nI ja)), (2, .int (nI jb))]) C d_M_visit_85 (by decide) rfl ?_
          have hnd := ze_Jn_node hne (by omega) (by omega)
          have loop : ∀ (r : Nat) (p cc : Nat), M - 1 - p = r → p ≤ M - 1 → cc = co + ze_sz (ze_fl M pt (fun r => r.2) A).length + ze_sz (ze_fl M pt (fun r => r.1) B).length + ze_nc M A B pt p → ze_V G 48 ad (ze_E (ze_i G) ad x (M, mv, ty, ma, cc, le, Ar)) 0 0 87 [(6, .int (nI p)), (0, .ref (ad 39)), (1, .int (nI ja)), (2, .int (nI jb))] [] := by
            intro r
            induction r using Nat.strongRecOn with
            | ind r ih =>
              intro p cc hr g1 g2
              refine ze_iload C d_M_visit_87 0 rfl ?_
              refine ze_aload_n C d_M_visit_89 1 rfl rfl ?_
              refine ze_getf (k := 39) C fl_M_34 (by decide) ze_E_m rfl d_M_visit_90 ?_
              refine ze_iconst (v := nI 1) C d_M_visit_93 (by decide) ?_
              refine ze_isubN C d_M_visit_94 (by omega) ?_
              refine ze_icmp_geN 146 C d_M_visit_95 (by decide) (by omega) (by omega) (fun h95 => ?_) (fun h95 => ?_)
              · refine ze_iconst (v := ze_bi true) C d_M_visit_146 (by decide) ?_
                exact ze_zret C Rt (by decide) d_M_visit_147 (⟨rfl, rfl, _, rfl, true, ma, cc, Ar, rfl, rfl, fun _ _ _ => rfl, fun z => absurd z (by decide), fun _ => ⟨by omega, hk, hnd.1, by rw [hnd.2, g2, show p = M - 1 by omega]; omega⟩⟩)
              · refine ze_aload_n C d_M_visit_98 1 rfl rfl ?_
                refine ze_iload_n C d_M_visit_99 2 rfl rfl ?_
                refine ze_iconst (v := ze_bi true) C d_M_visit_100 (by decide) ?_
                refine ze_iload C d_M_visit_101 0 rfl ?_
                refine ze_callV (st := []) C (c_M_many_Ap (ze_l G) (ze_D G) (ze_i G) ad x M mv ty ma cc le Ar hM A ja hja hA60 hcA hHA pt hle hpt hpd hph p (by omega)) (kv_M_107 (ze_rml (by decide) (by decide))) (by decide) ze_E_m rfl (Nat.le_of_ble_eq_true rfl) ⟨Nat.le_of_ble_eq_true rfl, Nat.le_of_ble_eq_true rfl⟩ d_M_visit_103 ?_
                rintro _ _ _ _ ⟨rfl, rfl, _, rfl, rfl, rfl⟩
                refine ze_norm (c2 := 0) (s2 := 0) (st' := [.int (nI ((ze_pt M pt.length p (fun r => r.2) (ze_fl M pt (fun r => r.2) A)).length))]) rfl rfl rfl ?_
                rw [← ze_fl_snoc]
                have hlA := ze_fl_len M (pt ++ [p]) (fun r => r.2) A
                refine ze_istore (lv' := [(7, .int (nI ((ze_fl M (pt ++ [p]) (fun r => r.2) A).length))), (6, .int (nI p)), (0, .ref (ad 39)), (1, .int (nI ja)), (2, .int (nI jb))]) C d_M_visit_106 (by decide) rfl ?_
                refine ze_aload_n C d_M_visit_108 2 rfl rfl ?_
                refine ze_iload_n C d_M_visit_109 4 rfl rfl ?_
                refine ze_iconst (v := ze_bi false) C d_M_visit_110 (by decide) ?_
                refine ze_iload C d_M_visit_111 1 rfl ?_
                refine ze_callV (st := []) C (c_M_many_Bp (ze_l G) (ze_D G) (ze_i G) ad x M mv ty ma cc le Ar hM B jb hjb hB60 hcB hHB pt hle hpt hpd hph p (by omega)) (kv_M_107 (ze_rml (by decide) (by decide))) (by decide) ze_E_m rfl (Nat.le_of_ble_eq_true rfl) ⟨Nat.le_of_ble_eq_true rfl, Nat.le_of_ble_eq_true rfl⟩ d_M_visit_113 ?_
                rintro _ _ _ _ ⟨rfl, rfl, _, rfl, rfl, rfl⟩
                refine ze_norm (c2 := 0) (s2 := 0) (st' := [.int (nI ((ze_pt M pt.length p (fun r => r.1) (ze_fl M pt (fun r => r.1) B)).length))]) rfl rfl rfl ?_
                rw [← ze_fl_snoc]
                have hlB := ze_fl_len M (pt ++ [p]) (fun r => r.1) B
                refine ze_istore (lv' := [(8, .int (nI ((ze_fl M (pt ++ [p]) (fun r => r.1) B).length))), (7, .int (nI ((ze_fl M (pt ++ [p]) (fun r => r.2) A).length))), (6, .int (nI p)), (0, .ref (ad 39)), (1, .int (nI ja)), (2, .int (nI jb))]) C d_M_visit_116 (by decide) rfl ?_
                refine ze_aload_n C d_M_visit_118 3 rfl rfl ?_
                refine ze_aload_n C d_M_visit_119 3 rfl rfl ?_
                refine ze_getf (k := 39) C fl_M_58 (by decide) ze_E_m rfl d_M_visit_120 ?_
                refine ze_iload C d_M_visit_123 1 rfl ?_
                refine ze_callS (st := [.long (lN cc), .ref (ad 39)]) C (c_M_size (ze_l G) (ze_D G) (ze_i G) _ _ _ ((ze_fl M (pt ++ [p]) (fun r => r.2) A).length) (by omega)) (ks_M_38 (ze_rml (by decide) (by decide))) rfl (Nat.le_of_ble_eq_true rfl) ⟨Nat.le_of_ble_eq_true rfl, Nat.le_of_ble_eq_true rfl⟩ d_M_visit_125 ?_
                rintro _ _ _ _ ⟨rfl, rfl, rfl, rfl⟩
                refine ze_norm (c2 := 0) (s2 := 0) (st' := [.int (nI (ze_sz ((ze_fl M (pt ++ [p]) (fun r => r.2) A).length))), .long (lN cc), .ref (ad 39)]) rfl rfl rfl ?_
                have hz125 := ze_sz_le ((ze_fl M (pt ++ [p]) (fun r => r.2) A).length)
                refine ze_i2lN C d_M_visit_128 (by omega) ?_
                refine ze_laddN C d_M_visit_129 ?_
                refine ze_iload C d_M_visit_130 0 rfl ?_
                refine ze_callS (st := [.long (lN (cc + (ze_sz ((ze_fl M (pt ++ [p]) (fun r => r.2) A).length)))), .ref (ad 39)]) C (c_M_size (ze_l G) (ze_D G) (ze_i G) _ _ _ ((ze_fl M (pt ++ [p]) (fun r => r.1) B).length) (by omega)) (ks_M_38 (ze_rml (by decide) (by decide))) rfl (Nat.le_of_ble_eq_true rfl) ⟨Nat.le_of_ble_eq_true rfl, Nat.le_of_ble_eq_true rfl⟩ d_M_visit_132 ?_
                rintro _ _ _ _ ⟨rfl, rfl, rfl, rfl⟩
                refine ze_norm (c2 := 0) (s2 := 0) (st' := [.int (nI (ze_sz ((ze_fl M (pt ++ [p]) (fun r => r.1) B).length))), .long (lN (cc + (ze_sz ((ze_fl M (pt ++ [p]) (fun r => r.2) A).length)))), .ref (ad 39)]) rfl rfl rfl ?_
                have hz132 := ze_sz_le ((ze_fl M (pt ++ [p]) (fun r => r.1) B).length)
                refine ze_i2lN C d_M_visit_135 (by omega) ?_
                refine ze_laddN C d_M_visit_136 ?_
                refine ze_putf (k := 39) C fp_M_58 (by decide) ze_E_m rfl rfl (Nat.le_of_ble_eq_true rfl) d_M_visit_137 ?_
                refine ze_eqE (ze_up_m (ms' := (M, mv, ty, ma, cc + (ze_sz ((ze_fl M (pt ++ [p]) (fun r => r.2) A).length)) + (ze_sz ((ze_fl M (pt ++ [p]) (fun r => r.1) B).length)), le, Ar)) rfl rfl) ?_
                refine ze_iinc (j := 2) (v := nI (p + 1)) (lv' := [(6, .int (nI (p + 1))), (8, .int (nI ((ze_fl M (pt ++ [p]) (fun r => r.1) B).length))), (7, .int (nI ((ze_fl M (pt ++ [p]) (fun r => r.2) A).length))), (0, .ref (ad 39)), (1, .int (nI ja)), (2, .int (nI jb))]) C d_M_visit_140 rfl (nI_1 _) (by decide) rfl ?_
                refine ze_goto 87 C d_M_visit_143 (by decide) ?_
                refine ze_sub [(6, .int (nI (p + 1))), (0, .ref (ad 39)), (1, .int (nI ja)), (2, .int (nI jb))] [0, 3, 4, 5] rfl ?_
                exact ih (M - 1 - (p + 1)) (by omega) (p + 1) _ rfl (by omega) (by rw [ze_nc_succ, g2]; omega)
          refine ze_sub [(6, .int (nI 0)), (0, .ref (ad 39)), (1, .int (nI ja)), (2, .int (nI jb))] [0, 4, 5, 6] rfl ?_
          exact loop _ 0 _ rfl (Nat.zero_le _) rfl
        · refine ze_aload_n C d_M_visit_53 3 rfl rfl ?_
          refine ze_iload_n C d_M_visit_54 4 rfl rfl ?_
          refine ze_iload_n C d_M_visit_55 5 rfl rfl ?_
          refine ze_iload C d_M_visit_56 0 rfl ?_
          have hlf := ze_Jn_leaf hne (Or.inl (by omega))
          refine ze_callV (st := []) C (c_M_chunks (ze_l G) (ze_D G) (ze_i G) ad x M mv ty ma co le Ar hM A ja hja hA60 hcA hHA B jb hjb hB60 hcB hHB pt hle hpt hpd hph L0 hk (by rw [hlf] at hbd; exact hbd)) (kv_M_115 (ze_rml (by decide) (by decide))) (by decide) ze_E_m rfl (Nat.le_of_ble_eq_true rfl) ⟨Nat.le_of_ble_eq_true rfl, Nat.le_of_ble_eq_true rfl⟩ d_M_visit_58 ?_
          rintro _ _ _ _ ⟨rfl, rfl, _, rfl, rfl, m', A', rfl, hk', o'⟩
          refine ze_norm (c2 := 0) (s2 := 0) (st' := []) rfl rfl rfl ?_
          refine ze_iconst (v := ze_bi false) C d_M_visit_61 (by decide) ?_
          exact ze_zret C Rt (by decide) d_M_visit_62 (⟨rfl, rfl, _, rfl, false, m', _, A', rfl, rfl, o', fun _ => ⟨by rw [hlf]; exact hk', by rw [hlf]⟩, fun z => absurd z (by decide)⟩)
    · have hj0 : ze_Jn M A B pt = ([], 0) := ze_jn_nil (Or.inr (List.eq_nil_of_length_eq_zero h33))
      refine ze_iconst (v := ze_bi false) C d_M_visit_36 (by decide) ?_
      exact ze_zret C Rt (by decide) d_M_visit_37 (⟨rfl, rfl, _, rfl, false, ma, co, Ar, rfl, rfl, fun _ _ _ => rfl, fun _ => ⟨by rw [hj0, List.append_nil]; exact hk, by rw [hj0]; rfl⟩, fun z => absurd z (by decide)⟩)
