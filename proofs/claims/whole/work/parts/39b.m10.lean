theorem ze_jr_len (A B : List ze_Row) : (ze_jr A B).length ≤ A.length * B.length := by
  unfold ze_jr
  induction A with
  | nil => simp
  | cons a A ih =>
    rw [List.flatMap_cons, List.length_append, List.length_map, List.length_cons, Nat.succ_mul]
    have := List.length_filter_le (fun b : ze_Row => decide (b.1 = a.2)) B
    omega
theorem ze_jc_len (w : Nat) (A : List ze_Row) : ∀ (k : Nat) (B : List ze_Row), (ze_jc w A k B).length ≤ A.length * B.length
  | 0, B => by
    rw [ze_jc]
    exact Nat.zero_le _
  | k + 1, B => by
    by_cases h : B = []
    · rw [h, ze_jc_nil]; exact Nat.zero_le _
    · rw [ze_jc_step h, List.length_append]
      have h1 := ze_jr_len A (B.take w)
      have h2 := ze_jc_len w A k (B.drop w)
      have h3 : A.length * (B.take w).length + A.length * (B.drop w).length = A.length * B.length := by
        rw [← Nat.mul_add, ← List.length_append, List.take_append_drop]
      omega
theorem ze_pt_le (M lev p : Nat) (f : ze_Row → Int32) (A : List ze_Row) : (ze_pt M lev p f A).length ≤ A.length := List.length_filter_le _ _
theorem ze_fm_prt (M lev : Nat) (f : ze_Row → Int32) (A : List ze_Row) (b : Nat) (g : Nat → List ze_Row) (hg : ∀ p, (g p).length ≤ (ze_pt M lev p f A).length * b) : ∀ n, ((List.range n).flatMap g).length ≤ (ze_prt M lev f A n).length * b
  | 0 => by simp
  | n + 1 => by
    rw [List.range_succ, List.flatMap_append, List.length_append, ze_prt_succ, List.length_append, Nat.add_mul, List.flatMap_cons, List.flatMap_nil, List.append_nil]
    have := ze_fm_prt M lev f A b g hg n
    have := hg n
    omega
theorem ze_jn_len (M : Nat) : ∀ (k : Nat) (A B : List ze_Row), (ze_jn M k A B).1.length ≤ A.length * B.length
  | 0, A, B => by
    by_cases h : A = [] ∨ B = []
    · rw [ze_jn_nil h]; exact Nat.zero_le _
    · rw [ze_jn_leaf h (Or.inl rfl)]; exact ze_jc_len _ _ _ _
  | k + 1, A, B => by
    by_cases h : A = [] ∨ B = []
    · rw [ze_jn_nil h]; exact Nat.zero_le _
    · by_cases hr : B.length ≤ ze_rm4 M
      · rw [ze_jn_leaf h (Or.inr hr)]; exact ze_jc_len _ _ _ _
      · rw [ze_jn, if_neg h, if_neg hr]
        refine Nat.le_trans (ze_fm_prt M (2 - k) (fun r => r.2) A B.length _ (fun p => Nat.le_trans (ze_jn_len M k _ _) (Nat.mul_le_mul_left _ (ze_pt_le _ _ _ _ _))) (M - 1)) (Nat.mul_le_mul_right _ ?_)
        rw [ze_prt_len']
        exact List.countP_le_length
/-- what is still to do beside the parts of a path, the path read backwards -/
def ze_rs (M : Nat) (A B : List ze_Row) : List Nat → List ze_Row × Nat
  | [] => ([], 0)
  | p :: q => ((ze_sj M A B q.reverse (M - 2 - p) (p + 1)).1 ++ (ze_rs M A B q).1, (ze_sj M A B q.reverse (M - 2 - p) (p + 1)).2 + (ze_rs M A B q).2)
theorem ze_rs_down {M : Nat} {A B : List ze_Row} {q : List Nat} (hM : 3 ≤ M) : (ze_sj M A B q.reverse (M - 1) 0).1 ++ (ze_rs M A B q).1 = (ze_Jn M A B (0 :: q).reverse).1 ++ (ze_rs M A B (0 :: q)).1 ∧ (ze_sj M A B q.reverse (M - 1) 0).2 + (ze_rs M A B q).2 = (ze_Jn M A B (0 :: q).reverse).2 + (ze_rs M A B (0 :: q)).2 := by
  rw [show M - 1 = (M - 2) + 1 by omega, List.reverse_cons]
  refine ⟨?_, ?_⟩
  · show (_ ++ _) ++ _ = _ ++ (_ ++ _)
    rw [List.append_assoc]; rfl
  · show (_ + _) + _ = _ + (_ + _)
    rw [Nat.add_assoc]; rfl
theorem ze_rs_up {M : Nat} {A B : List ze_Row} {p : Nat} {q : List Nat} (h : p = M - 2) : ze_rs M A B (p :: q) = ze_rs M A B q := by
  rw [ze_rs, show M - 2 - p = 0 by omega]
  show ([] ++ _, 0 + _) = _
  rw [List.nil_append, Nat.zero_add]
theorem ze_rs_right {M : Nat} {A B : List ze_Row} {p : Nat} {q : List Nat} (h : p < M - 2) : (ze_rs M A B (p :: q)).1 = (ze_Jn M A B ((p + 1) :: q).reverse).1 ++ (ze_rs M A B ((p + 1) :: q)).1 ∧ (ze_rs M A B (p :: q)).2 = (ze_Jn M A B ((p + 1) :: q).reverse).2 + (ze_rs M A B ((p + 1) :: q)).2 := by
  rw [ze_rs, ze_rs, show M - 2 - p = (M - 2 - (p + 1)) + 1 by omega, List.reverse_cons]
  refine ⟨?_, ?_⟩
  · show (_ ++ _) ++ _ = _ ++ (_ ++ _)
    rw [List.append_assoc]
  · show (_ + _) + _ = _ + (_ + _)
    rw [Nat.add_assoc]
/-- the visits of a tree of this height -/
def ze_Sk (M : Nat) : Nat → Nat
  | 0 => 1
  | k + 1 => 1 + (M - 1) * ze_Sk M k
theorem ze_Sk_pos (M : Nat) : ∀ k, 0 < ze_Sk M k
  | 0 => Nat.one_pos
  | k + 1 => by rw [ze_Sk]; omega
/-- the visits that are left beside a path -/
def ze_rn (M : Nat) : List Nat → Nat
  | [] => 0
  | p :: q => (M - 2 - p) * ze_Sk M (2 - q.length) + ze_rn M q
/-- the visits that are left from a path on -/
def ze_mu (M : Nat) (q : List Nat) : Nat := ze_Sk M (3 - q.length) + ze_rn M q
theorem ze_mu_down {M : Nat} {q : List Nat} (hM : 3 ≤ M) (h : q.length < 3) : ze_mu M (0 :: q) < ze_mu M q := by
  unfold ze_mu
  rw [ze_rn, show 3 - q.length = (2 - q.length) + 1 by omega, ze_Sk, List.length_cons, show 3 - (q.length + 1) = 2 - q.length by omega, show M - 1 = (M - 2) + 1 by omega, Nat.succ_mul]
  rw [Nat.sub_zero]
  omega
theorem ze_mu_rn (M : Nat) (q : List Nat) : ze_rn M q < ze_mu M q := by
  unfold ze_mu
  have := ze_Sk_pos M (3 - q.length)
  omega
theorem ze_rn_up {M p : Nat} {q : List Nat} : ze_rn M q ≤ ze_rn M (p :: q) := by
  rw [ze_rn]; omega
theorem ze_mu_right {M p : Nat} {q : List Nat} (h : p < M - 2) : ze_mu M ((p + 1) :: q) = ze_rn M (p :: q) := by
  unfold ze_mu
  rw [ze_rn, ze_rn, List.length_cons, show 3 - (q.length + 1) = 2 - q.length by omega, show M - 2 - p = (M - 2 - (p + 1)) + 1 by omega, Nat.succ_mul]
  omega
theorem ze_gd1 (L : List Nat) (p : Nat) : (L ++ [p]).getD L.length 0 = p := by simp [List.getD_eq_getElem?_getD]
theorem ze_gd2 (L : List Nat) (p d : Nat) (h : d < L.length) : (L ++ [p]).getD d 0 = L.getD d 0 := by simp [List.getD_eq_getElem?_getD, List.getElem?_append_left h]
theorem ze_ph_put {Ar A1 : Nat → Nat → Int32} {q : List Nat} {v : Nat} (h : ze_ph Ar q.reverse) (e : A1 = va_up Ar 7 (upd (Ar 7) q.length (nI v))) : ze_ph A1 (v :: q).reverse := by
  intro d hd
  rw [List.reverse_cons, List.length_append, List.length_singleton, List.length_reverse] at hd
  rw [e, va_up_self, List.reverse_cons]
  unfold upd
  by_cases hq : d = q.length
  · subst hq
    rw [if_pos rfl, ← List.length_reverse, ze_gd1]
  · rw [if_neg hq, ze_gd2 _ _ _ (by rw [List.length_reverse]; omega)]
    exact h d (by rw [List.length_reverse]; omega)
theorem ze_ph_at {Ar : Nat → Nat → Int32} {q : List Nat} {p : Nat} (h : ze_ph Ar (p :: q).reverse) : Ar 7 q.length = nI p := by
  rw [h q.length (by simp), List.reverse_cons, ← List.length_reverse, ze_gd1]
theorem ze_ph_up {Ar : Nat → Nat → Int32} {q : List Nat} {p : Nat} (h : ze_ph Ar (p :: q).reverse) : ze_ph Ar q.reverse := by
  intro d hd
  rw [h d (by rw [List.reverse_cons, List.length_append]; omega), List.reverse_cons, ze_gd2 _ _ _ hd]
theorem ze_ph_eq {Ar A1 : Nat → Nat → Int32} {pt : List Nat} (h : ze_ph Ar pt) (e : A1 7 = Ar 7) : ze_ph A1 pt := by
  unfold ze_ph
  rw [e]
  exact h
theorem ze_pth {M : Nat} {q : List Nat} (hM : M ≤ 6) (h : ∀ p ∈ q, p ≤ M - 2) : ∀ d, d < q.reverse.length → q.reverse.getD d 0 < 10 := by
  intro d hd
  rw [List.getD_eq_getElem?_getD, List.getElem?_eq_getElem hd, Option.getD_some]
  have := h _ (List.mem_reverse.mp (List.getElem_mem hd))
  omega
theorem ze_Mk_7 {A2 A3 : Nat → Nat → Int32} {m : Nat} {L : List ze_Row} {f : Nat → Int32} (h : ze_Mk A2 m L) (e : A3 = va_up A2 7 f) : ze_Mk A3 m L := by
  unfold ze_Mk
  rw [e, va_up_ne _ _ (by decide), va_up_ne _ _ (by decide)]
  exact h
theorem ze_rs_0 (M : Nat) (A B : List ze_Row) : [] ++ (ze_Jn M A B ([] : List Nat).reverse).1 ++ (ze_rs M A B []).1 = (ze_jn M 3 A B).1 ∧ 0 + (ze_Jn M A B ([] : List Nat).reverse).2 + (ze_rs M A B []).2 = (ze_jn M 3 A B).2 := by
  have h : ze_Jn M A B ([] : List Nat).reverse = ze_jn M 3 A B := by
    unfold ze_Jn
    rw [List.reverse_nil, ze_fl_nil, ze_fl_nil]
    rfl
  rw [h]
  refine ⟨List.append_nil _, ?_⟩
  show 0 + _ + 0 = _
  omega

set_option maxRecDepth 100000 in
set_option maxHeartbeats 4000000 in
theorem c_M_join (l : Launch) (D : va_G) (ids : Nat → ClassId) (ad : Nat → Nat) (x : ze_XS) (M : Nat) (mv : Int64) (ma co le : Nat) (Ar : Nat → Nat → Int32) (inp : List ze_Row) (sl : Nat → Option (List ze_Row)) (hR : ze_rA Ar inp sl) (hM : 3 ≤ M ∧ M ≤ 6) (a b into : Int32) : ze_MM l D ids ad x y_M_join ws_M_join 20 (M, mv, inp.length, ma, co, le, Ar) [.ref (ad 39), .int a, .int b, .int into] (fun v ms' => v = some (.int (sp_join (inp, sl, mv, M) a b into).1) ∧ ze_rM ms' (sp_join (inp, sl, mv, M) a b into).2) := by
  refine ze_enter (cc := b_M_join) (maxL := 6) (ret := (some .int)) (by decide +kernel) rfl (Nat.le_of_ble_eq_true rfl) ?_
  rintro G rfl rfl rfl - C Rt
  refine ze_lv (lv' := [(0, .ref (ad 39)), (1, .int a), (2, .int b), (3, .int into)]) rfl ?_
  have hin := hR.1
  refine ze_aload_n C d_M_join_0 0 rfl rfl ?_
  refine ze_iconst (v := ze_bi true) C d_M_join_1 (by decide) ?_
  refine ze_iload_n C d_M_join_2 1 rfl rfl ?_
  refine ze_iload_n C d_M_join_3 2 rfl rfl ?_
  refine ze_iload_n C d_M_join_4 3 rfl rfl ?_
  refine ze_callV (st := []) C (c_M_refuse (ze_l G) (ze_D G) (ze_i G) ad x M mv inp.length ma co le Ar inp sl hR hM true a b into) (kv_M_65 (ze_rml (by decide) (by decide))) (by decide) ze_E_m rfl (Nat.le_of_ble_eq_true rfl) ⟨Nat.le_of_ble_eq_true rfl, Nat.le_of_ble_eq_true rfl⟩ d_M_join_5 ?_
  rintro _ _ _ _ ⟨rfl, rfl, _, rfl, rfl, ma1, co1, rfl, hz0⟩
  refine ze_norm (c2 := 0) (s2 := 0) (st' := [.int (ze_rfs sl true a b into)]) rfl rfl rfl ?_
  refine ze_istore (lv' := [(4, .int (ze_rfs sl true a b into)), (0, .ref (ad 39)), (1, .int a), (2, .int b), (3, .int into)]) C d_M_join_8 (by decide) rfl ?_
  refine ze_iload C d_M_join_10 0 rfl ?_
  refine ze_if_eq 18 C d_M_join_12 (by decide) (fun h12 => ?_) (fun h12 => ?_)
  · obtain ⟨rfl, rfl⟩ := hz0 h12
    obtain ⟨ja, jb, ji, A, B, hja, hjb, hji, rfl, rfl, rfl, hne, hneb, hA, hB, hI, hok, hop⟩ := ze_rfs_0 (σ := (inp, sl, mv, M)) h12
    simp only at hA hB hI
    obtain ⟨hA60, hcA, hHA⟩ := hR.2.2.2 ja hja A hA
    obtain ⟨hB60, hcB, hHB⟩ := hR.2.2.2 jb hjb B hB
    have htl : (ze_jn M 3 A B).1.length ≤ 3600 := Nat.le_trans (ze_jn_len M 3 A B) (Nat.mul_le_mul hA60 hB60)
    refine ze_sub [(0, .ref (ad 39)), (1, .int (nI ja)), (2, .int (nI jb)), (3, .int (nI ji))] [1, 2, 3, 4] rfl ?_
    have hsp : sp_join (inp, sl, mv, M) (nI ja) (nI jb) (nI ji) = sp_fin (inp, sl, mv, M) ji ((ze_jn M 3 A B).1, (ze_jn M 3 A B).2 + ze_sz (ze_jn M 3 A B).1.length) := by rw [sp_join, hop]
    refine ze_aload_n C d_M_join_18 0 rfl rfl ?_
    refine ze_iconst (v := nI 0) C d_M_join_19 (by decide) ?_
    refine ze_putf (k := 39) C fp_M_98 (by decide) ze_E_m rfl rfl (Nat.le_of_ble_eq_true rfl) d_M_join_20 ?_
    refine ze_eqE (ze_up_m (ms' := (M, mv, inp.length, 0, 0, 0, Ar)) rfl rfl) ?_
    refine ze_iconst (v := ze_bi true) C d_M_join_23 (by decide) ?_
    refine ze_istore (lv' := [(5, .int (ze_bi true)), (0, .ref (ad 39)), (1, .int (nI ja)), (2, .int (nI jb)), (3, .int (nI ji))]) C d_M_join_24 (by decide) rfl ?_
    have loop : ∀ (r : Nat) (q : List Nat) (L : List ze_Row) (m1 c1 : Nat) (A1 : Nat → Nat → Int32), ze_mu M q = r → q.length ≤ 3 → (∀ p ∈ q, p ≤ M - 2) → ze_ph A1 q.reverse → (∀ z, z ≠ 5 → z ≠ 6 → z ≠ 7 → A1 z = Ar z) → ze_Mk A1 m1 L → L ++ (ze_Jn M A B q.reverse).1 ++ (ze_rs M A B q).1 = (ze_jn M 3 A B).1 → c1 + (ze_Jn M A B q.reverse).2 + (ze_rs M A B q).2 = (ze_jn M 3 A B).2 → ze_V G 48 ad (ze_E (ze_i G) ad x (M, mv, inp.length, m1, c1, q.length, A1)) 0 0 26 [(5, .int (ze_bi true)), (0, .ref (ad 39)), (1, .int (nI ja)), (2, .int (nI jb)), (3, .int (nI ji))] [] := by
      intro r
      induction r using Nat.strongRecOn with
      | ind r ih =>
        intro q L m1 c1 A1 hr g1 g2 g3 g4 g5 g6 g7
        have hcA1 : A1 2 ja = nI A.length := by rw [g4 2 (by decide) (by decide) (by decide)]; exact hcA
        have hHA1 : ze_Hl (A1 3) (A1 4) (60 * ja) A := by rw [g4 3 (by decide) (by decide) (by decide), g4 4 (by decide) (by decide) (by decide)]; exact hHA
        have hcB1 : A1 2 jb = nI B.length := by rw [g4 2 (by decide) (by decide) (by decide)]; exact hcB
        have hHB1 : ze_Hl (A1 3) (A1 4) (60 * jb) B := by rw [g4 3 (by decide) (by decide) (by decide), g4 4 (by decide) (by decide) (by decide)]; exact hHB
        have hbd : L.length + (ze_Jn M A B q.reverse).1.length ≤ 10000 := by have z := congrArg List.length g6; simp only [List.length_append] at z; omega
        refine ze_iload C d_M_join_26 0 rfl ?_
        refine ze_if_eq 149 C d_M_join_28 (by decide) (fun h28 => absurd h28 (by decide)) (fun h28 => ?_)
        refine ze_aload_n C d_M_join_31 1 rfl rfl ?_
        refine ze_iload_n C d_M_join_32 2 rfl rfl ?_
        refine ze_iload_n C d_M_join_33 3 rfl rfl ?_
        refine ze_callV (st := []) C (c_M_visit (ze_l G) (ze_D G) (ze_i G) ad x M mv inp.length m1 c1 q.length A1 hM A ja hja hA60 hcA1 hHA1 B jb hjb hB60 hcB1 hHB1 q.reverse (by rw [List.length_reverse]) (by rw [List.length_reverse]; exact g1) (ze_pth hM.2 g2) g3 L g5 hbd) (kv_M_119 (ze_rml (by decide) (by decide))) (by decide) ze_E_m rfl (Nat.le_of_ble_eq_true rfl) ⟨Nat.le_of_ble_eq_true rfl, Nat.le_of_ble_eq_true rfl⟩ d_M_join_34 ?_
        rintro _ _ _ _ ⟨rfl, rfl, _, rfl, bb, m2, c2, A2, rfl, rfl, o2, hf, ht⟩
        refine ze_norm (c2 := 0) (s2 := 0) (st' := [.int (ze_bi bb)]) rfl rfl rfl ?_
        have oo : ∀ z, z ≠ 5 → z ≠ 6 → z ≠ 7 → A2 z = Ar z := fun z z5 z6 z7 => (o2 z z5 z6).trans (g4 z z5 z6 z7)
        have hp2 := ze_ph_eq g3 (o2 7 (by decide) (by decide))
        refine ze_if_eq 63 C d_M_join_37 (by decide) (fun h37 => ?_) (fun h37 => ?_)
        · obtain ⟨k1, k2⟩ := hf (ze_bi0.mp h37)
          have up : ∀ u : List Nat, L ++ (ze_Jn M A B q.reverse).1 ++ (ze_rs M A B u).1 = (ze_jn M 3 A B).1 → c2 + (ze_rs M A B u).2 = (ze_jn M 3 A B).2 → u.length ≤ 3 → (∀ p ∈ u, p ≤ M - 2) → ze_ph A2 u.reverse → ze_rn M u < r → ze_V G 48 ad (ze_E (ze_i G) ad x (M, mv, inp.length, m2, c2, u.length, A2)) 0 0 63 [(5, .int (ze_bi true)), (0, .ref (ad 39)), (1, .int (nI ja)), (2, .int (nI jb)), (3, .int (nI ji))] [] := by
            intro u
            induction u with
            | nil =>
              intro a1 a2 a3 a4 a5 a6
              have kk : ze_Mk A2 m2 (ze_jn M 3 A B).1 := by rw [← a1]; show ze_Mk A2 m2 (_ ++ []); rw [List.append_nil]; exact k1
              have hm := kk.1
              have a9 : c2 = (ze_jn M 3 A B).2 := a2
              have hR1 := ze_rA_56 hR oo
              show ze_V G 48 ad (ze_E (ze_i G) ad x (M, mv, inp.length, m2, c2, 0, A2)) 0 0 63 [(5, .int (ze_bi true)), (0, .ref (ad 39)), (1, .int (nI ja)), (2, .int (nI jb)), (3, .int (nI ji))] []
              refine ze_aload_n C d_M_join_63 1 rfl rfl ?_
              refine ze_getf (k := 39) C fl_M_98 (by decide) ze_E_m rfl d_M_join_64 ?_
              refine ze_if_leN 103 C d_M_join_67 (by decide) (by omega) (fun h67 => ?_) (fun h67 => absurd h67 (by omega))
              refine ze_aload_n C d_M_join_103 1 rfl rfl ?_
              refine ze_getf (k := 39) C fl_M_98 (by decide) ze_E_m rfl d_M_join_104 ?_
              refine ze_if_leN 114 C d_M_join_107 (by decide) (by omega) (fun h107 => ?_) (fun h107 => absurd h107 (by omega))
              refine ze_iconst (v := ze_bi false) C d_M_join_114 (by decide) ?_
              refine ze_istore (lv' := [(5, .int (ze_bi false)), (0, .ref (ad 39)), (1, .int (nI ja)), (2, .int (nI jb)), (3, .int (nI ji))]) C d_M_join_115 (by decide) rfl ?_
              refine ze_iload C d_M_join_117 0 rfl ?_
              refine ze_if_eq 26 C d_M_join_119 (by decide) (fun h119 => ?_) (fun h119 => absurd h119 (by decide))
              refine ze_iload C d_M_join_26 0 rfl ?_
              refine ze_if_eq 149 C d_M_join_28 (by decide) (fun h28 => ?_) (fun h28 => absurd h28 (by decide))
              refine ze_aload_n C d_M_join_149 1 rfl rfl ?_
              refine ze_aload_n C d_M_join_150 1 rfl rfl ?_
              refine ze_getf (k := 39) C fl_M_58 (by decide) ze_E_m rfl d_M_join_151 ?_
              refine ze_aload_n C d_M_join_154 1 rfl rfl ?_
              refine ze_getf (k := 39) C fl_M_55 (by decide) ze_E_m rfl d_M_join_155 ?_
              refine ze_callS (st := [.long (lN c2), .ref (ad 39)]) C (c_M_size (ze_l G) (ze_D G) (ze_i G) _ _ _ m2 (by omega)) (ks_M_38 (ze_rml (by decide) (by decide))) rfl (Nat.le_of_ble_eq_true rfl) ⟨Nat.le_of_ble_eq_true rfl, Nat.le_of_ble_eq_true rfl⟩ d_M_join_158 ?_
              rintro _ _ _ _ ⟨rfl, rfl, rfl, rfl⟩
              refine ze_norm (c2 := 0) (s2 := 0) (st' := [.int (nI (ze_sz m2)), .long (lN c2), .ref (ad 39)]) rfl rfl rfl ?_
              have hz158 := ze_sz_le m2
              refine ze_i2lN C d_M_join_161 (by omega) ?_
              refine ze_laddN C d_M_join_162 ?_
              refine ze_putf (k := 39) C fp_M_58 (by decide) ze_E_m rfl rfl (Nat.le_of_ble_eq_true rfl) d_M_join_163 ?_
              refine ze_eqE (ze_up_m (ms' := (M, mv, inp.length, m2, c2 + (ze_sz m2), 0, A2)) rfl rfl) ?_
              refine ze_aload_n C d_M_join_166 1 rfl rfl ?_
              refine ze_iload_n C d_M_join_167 4 rfl rfl ?_
              refine ze_callV (st := []) C (c_M_finish (ze_l G) (ze_D G) (ze_i G) ad x M mv inp.length m2 (c2 + (ze_sz m2)) 0 A2 inp sl hR1 hM ji hji rfl ((ze_jn M 3 A B).1, (ze_jn M 3 A B).2 + ze_sz (ze_jn M 3 A B).1.length) kk (fun _ => by rw [hm, a9]) (by omega)) (kv_M_77 (ze_rml (by decide) (by decide))) (by decide) ze_E_m rfl (Nat.le_of_ble_eq_true rfl) ⟨Nat.le_of_ble_eq_true rfl, Nat.le_of_ble_eq_true rfl⟩ d_M_join_168 ?_
              rintro _ _ _ _ ⟨rfl, rfl, ms', rfl, rfl, hr⟩
              refine ze_norm (c2 := 0) (s2 := 0) (st' := [.int (sp_fin (inp, sl, mv, M) ji ((ze_jn M 3 A B).1, (ze_jn M 3 A B).2 + ze_sz (ze_jn M 3 A B).1.length)).1]) rfl rfl rfl ?_
              exact ze_iret C Rt d_M_join_171 ⟨rfl, rfl, _, rfl, by rw [hsp], by rw [hsp]; exact hr⟩
            | cons p u ihu =>
              intro a1 a2 a3 a4 a5 a6
              have hp := a4 p List.mem_cons_self
              have hat := ze_ph_at a5
              have a3 : u.length + 1 ≤ 3 := a3
              show ze_V G 48 ad (ze_E (ze_i G) ad x (M, mv, inp.length, m2, c2, u.length + 1, A2)) 0 0 63 [(5, .int (ze_bi true)), (0, .ref (ad 39)), (1, .int (nI ja)), (2, .int (nI jb)), (3, .int (nI ji))] []
              refine ze_aload_n C d_M_join_63 1 rfl rfl ?_
              refine ze_getf (k := 39) C fl_M_98 (by decide) ze_E_m rfl d_M_join_64 ?_
              refine ze_if_leN 103 C d_M_join_67 (by decide) (by omega) (fun h67 => absurd h67 (by omega)) (fun h67 => ?_)
              refine ze_aload_n C d_M_join_70 1 rfl rfl ?_
              refine ze_getf (k := 39) C fl_M_31 (by decide) ze_E_m rfl d_M_join_71 ?_
              refine ze_aload_n C d_M_join_74 1 rfl rfl ?_
              refine ze_getf (k := 39) C fl_M_98 (by decide) ze_E_m rfl d_M_join_75 ?_
              refine ze_iconst (v := nI 1) C d_M_join_78 (by decide) ?_
              refine ze_isubN C d_M_join_79 (by omega) ?_
              rw [Nat.add_sub_cancel]
              refine ze_iald (k := 40 + 7) (i := u.length) C (by decide) (ze_E_a (j := 7)) (by show _ < 3; omega) (by decide) d_M_join_80 ?_
              rw [hat]
              refine ze_aload_n C d_M_join_81 1 rfl rfl ?_
              refine ze_getf (k := 39) C fl_M_34 (by decide) ze_E_m rfl d_M_join_82 ?_
              refine ze_iconst (v := nI 2) C d_M_join_85 (by decide) ?_
              refine ze_isubN C d_M_join_86 (by omega) ?_
              refine ze_icmp_neN 103 C d_M_join_87 (by decide) (by omega) (by omega) (fun h87 => ?_) (fun h87 => ?_)
              · refine ze_aload_n C d_M_join_103 1 rfl rfl ?_
                refine ze_getf (k := 39) C fl_M_98 (by decide) ze_E_m rfl d_M_join_104 ?_
                refine ze_if_leN 114 C d_M_join_107 (by decide) (by omega) (fun h107 => absurd h107 (by omega)) (fun h107 => ?_)
                refine ze_iconst (v := ze_bi true) C d_M_join_110 (by decide) ?_
                refine ze_goto 115 C d_M_join_111 (by decide) ?_
                refine ze_istore (lv' := [(5, .int (ze_bi true)), (0, .ref (ad 39)), (1, .int (nI ja)), (2, .int (nI jb)), (3, .int (nI ji))]) C d_M_join_115 (by decide) rfl ?_
                refine ze_iload C d_M_join_117 0 rfl ?_
                refine ze_if_eq 26 C d_M_join_119 (by decide) (fun h119 => absurd h119 (by decide)) (fun h119 => ?_)
                refine ze_aload_n C d_M_join_122 1 rfl rfl ?_
                refine ze_getf (k := 39) C fl_M_31 (by decide) ze_E_m rfl d_M_join_123 ?_
                refine ze_aload_n C d_M_join_126 1 rfl rfl ?_
                refine ze_getf (k := 39) C fl_M_98 (by decide) ze_E_m rfl d_M_join_127 ?_
                refine ze_iconst (v := nI 1) C d_M_join_130 (by decide) ?_
                refine ze_isubN C d_M_join_131 (by omega) ?_
                rw [Nat.add_sub_cancel]
                refine ze_aload_n C d_M_join_132 1 rfl rfl ?_
                refine ze_getf (k := 39) C fl_M_31 (by decide) ze_E_m rfl d_M_join_133 ?_
                refine ze_aload_n C d_M_join_136 1 rfl rfl ?_
                refine ze_getf (k := 39) C fl_M_98 (by decide) ze_E_m rfl d_M_join_137 ?_
                refine ze_iconst (v := nI 1) C d_M_join_140 (by decide) ?_
                refine ze_isubN C d_M_join_141 (by omega) ?_
                rw [Nat.add_sub_cancel]
                refine ze_iald (k := 40 + 7) (i := u.length) C (by decide) (ze_E_a (j := 7)) (by show _ < 3; omega) (by decide) d_M_join_142 ?_
                rw [hat]
                refine ze_iconst (v := nI 1) C d_M_join_143 (by decide) ?_
                refine ze_iaddN C d_M_join_144 ?_
                refine ze_iast (k := 40 + 7) (i := u.length) C (by decide) (ze_E_a (j := 7)) (by show _ < 3; omega) (by decide) d_M_join_145 ?_
                refine ze_eqE (ze_up_a (j := 7)) ?_
                refine ze_genA (fun A3 eA3 => ?_)
                refine ze_goto 26 C d_M_join_146 (by decide) ?_
                have hpl : p < M - 2 := by omega
                exact ih (ze_mu M ((p + 1) :: u)) (by rw [ze_mu_right hpl]; exact a6) ((p + 1) :: u) (L ++ (ze_Jn M A B q.reverse).1) m2 c2 A3 rfl a3 (fun z hz => (List.mem_cons.mp hz).elim (fun e => by omega) (fun h => a4 z (List.mem_cons_of_mem _ h))) (ze_ph_put (ze_ph_up a5) eA3) (fun z z5 z6 z7 => by rw [eA3, va_up_ne _ _ z7]; exact oo z z5 z6 z7) (ze_Mk_7 k1 eA3) (by rw [List.append_assoc, ← (ze_rs_right hpl).1]; exact a1) (by have z := (ze_rs_right (A := A) (B := B) (q := u) hpl).2; omega)
              · refine ze_aload_n C d_M_join_90 1 rfl rfl ?_
                refine ze_aload_n C d_M_join_91 1 rfl rfl ?_
                refine ze_getf (k := 39) C fl_M_98 (by decide) ze_E_m rfl d_M_join_92 ?_
                refine ze_iconst (v := nI 1) C d_M_join_95 (by decide) ?_
                refine ze_isubN C d_M_join_96 (by omega) ?_
                rw [Nat.add_sub_cancel]
                refine ze_putf (k := 39) C fp_M_98 (by decide) ze_E_m rfl rfl (Nat.le_of_ble_eq_true rfl) d_M_join_97 ?_
                refine ze_eqE (ze_up_m (ms' := (M, mv, inp.length, m2, c2, u.length, A2)) rfl rfl) ?_
                refine ze_goto 63 C d_M_join_100 (by decide) ?_
                exact ihu (by rw [ze_rs_up h87] at a1; exact a1) (by rw [ze_rs_up h87] at a2; exact a2) (by omega) (fun z hz => a4 z (List.mem_cons_of_mem _ hz)) (ze_ph_up a5) (Nat.lt_of_le_of_lt ze_rn_up a6)
          exact up q g6 (by rw [k2]; exact g7) g1 g2 hp2 (by rw [← hr]; exact ze_mu_rn M q)
        · obtain ⟨k0, k1, k2, k3⟩ := ht (ze_bi1 h37)
          rw [List.length_reverse] at k0
          refine ze_aload_n C d_M_join_40 1 rfl rfl ?_
          refine ze_getf (k := 39) C fl_M_31 (by decide) ze_E_m rfl d_M_join_41 ?_
          refine ze_aload_n C d_M_join_44 1 rfl rfl ?_
          refine ze_getf (k := 39) C fl_M_98 (by decide) ze_E_m rfl d_M_join_45 ?_
          refine ze_iconst (v := nI 0) C d_M_join_48 (by decide) ?_
          refine ze_iast (k := 40 + 7) (i := q.length) C (by decide) (ze_E_a (j := 7)) (by show _ < 3; omega) (by decide) d_M_join_49 ?_
          refine ze_eqE (ze_up_a (j := 7)) ?_
          refine ze_genA (fun A3 eA3 => ?_)
          refine ze_aload_n C d_M_join_50 1 rfl rfl ?_
          refine ze_aload_n C d_M_join_51 1 rfl rfl ?_
          refine ze_getf (k := 39) C fl_M_98 (by decide) ze_E_m rfl d_M_join_52 ?_
          refine ze_iconst (v := nI 1) C d_M_join_55 (by decide) ?_
          refine ze_iaddN C d_M_join_56 ?_
          refine ze_putf (k := 39) C fp_M_98 (by decide) ze_E_m rfl rfl (Nat.le_of_ble_eq_true rfl) d_M_join_57 ?_
          refine ze_eqE (ze_up_m (ms' := (M, mv, inp.length, m2, c2, q.length + 1, A3)) rfl rfl) ?_
          refine ze_goto 26 C d_M_join_60 (by decide) ?_
          exact ih (ze_mu M (0 :: q)) (by rw [← hr]; exact ze_mu_down hM.1 k0) (0 :: q) L m2 c2 A3 rfl k0 (fun z hz => (List.mem_cons.mp hz).elim (fun e => by omega) (fun h => g2 z h)) (ze_ph_put hp2 eA3) (fun z z5 z6 z7 => by rw [eA3, va_up_ne _ _ z7]; exact oo z z5 z6 z7) (ze_Mk_7 k1 eA3) (by rw [List.append_assoc, ← (ze_rs_down hM.1).1, ← k2, ← List.append_assoc]; exact g6) (by have z := (ze_rs_down (A := A) (B := B) (q := q) hM.1).2; omega)
    refine ze_sub [(5, .int (ze_bi true)), (0, .ref (ad 39)), (1, .int (nI ja)), (2, .int (nI jb)), (3, .int (nI ji))] [0, 1, 2, 3, 4] rfl ?_
    exact loop _ [] [] 0 0 Ar rfl (Nat.zero_le _) (fun p hp => absurd hp List.not_mem_nil) (fun d hd => absurd hd (Nat.not_lt_zero _)) (fun _ _ _ _ => rfl) ze_Mk_0 (ze_rs_0 M A B).1 (ze_rs_0 M A B).2
  · refine ze_iload C d_M_join_15 0 rfl ?_
    exact ze_iret C Rt d_M_join_17 (⟨rfl, rfl, _, rfl, by rw [sp_join, ze_rfs_ne (σ := (inp, sl, mv, M)) h12], by rw [sp_join, ze_rfs_ne (σ := (inp, sl, mv, M)) h12]; exact ⟨ma1, co1, le, Ar, rfl, hR, hM.1, hM.2⟩⟩)
