theorem ze_first_iff {f g : Nat → Int32} {b i : Nat} {L : List ze_Row} (h : ze_Hl f g b L) (hi : i ≤ L.length) (k : Int32) : k ∈ ze_dk (L.take i) ↔ ∃ j, j < i ∧ f (b + j) = k := by
  rw [ze_dk_mem]
  constructor
  · rintro ⟨r, hr, e⟩
    obtain ⟨j, hj⟩ := List.getElem?_of_mem hr
    have hlt := (List.getElem?_eq_some_iff.mp hj).1
    rw [List.length_take] at hlt
    rw [List.getElem?_take_of_lt (by omega), ze_Hl_row h (by omega)] at hj
    refine ⟨j, by omega, ?_⟩
    rw [← e, ← Option.some.inj hj]
  · rintro ⟨j, hj, e⟩
    refine ⟨(f (b + j), g (b + j)), List.mem_of_getElem? (i := j) ?_, e⟩
    rw [List.getElem?_take_of_lt hj, ze_Hl_row h (by omega)]
theorem ze_dk_take_succ {f g : Nat → Int32} {b i : Nat} {L : List ze_Row} (h : ze_Hl f g b L) (hi : i < L.length) : (ze_dk (L.take (i + 1))).length = (ze_dk (L.take i)).length + if f (b + i) ∈ ze_dk (L.take i) then 0 else 1 := by
  rw [ze_Hl_take h hi, ze_dk_snoc]
  simp only
  split <;> simp
theorem ze_rank_uniq {L : List ze_Row} {p q : Nat} {k : Int32} (h1 : (ze_dk L)[p]? = some k) (h2 : (ze_dk L)[q]? = some k) : p = q := by
  obtain ⟨l1, g1⟩ := List.getElem?_eq_some_iff.mp h1
  obtain ⟨l2, g2⟩ := List.getElem?_eq_some_iff.mp h2
  exact (List.getElem_inj (ze_dk_nodup L)).mp (g1.trans g2.symm)
theorem ze_lf_take_succ {f g : Nat → Int32} {b p q ρ : Nat} {L : List ze_Row} (h : ze_Hl f g b L) (hp : p < L.length) (hρ : (ze_dk L)[ρ]? = some (f (b + p))) : ((L.take (p + 1)).filter (fun r => !decide (r.1 ∈ (ze_dk L).take q))).length = ((L.take p).filter (fun r => !decide (r.1 ∈ (ze_dk L).take q))).length + if ρ < q then 0 else 1 := by
  rw [ze_Hl_take h hp, List.filter_append, List.length_append]
  congr 1
  by_cases hq : ρ < q
  · rw [if_pos hq]
    simp [(ze_rank_take hρ).mpr hq]
  · rw [if_neg hq]
    have : f (b + p) ∉ (ze_dk L).take q := fun z => hq ((ze_rank_take hρ).mp z)
    simp [this]
/-- the sums of the keys that the first i rows have -/
def ze_gm (L : List ze_Row) (i : Nat) : List ze_Row := (ze_dk (L.take i)).map (fun k => (k, ze_sum k L))
theorem ze_gm_len (L : List ze_Row) (i : Nat) : (ze_gm L i).length = (ze_dk (L.take i)).length := by simp [ze_gm]
theorem ze_gm_old {f g : Nat → Int32} {b i : Nat} {L : List ze_Row} (h : ze_Hl f g b L) (hi : i < L.length) (hk : f (b + i) ∈ ze_dk (L.take i)) : ze_gm L (i + 1) = ze_gm L i := by
  unfold ze_gm
  rw [ze_Hl_take h hi, ze_dk_snoc, if_pos hk]
theorem ze_gm_new {f g : Nat → Int32} {b i : Nat} {L : List ze_Row} (h : ze_Hl f g b L) (hi : i < L.length) (hk : f (b + i) ∉ ze_dk (L.take i)) : ze_gm L (i + 1) = ze_gm L i ++ [(f (b + i), ze_sum (f (b + i)) (L.drop i))] := by
  unfold ze_gm
  rw [ze_Hl_take h hi, ze_dk_snoc, if_neg hk, List.map_append]
  congr 1
  simp only [List.map_cons, List.map_nil]
  rw [show ze_sum (f (b + i)) L = ze_sum (f (b + i)) (L.drop i) from by
    conv => lhs; rw [← List.take_append_drop i L]
    exact ze_sum_app _ _ _ hk]

set_option maxRecDepth 100000 in
set_option maxHeartbeats 4000000 in
theorem c_M_rank (l : Launch) (D : va_G) (ids : Nat → ClassId) (ad : Nat → Nat) (x : ze_XS) (M : Nat) (mv : Int64) (ty ma co le : Nat) (Ar : Nat → Nat → Int32) (L : List ze_Row) (s : Nat) (hs : s < 8) (hL : L.length ≤ 60) (hc : Ar 2 s = nI L.length) (hH : ze_Hl (Ar 3) (Ar 4) (60 * s) L) (pl : Nat) (hpl : pl < L.length) : ze_MM l D ids ad x y_M_rank ws_M_rank 3 (M, mv, ty, ma, co, le, Ar) [.ref (ad 39), .int (nI s), .int (nI pl)] (fun v ms' => ∃ ρ, v = some (.int (nI ρ)) ∧ ms' = (M, mv, ty, ma, co, le, Ar) ∧ (ze_dk L)[ρ]? = some (Ar 3 (60 * s + pl))) := by
  refine ze_enter (cc := b_M_rank) (maxL := 8) (ret := (some .int)) (by decide +kernel) rfl (Nat.le_of_ble_eq_true rfl) ?_
  rintro G rfl rfl rfl - C Rt
  refine ze_lv (lv' := [(0, .ref (ad 39)), (1, .int (nI s)), (2, .int (nI pl))]) rfl ?_
  have hdl : ∀ i, (ze_dk (L.take i)).length ≤ 60 := fun i => Nat.le_trans (ze_dk_len _) (by rw [List.length_take]; omega)
  have loop : ∀ (r : Nat) (i df : Nat), L.length - i = r → i ≤ pl → df = (ze_dk (L.take i)).length → Ar 3 (60 * s + pl) ∉ ze_dk (L.take i) → ze_V G 48 ad (ze_E (ze_i G) ad x (M, mv, ty, ma, co, le, Ar)) 0 0 11 [(5, .int (nI i)), (4, .int (nI df)), (3, .int (nI (60 * s))), (0, .ref (ad 39)), (1, .int (nI s)), (2, .int (nI pl))] [] := by
    intro r
    induction r using Nat.strongRecOn with
    | ind r ih =>
      intro i df hr g1 g2 g3
      have hdi := hdl i
      refine ze_iload C d_M_rank_11 0 rfl ?_
      refine ze_aload_n C d_M_rank_13 3 rfl rfl ?_
      refine ze_getf (k := 39) C fl_M_16 (by decide) ze_E_m rfl d_M_rank_14 ?_
      refine ze_iload_n C d_M_rank_17 4 rfl rfl ?_
      refine ze_iald (k := 40 + 2) (i := s) C (by decide) (ze_E_a (j := 2)) (by show _ < 8; omega) (by decide) d_M_rank_18 ?_
      rw [hc]
      refine ze_icmp_geN 118 C d_M_rank_19 (by decide) (by omega) (by omega) (fun h19 => ?_) (fun h19 => ?_)
      · exact absurd h19 (by omega)
      · refine ze_iconst (v := ze_bi true) C d_M_rank_22 (by decide) ?_
        refine ze_istore (lv' := [(6, .int (ze_bi true)), (5, .int (nI i)), (4, .int (nI df)), (3, .int (nI (60 * s))), (0, .ref (ad 39)), (1, .int (nI s)), (2, .int (nI pl))]) C d_M_rank_23 (by decide) rfl ?_
        refine ze_iconst (v := nI 0) C d_M_rank_25 (by decide) ?_
        refine ze_istore (lv' := [(7, .int (nI 0)), (6, .int (ze_bi true)), (5, .int (nI i)), (4, .int (nI df)), (3, .int (nI (60 * s))), (0, .ref (ad 39)), (1, .int (nI s)), (2, .int (nI pl))]) C d_M_rank_26 (by decide) rfl ?_
        have inner : ∀ (r2 : Nat) (j : Nat) (fb : Bool), i - j = r2 → j ≤ i → (fb = true ↔ ∀ q, q < j → Ar 3 (60 * s + q) ≠ Ar 3 (60 * s + i)) → ze_V G 48 ad (ze_E (ze_i G) ad x (M, mv, ty, ma, co, le, Ar)) 0 0 28 [(7, .int (nI j)), (6, .int (ze_bi fb)), (5, .int (nI i)), (4, .int (nI df)), (3, .int (nI (60 * s))), (0, .ref (ad 39)), (1, .int (nI s)), (2, .int (nI pl))] [] := by
          intro r2
          induction r2 using Nat.strongRecOn with
          | ind r2 ih2 =>
            intro j fb hr2 k1 k2
            refine ze_iload C d_M_rank_28 0 rfl ?_
            refine ze_iload C d_M_rank_30 2 rfl ?_
            refine ze_icmp_geN 74 C d_M_rank_32 (by decide) (by omega) (by omega) (fun h32 => ?_) (fun h32 => ?_)
            · have hje : j = i := by omega
              subst hje
              have hfb : fb = true ↔ Ar 3 (60 * s + j) ∉ ze_dk (L.take j) := by rw [k2, ze_first_iff hH (by omega)]; exact ⟨fun z ⟨q, q1, q2⟩ => z q q1 q2, fun z q q1 q2 => z ⟨q, q1, q2⟩⟩
              refine ze_aload_n C d_M_rank_74 5 rfl rfl ?_
              refine ze_getf (k := 39) C fl_M_19 (by decide) ze_E_m rfl d_M_rank_75 ?_
              refine ze_iload_n C d_M_rank_78 4 rfl rfl ?_
              refine ze_iload C d_M_rank_79 2 rfl ?_
              refine ze_iaddN C d_M_rank_81 ?_
              refine ze_iald (k := 40 + 3) (i := 60 * s + j) C (by decide) (ze_E_a (j := 3)) (by show _ < 480; omega) (by decide) d_M_rank_82 ?_
              refine ze_aload_n C d_M_rank_83 5 rfl rfl ?_
              refine ze_getf (k := 39) C fl_M_19 (by decide) ze_E_m rfl d_M_rank_84 ?_
              refine ze_iload_n C d_M_rank_87 4 rfl rfl ?_
              refine ze_iload_n C d_M_rank_88 7 rfl rfl ?_
              refine ze_iaddN C d_M_rank_89 ?_
              refine ze_iald (k := 40 + 3) (i := 60 * s + pl) C (by decide) (ze_E_a (j := 3)) (by show _ < 480; omega) (by decide) d_M_rank_90 ?_
              refine ze_icmp_ne 97 C d_M_rank_91 (by decide) (fun h91 => ?_) (fun h91 => ?_)
              · refine ze_iload C d_M_rank_97 3 rfl ?_
                refine ze_iload C d_M_rank_99 1 rfl ?_
                refine ze_if_eq 108 C d_M_rank_101 (by decide) (fun h101 => ?_) (fun h101 => ?_)
                · refine ze_iconst (v := nI 0) C d_M_rank_108 (by decide) ?_
                  refine ze_iaddN C d_M_rank_109 ?_
                  refine ze_istore (lv' := [(4, .int (nI (df + 0))), (7, .int (nI j)), (6, .int (ze_bi fb)), (5, .int (nI j)), (3, .int (nI (60 * s))), (0, .ref (ad 39)), (1, .int (nI s)), (2, .int (nI pl))]) C d_M_rank_110 (by decide) rfl ?_
                  refine ze_iinc (j := 3) (v := nI (j + 1)) (lv' := [(5, .int (nI (j + 1))), (4, .int (nI (df + 0))), (7, .int (nI j)), (6, .int (ze_bi fb)), (3, .int (nI (60 * s))), (0, .ref (ad 39)), (1, .int (nI s)), (2, .int (nI pl))]) C d_M_rank_112 rfl (nI_1 _) (by decide) rfl ?_
                  refine ze_goto 11 C d_M_rank_115 (by decide) ?_
                  refine ze_sub [(5, .int (nI (j + 1))), (4, .int (nI (df + 0))), (3, .int (nI (60 * s))), (0, .ref (ad 39)), (1, .int (nI s)), (2, .int (nI pl))] [0, 1, 4, 5, 6, 7] rfl ?_
                  have hne : j ≠ pl := fun z => by subst z; exact h91 rfl
                  exact ih (L.length - (j + 1)) (by omega) (j + 1) _ rfl (by omega) (by rw [ze_dk_take_succ hH (by omega), ← g2, if_pos (Decidable.not_not.mp (fun z => absurd (hfb.mpr z) (by rw [ze_bi0.mp h101]; decide)))]) (fun z => by rw [ze_first_iff hH (by omega)] at z g3; obtain ⟨q, q1, q2⟩ := z; by_cases e : q = j; (subst e; exact h91 q2); exact g3 ⟨q, by omega, q2⟩)
                · refine ze_iconst (v := nI 1) C d_M_rank_104 (by decide) ?_
                  refine ze_goto 109 C d_M_rank_105 (by decide) ?_
                  refine ze_iaddN C d_M_rank_109 ?_
                  refine ze_istore (lv' := [(4, .int (nI (df + 1))), (7, .int (nI j)), (6, .int (ze_bi fb)), (5, .int (nI j)), (3, .int (nI (60 * s))), (0, .ref (ad 39)), (1, .int (nI s)), (2, .int (nI pl))]) C d_M_rank_110 (by decide) rfl ?_
                  refine ze_iinc (j := 3) (v := nI (j + 1)) (lv' := [(5, .int (nI (j + 1))), (4, .int (nI (df + 1))), (7, .int (nI j)), (6, .int (ze_bi fb)), (3, .int (nI (60 * s))), (0, .ref (ad 39)), (1, .int (nI s)), (2, .int (nI pl))]) C d_M_rank_112 rfl (nI_1 _) (by decide) rfl ?_
                  refine ze_goto 11 C d_M_rank_115 (by decide) ?_
                  refine ze_sub [(5, .int (nI (j + 1))), (4, .int (nI (df + 1))), (3, .int (nI (60 * s))), (0, .ref (ad 39)), (1, .int (nI s)), (2, .int (nI pl))] [0, 1, 4, 5, 6, 7] rfl ?_
                  have hne : j ≠ pl := fun z => by subst z; exact h91 rfl
                  exact ih (L.length - (j + 1)) (by omega) (j + 1) _ rfl (by omega) (by rw [ze_dk_take_succ hH (by omega), ← g2, if_neg (hfb.mp (ze_bi1 h101))]) (fun z => by rw [ze_first_iff hH (by omega)] at z g3; obtain ⟨q, q1, q2⟩ := z; by_cases e : q = j; (subst e; exact h91 q2); exact g3 ⟨q, by omega, q2⟩)
              · refine ze_iload C d_M_rank_94 3 rfl ?_
                exact ze_iret C Rt d_M_rank_96 (⟨rfl, rfl, _, rfl, df, rfl, rfl, by rw [g2]; rw [← h91] at g3 ⊢; exact ze_rank_first (ze_Hl_row hH (by omega)) g3⟩)
            · refine ze_iload C d_M_rank_35 1 rfl ?_
              refine ze_if_eq 65 C d_M_rank_37 (by decide) (fun h37 => ?_) (fun h37 => ?_)
              · refine ze_iconst (v := ze_bi false) C d_M_rank_65 (by decide) ?_
                refine ze_istore (lv' := [(6, .int (ze_bi false)), (7, .int (nI j)), (5, .int (nI i)), (4, .int (nI df)), (3, .int (nI (60 * s))), (0, .ref (ad 39)), (1, .int (nI s)), (2, .int (nI pl))]) C d_M_rank_66 (by decide) rfl ?_
                refine ze_iinc (j := 1) (v := nI (j + 1)) (lv' := [(7, .int (nI (j + 1))), (6, .int (ze_bi false)), (5, .int (nI i)), (4, .int (nI df)), (3, .int (nI (60 * s))), (0, .ref (ad 39)), (1, .int (nI s)), (2, .int (nI pl))]) C d_M_rank_68 rfl (nI_1 _) (by decide) rfl ?_
                refine ze_goto 28 C d_M_rank_71 (by decide) ?_
                refine ze_sub [(7, .int (nI (j + 1))), (6, .int (ze_bi false)), (5, .int (nI i)), (4, .int (nI df)), (3, .int (nI (60 * s))), (0, .ref (ad 39)), (1, .int (nI s)), (2, .int (nI pl))] [0, 1, 2, 3, 4, 5, 6, 7] rfl ?_
                exact ih2 (i - (j + 1)) (by omega) (j + 1) false rfl (by omega) ⟨fun z => absurd z (by decide), fun z => absurd (k2.mpr (fun q hq => z q (by omega))) (by rw [ze_bi0.mp h37]; decide)⟩
              · refine ze_aload_n C d_M_rank_40 5 rfl rfl ?_
                refine ze_getf (k := 39) C fl_M_19 (by decide) ze_E_m rfl d_M_rank_41 ?_
                refine ze_iload_n C d_M_rank_44 4 rfl rfl ?_
                refine ze_iload C d_M_rank_45 0 rfl ?_
                refine ze_iaddN C d_M_rank_47 ?_
                refine ze_iald (k := 40 + 3) (i := 60 * s + j) C (by decide) (ze_E_a (j := 3)) (by show _ < 480; omega) (by decide) d_M_rank_48 ?_
                refine ze_aload_n C d_M_rank_49 5 rfl rfl ?_
                refine ze_getf (k := 39) C fl_M_19 (by decide) ze_E_m rfl d_M_rank_50 ?_
                refine ze_iload_n C d_M_rank_53 4 rfl rfl ?_
                refine ze_iload C d_M_rank_54 2 rfl ?_
                refine ze_iaddN C d_M_rank_56 ?_
                refine ze_iald (k := 40 + 3) (i := 60 * s + i) C (by decide) (ze_E_a (j := 3)) (by show _ < 480; omega) (by decide) d_M_rank_57 ?_
                refine ze_icmp_eq 65 C d_M_rank_58 (by decide) (fun h58 => ?_) (fun h58 => ?_)
                · refine ze_iconst (v := ze_bi false) C d_M_rank_65 (by decide) ?_
                  refine ze_istore (lv' := [(6, .int (ze_bi false)), (7, .int (nI j)), (5, .int (nI i)), (4, .int (nI df)), (3, .int (nI (60 * s))), (0, .ref (ad 39)), (1, .int (nI s)), (2, .int (nI pl))]) C d_M_rank_66 (by decide) rfl ?_
                  refine ze_iinc (j := 1) (v := nI (j + 1)) (lv' := [(7, .int (nI (j + 1))), (6, .int (ze_bi false)), (5, .int (nI i)), (4, .int (nI df)), (3, .int (nI (60 * s))), (0, .ref (ad 39)), (1, .int (nI s)), (2, .int (nI pl))]) C d_M_rank_68 rfl (nI_1 _) (by decide) rfl ?_
                  refine ze_goto 28 C d_M_rank_71 (by decide) ?_
                  refine ze_sub [(7, .int (nI (j + 1))), (6, .int (ze_bi false)), (5, .int (nI i)), (4, .int (nI df)), (3, .int (nI (60 * s))), (0, .ref (ad 39)), (1, .int (nI s)), (2, .int (nI pl))] [0, 1, 2, 3, 4, 5, 6, 7] rfl ?_
                  exact ih2 (i - (j + 1)) (by omega) (j + 1) false rfl (by omega) ⟨fun z => absurd z (by decide), fun z => absurd h58 (z j (by omega))⟩
                · refine ze_iconst (v := ze_bi true) C d_M_rank_61 (by decide) ?_
                  refine ze_goto 66 C d_M_rank_62 (by decide) ?_
                  refine ze_istore (lv' := [(6, .int (ze_bi true)), (7, .int (nI j)), (5, .int (nI i)), (4, .int (nI df)), (3, .int (nI (60 * s))), (0, .ref (ad 39)), (1, .int (nI s)), (2, .int (nI pl))]) C d_M_rank_66 (by decide) rfl ?_
                  refine ze_iinc (j := 1) (v := nI (j + 1)) (lv' := [(7, .int (nI (j + 1))), (6, .int (ze_bi true)), (5, .int (nI i)), (4, .int (nI df)), (3, .int (nI (60 * s))), (0, .ref (ad 39)), (1, .int (nI s)), (2, .int (nI pl))]) C d_M_rank_68 rfl (nI_1 _) (by decide) rfl ?_
                  refine ze_goto 28 C d_M_rank_71 (by decide) ?_
                  refine ze_sub [(7, .int (nI (j + 1))), (6, .int (ze_bi true)), (5, .int (nI i)), (4, .int (nI df)), (3, .int (nI (60 * s))), (0, .ref (ad 39)), (1, .int (nI s)), (2, .int (nI pl))] [0, 1, 2, 3, 4, 5, 6, 7] rfl ?_
                  exact ih2 (i - (j + 1)) (by omega) (j + 1) true rfl (by omega) ⟨fun _ q hq => by by_cases e : q = j; (subst e; exact h58); exact k2.mp (ze_bi1 h37) q (by omega), fun _ => rfl⟩
        refine ze_sub [(7, .int (nI 0)), (6, .int (ze_bi true)), (5, .int (nI i)), (4, .int (nI df)), (3, .int (nI (60 * s))), (0, .ref (ad 39)), (1, .int (nI s)), (2, .int (nI pl))] [0, 1, 2, 3, 4, 5, 6, 7] rfl ?_
        exact inner _ 0 true rfl (Nat.zero_le _) ⟨fun _ q hq => absurd hq (by omega), fun _ => rfl⟩
  refine ze_bipush (v := nI 60) C d_M_rank_0 (by decide) ?_
  refine ze_iload_n C d_M_rank_2 1 rfl rfl ?_
  refine ze_imulN C d_M_rank_3 ?_
  refine ze_istore_n (lv' := [(3, .int (nI (60 * s))), (0, .ref (ad 39)), (1, .int (nI s)), (2, .int (nI pl))]) C d_M_rank_4 rfl (by decide) rfl ?_
  refine ze_iconst (v := nI 0) C d_M_rank_5 (by decide) ?_
  refine ze_istore (lv' := [(4, .int (nI 0)), (3, .int (nI (60 * s))), (0, .ref (ad 39)), (1, .int (nI s)), (2, .int (nI pl))]) C d_M_rank_6 (by decide) rfl ?_
  refine ze_iconst (v := nI 0) C d_M_rank_8 (by decide) ?_
  refine ze_istore (lv' := [(5, .int (nI 0)), (4, .int (nI 0)), (3, .int (nI (60 * s))), (0, .ref (ad 39)), (1, .int (nI s)), (2, .int (nI pl))]) C d_M_rank_9 (by decide) rfl ?_
  exact loop _ 0 0 rfl (Nat.zero_le _) rfl (by simp [ze_dk])

set_option maxRecDepth 100000 in
set_option maxHeartbeats 4000000 in
theorem c_M_behind (l : Launch) (D : va_G) (ids : Nat → ClassId) (ad : Nat → Nat) (x : ze_XS) (M : Nat) (mv : Int64) (ty ma co le : Nat) (Ar : Nat → Nat → Int32) (L : List ze_Row) (s : Nat) (hs : s < 8) (hL : L.length ≤ 60) (hc : Ar 2 s = nI L.length) (hH : ze_Hl (Ar 3) (Ar 4) (60 * s) L) (q : Nat) (hq : q < 10000) : ze_MM l D ids ad x y_M_behind ws_M_behind 4 (M, mv, ty, ma, co, le, Ar) [.ref (ad 39), .int (nI s), .int (nI q)] (fun v ms' => v = some (.int (nI (ze_lf L q).length)) ∧ ms' = (M, mv, ty, ma, co, le, Ar)) := by
  refine ze_enter (cc := b_M_behind) (maxL := 5) (ret := (some .int)) (by decide +kernel) rfl (Nat.le_of_ble_eq_true rfl) ?_
  rintro G rfl rfl rfl - C Rt
  refine ze_lv (lv' := [(0, .ref (ad 39)), (1, .int (nI s)), (2, .int (nI q))]) rfl ?_
  have loop : ∀ (r : Nat) (p n : Nat), L.length - p = r → p ≤ L.length → n = ((L.take p).filter (fun r => !decide (r.1 ∈ (ze_dk L).take q))).length → n ≤ p → ze_V G 48 ad (ze_E (ze_i G) ad x (M, mv, ty, ma, co, le, Ar)) 0 0 5 [(4, .int (nI p)), (3, .int (nI n)), (0, .ref (ad 39)), (1, .int (nI s)), (2, .int (nI q))] [] := by
    intro r
    induction r using Nat.strongRecOn with
    | ind r ih =>
      intro p n hr g1 g2 g3
      refine ze_iload C d_M_behind_5 0 rfl ?_
      refine ze_aload_n C d_M_behind_7 2 rfl rfl ?_
      refine ze_getf (k := 39) C fl_M_16 (by decide) ze_E_m rfl d_M_behind_8 ?_
      refine ze_iload_n C d_M_behind_11 3 rfl rfl ?_
      refine ze_iald (k := 40 + 2) (i := s) C (by decide) (ze_E_a (j := 2)) (by show _ < 8; omega) (by decide) d_M_behind_12 ?_
      rw [hc]
      refine ze_icmp_geN 41 C d_M_behind_13 (by decide) (by omega) (by omega) (fun h13 => ?_) (fun h13 => ?_)
      · refine ze_iload_n C d_M_behind_41 1 rfl rfl ?_
        exact ze_iret C Rt d_M_behind_42 (⟨rfl, rfl, _, rfl, by rw [g2, show L.take p = L from List.take_of_length_le (by omega)]; rfl, rfl⟩)
      · refine ze_iload_n C d_M_behind_16 1 rfl rfl ?_
        refine ze_aload_n C d_M_behind_17 2 rfl rfl ?_
        refine ze_iload_n C d_M_behind_18 3 rfl rfl ?_
        refine ze_iload C d_M_behind_19 0 rfl ?_
        refine ze_callV (st := [.int (nI n)]) C (c_M_rank (ze_l G) (ze_D G) (ze_i G) ad x M mv ty ma co le Ar L s hs hL hc hH p (by omega)) (kv_M_91 (ze_rml (by decide) (by decide))) (by decide) ze_E_m rfl (Nat.le_of_ble_eq_true rfl) ⟨Nat.le_of_ble_eq_true rfl, Nat.le_of_ble_eq_true rfl⟩ d_M_behind_21 ?_
        rintro _ _ _ _ ⟨rfl, rfl, _, rfl, ρ, rfl, rfl, hρ⟩
        refine ze_norm (c2 := 0) (s2 := 0) (st' := [.int (nI ρ), .int (nI n)]) rfl rfl rfl ?_
        have hρl := (List.getElem?_eq_some_iff.mp hρ).1
        have hdk := ze_dk_len L
        refine ze_iload_n C d_M_behind_24 4 rfl rfl ?_
        refine ze_icmp_ltN 32 C d_M_behind_25 (by decide) (by omega) (by omega) (fun h25 => ?_) (fun h25 => ?_)
        · refine ze_iconst (v := nI 0) C d_M_behind_32 (by decide) ?_
          refine ze_iaddN C d_M_behind_33 ?_
          refine ze_istore_n (lv' := [(3, .int (nI (n + 0))), (4, .int (nI p)), (0, .ref (ad 39)), (1, .int (nI s)), (2, .int (nI q))]) C d_M_behind_34 rfl (by decide) rfl ?_
          refine ze_iinc (j := 1) (v := nI (p + 1)) (lv' := [(4, .int (nI (p + 1))), (3, .int (nI (n + 0))), (0, .ref (ad 39)), (1, .int (nI s)), (2, .int (nI q))]) C d_M_behind_35 rfl (nI_1 _) (by decide) rfl ?_
          refine ze_goto 5 C d_M_behind_38 (by decide) ?_
          refine ze_sub [(4, .int (nI (p + 1))), (3, .int (nI (n + 0))), (0, .ref (ad 39)), (1, .int (nI s)), (2, .int (nI q))] [0, 1, 2, 3, 4] rfl ?_
          exact ih (L.length - (p + 1)) (by omega) (p + 1) _ rfl (by omega) (by rw [ze_lf_take_succ hH (by omega) hρ, ← g2, if_pos h25]) (by omega)
        · refine ze_iconst (v := nI 1) C d_M_behind_28 (by decide) ?_
          refine ze_goto 33 C d_M_behind_29 (by decide) ?_
          refine ze_iaddN C d_M_behind_33 ?_
          refine ze_istore_n (lv' := [(3, .int (nI (n + 1))), (4, .int (nI p)), (0, .ref (ad 39)), (1, .int (nI s)), (2, .int (nI q))]) C d_M_behind_34 rfl (by decide) rfl ?_
          refine ze_iinc (j := 1) (v := nI (p + 1)) (lv' := [(4, .int (nI (p + 1))), (3, .int (nI (n + 1))), (0, .ref (ad 39)), (1, .int (nI s)), (2, .int (nI q))]) C d_M_behind_35 rfl (nI_1 _) (by decide) rfl ?_
          refine ze_goto 5 C d_M_behind_38 (by decide) ?_
          refine ze_sub [(4, .int (nI (p + 1))), (3, .int (nI (n + 1))), (0, .ref (ad 39)), (1, .int (nI s)), (2, .int (nI q))] [0, 1, 2, 3, 4] rfl ?_
          exact ih (L.length - (p + 1)) (by omega) (p + 1) _ rfl (by omega) (by rw [ze_lf_take_succ hH (by omega) hρ, ← g2, if_neg (by omega)]) (by omega)
  refine ze_iconst (v := nI 0) C d_M_behind_0 (by decide) ?_
  refine ze_istore_n (lv' := [(3, .int (nI 0)), (0, .ref (ad 39)), (1, .int (nI s)), (2, .int (nI q))]) C d_M_behind_1 rfl (by decide) rfl ?_
  refine ze_iconst (v := nI 0) C d_M_behind_2 (by decide) ?_
  refine ze_istore (lv' := [(4, .int (nI 0)), (3, .int (nI 0)), (0, .ref (ad 39)), (1, .int (nI s)), (2, .int (nI q))]) C d_M_behind_3 (by decide) rfl ?_
  exact loop _ 0 0 rfl (Nat.zero_le _) rfl (Nat.le_refl _)

set_option maxRecDepth 100000 in
set_option maxHeartbeats 4000000 in
theorem c_M_group (l : Launch) (D : va_G) (ids : Nat → ClassId) (ad : Nat → Nat) (x : ze_XS) (M : Nat) (mv : Int64) (ma co le : Nat) (Ar : Nat → Nat → Int32) (inp : List ze_Row) (sl : Nat → Option (List ze_Row)) (hR : ze_rA Ar inp sl) (hM : 3 ≤ M ∧ M ≤ 6) (fr into : Int32) : ze_MM l D ids ad x y_M_group ws_M_group 20 (M, mv, inp.length, ma, co, le, Ar) [.ref (ad 39), .int fr, .int into] (fun v ms' => v = some (.int (sp_group (inp, sl, mv, M) fr into).1) ∧ ze_rM ms' (sp_group (inp, sl, mv, M) fr into).2) := by
  refine ze_enter (cc := b_M_group) (maxL := 8) (ret := (some .int)) (by decide +kernel) rfl (Nat.le_of_ble_eq_true rfl) ?_
  rintro G rfl rfl rfl - C Rt
  refine ze_lv (lv' := [(0, .ref (ad 39)), (1, .int fr), (2, .int into)]) rfl ?_
  have hin := hR.1
  refine ze_aload_n C d_M_group_0 0 rfl rfl ?_
  refine ze_iconst (v := ze_bi true) C d_M_group_1 (by decide) ?_
  refine ze_iload_n C d_M_group_2 1 rfl rfl ?_
  refine ze_iload_n C d_M_group_3 1 rfl rfl ?_
  refine ze_iload_n C d_M_group_4 2 rfl rfl ?_
  refine ze_callV (st := []) C (c_M_refuse (ze_l G) (ze_D G) (ze_i G) ad x M mv inp.length ma co le Ar inp sl hR hM true fr fr into) (kv_M_65 (ze_rml (by decide) (by decide))) (by decide) ze_E_m rfl (Nat.le_of_ble_eq_true rfl) ⟨Nat.le_of_ble_eq_true rfl, Nat.le_of_ble_eq_true rfl⟩ d_M_group_5 ?_
  rintro _ _ _ _ ⟨rfl, rfl, _, rfl, rfl, ma1, co1, rfl, hz0⟩
  refine ze_norm (c2 := 0) (s2 := 0) (st' := [.int (ze_rfs sl true fr fr into)]) rfl rfl rfl ?_
  refine ze_istore_n (lv' := [(3, .int (ze_rfs sl true fr fr into)), (0, .ref (ad 39)), (1, .int fr), (2, .int into)]) C d_M_group_8 rfl (by decide) rfl ?_
  refine ze_iload_n C d_M_group_9 0 rfl rfl ?_
  refine ze_if_eq 15 C d_M_group_10 (by decide) (fun h10 => ?_) (fun h10 => ?_)
  · obtain ⟨rfl, rfl⟩ := hz0 h10
    obtain ⟨ja, jb, ji, A, B, hja, hjb, hji, ea, eb, rfl, hne, hneb, hA, hB, hI, hok, hop⟩ := ze_rfs_0 (σ := (inp, sl, mv, M)) h10
    have eab : ja = jb := (nI_eq (by omega) (by omega)).mp (ea.symm.trans eb)
    subst eab
    subst ea
    simp only at hA hB hI
    rw [hA] at hB
    cases hB
    obtain ⟨hA60, hcA, hHA⟩ := hR.2.2.2 ja hja A hA
    refine ze_sub [(0, .ref (ad 39)), (1, .int (nI ja)), (2, .int (nI ji))] [1, 2, 3] rfl ?_
    have hsp : sp_group (inp, sl, mv, M) (nI ja) (nI ji) = sp_fin (inp, sl, mv, M) ji (ze_grp A, ze_gc (ze_rm4 M) A 60 0 + ze_sz (ze_grp A).length) := by rw [sp_group, hop]
    refine ze_iconst (v := nI 0) C d_M_group_15 (by decide) ?_
    refine ze_istore (lv' := [(4, .int (nI 0)), (0, .ref (ad 39)), (1, .int (nI ja)), (2, .int (nI ji))]) C d_M_group_16 (by decide) rfl ?_
    have loop : ∀ (r : Nat) (i m1 : Nat) (A1 : Nat → Nat → Int32), A.length - i = r → i ≤ A.length → (∀ z, z ≠ 5 → z ≠ 6 → A1 z = Ar z) → ze_Mk A1 m1 (ze_gm A i) → ze_V G 48 ad (ze_E (ze_i G) ad x (M, mv, inp.length, m1, 0, le, A1)) 0 0 18 [(4, .int (nI i)), (0, .ref (ad 39)), (1, .int (nI ja)), (2, .int (nI ji))] [] := by
      intro r
      induction r using Nat.strongRecOn with
      | ind r ih =>
        intro i m1 A1 hr g1 g2 g3
        have hc1 : A1 2 ja = nI A.length := by rw [g2 2 (by decide) (by decide)]; exact hcA
        have hH1 : ze_Hl (A1 3) (A1 4) (60 * ja) A := by rw [g2 3 (by decide) (by decide), g2 4 (by decide) (by decide)]; exact hHA
        have hm1 := g3.1
        rw [ze_gm_len] at hm1
        have hdi : (ze_dk (A.take i)).length ≤ 60 := Nat.le_trans (ze_dk_len _) (by rw [List.length_take]; omega)
        refine ze_iload C d_M_group_18 0 rfl ?_
        refine ze_aload_n C d_M_group_20 1 rfl rfl ?_
        refine ze_getf (k := 39) C fl_M_16 (by decide) ze_E_m rfl d_M_group_21 ?_
        refine ze_iload_n C d_M_group_24 2 rfl rfl ?_
        refine ze_iald (k := 40 + 2) (i := ja) C (by decide) (ze_E_a (j := 2)) (by show _ < 8; omega) (by decide) d_M_group_25 ?_
        rw [hc1]
        refine ze_icmp_geN 139 C d_M_group_26 (by decide) (by omega) (by omega) (fun h26 => ?_) (fun h26 => ?_)
        · have hgm : ze_gm A i = ze_grp A := by unfold ze_gm ze_grp; rw [List.take_of_length_le (by omega)]
          rw [hgm] at g3
          rw [List.take_of_length_le (by omega)] at hm1 hdi
          have hR1 := ze_rA_56 hR (fun z z1 z2 _ => g2 z z1 z2)
          have he : 4 ≤ ze_rm4 M ∧ ze_rm4 M ≤ 16 := by unfold ze_rm4; omega
          refine ze_iconst (v := nI 4) C d_M_group_139 (by decide) ?_
          refine ze_aload_n C d_M_group_140 1 rfl rfl ?_
          refine ze_getf (k := 39) C fl_M_34 (by decide) ze_E_m rfl d_M_group_141 ?_
          refine ze_iconst (v := nI 2) C d_M_group_144 (by decide) ?_
          refine ze_isubN C d_M_group_145 (by omega) ?_
          refine ze_imulN C d_M_group_146 ?_
          refine ze_istore (lv' := [(4, .int (nI (4 * (M - 2)))), (0, .ref (ad 39)), (1, .int (nI ja)), (2, .int (nI ji))]) C d_M_group_147 (by decide) rfl ?_
          refine ze_iconst (v := nI 0) C d_M_group_149 (by decide) ?_
          refine ze_istore (lv' := [(5, .int (nI 0)), (4, .int (nI (4 * (M - 2)))), (0, .ref (ad 39)), (1, .int (nI ja)), (2, .int (nI ji))]) C d_M_group_150 (by decide) rfl ?_
          have rounds : ∀ (r3 : Nat) (d cc : Nat), 60 - d = r3 → d ≤ 60 → cc + ze_gc (ze_rm4 M) A (60 - d) (d * ze_rm4 M) = ze_gc (ze_rm4 M) A 60 0 → ze_V G 48 ad (ze_E (ze_i G) ad x (M, mv, inp.length, m1, cc, le, A1)) 0 0 152 [(5, .int (nI (d * ze_rm4 M))), (4, .int (nI (ze_rm4 M))), (0, .ref (ad 39)), (1, .int (nI ja)), (2, .int (nI ji))] [] := by
            intro r3
            induction r3 using Nat.strongRecOn with
            | ind r3 ih3 =>
              intro d cc hr3 k1 k2
              have hde : d * ze_rm4 M ≤ 60 * 16 := Nat.mul_le_mul k1 he.2
              refine ze_iload C d_M_group_152 0 rfl ?_
              refine ze_aload_n C d_M_group_154 2 rfl rfl ?_
              refine ze_getf (k := 39) C fl_M_55 (by decide) ze_E_m rfl d_M_group_155 ?_
              refine ze_icmp_geN 214 C d_M_group_158 (by decide) (by omega) (by omega) (fun h158 => ?_) (fun h158 => ?_)
              · have hgc : ze_gc (ze_rm4 M) A (60 - d) (d * ze_rm4 M) = 0 := by cases hx : 60 - d with | zero => rfl | succ y => rw [ze_gc, if_neg (by omega)]
                have hcc : cc = ze_gc (ze_rm4 M) A 60 0 := by omega
                refine ze_aload_n C d_M_group_214 2 rfl rfl ?_
                refine ze_aload_n C d_M_group_215 2 rfl rfl ?_
                refine ze_getf (k := 39) C fl_M_58 (by decide) ze_E_m rfl d_M_group_216 ?_
                refine ze_aload_n C d_M_group_219 2 rfl rfl ?_
                refine ze_getf (k := 39) C fl_M_55 (by decide) ze_E_m rfl d_M_group_220 ?_
                refine ze_callS (st := [.long (lN cc), .ref (ad 39)]) C (c_M_size (ze_l G) (ze_D G) (ze_i G) _ _ _ m1 (by omega)) (ks_M_38 (ze_rml (by decide) (by decide))) rfl (Nat.le_of_ble_eq_true rfl) ⟨Nat.le_of_ble_eq_true rfl, Nat.le_of_ble_eq_true rfl⟩ d_M_group_223 ?_
                rintro _ _ _ _ ⟨rfl, rfl, rfl, rfl⟩
                refine ze_norm (c2 := 0) (s2 := 0) (st' := [.int (nI (ze_sz m1)), .long (lN cc), .ref (ad 39)]) rfl rfl rfl ?_
                have hz223 := ze_sz_le m1
                refine ze_i2lN C d_M_group_226 (by omega) ?_
                refine ze_laddN C d_M_group_227 ?_
                refine ze_putf (k := 39) C fp_M_58 (by decide) ze_E_m rfl rfl (Nat.le_of_ble_eq_true rfl) d_M_group_228 ?_
                refine ze_eqE (ze_up_m (ms' := (M, mv, inp.length, m1, cc + (ze_sz m1), le, A1)) rfl rfl) ?_
                refine ze_aload_n C d_M_group_231 2 rfl rfl ?_
                refine ze_iload_n C d_M_group_232 4 rfl rfl ?_
                refine ze_callV (st := []) C (c_M_finish (ze_l G) (ze_D G) (ze_i G) ad x M mv inp.length m1 (cc + (ze_sz m1)) le A1 inp sl hR1 hM ji hji rfl (ze_grp A, ze_gc (ze_rm4 M) A 60 0 + ze_sz (ze_grp A).length) g3 (fun _ => by rw [hcc, hm1, ze_grp_len]) (by omega)) (kv_M_77 (ze_rml (by decide) (by decide))) (by decide) ze_E_m rfl (Nat.le_of_ble_eq_true rfl) ⟨Nat.le_of_ble_eq_true rfl, Nat.le_of_ble_eq_true rfl⟩ d_M_group_233 ?_
                rintro _ _ _ _ ⟨rfl, rfl, ms', rfl, rfl, hr⟩
                refine ze_norm (c2 := 0) (s2 := 0) (st' := [.int (sp_fin (inp, sl, mv, M) ji (ze_grp A, ze_gc (ze_rm4 M) A 60 0 + ze_sz (ze_grp A).length)).1]) rfl rfl rfl ?_
                exact ze_iret C Rt d_M_group_236 ⟨rfl, rfl, _, rfl, by rw [hsp], by rw [hsp]; exact hr⟩
              · refine ze_aload_n C d_M_group_161 2 rfl rfl ?_
                refine ze_iload_n C d_M_group_162 3 rfl rfl ?_
                refine ze_iload C d_M_group_163 0 rfl ?_
                refine ze_callV (st := []) C (c_M_behind (ze_l G) (ze_D G) (ze_i G) ad x M mv inp.length m1 cc le A1 A ja hja hA60 hc1 hH1 (d * ze_rm4 M) (by omega)) (kv_M_95 (ze_rml (by decide) (by decide))) (by decide) ze_E_m rfl (Nat.le_of_ble_eq_true rfl) ⟨Nat.le_of_ble_eq_true rfl, Nat.le_of_ble_eq_true rfl⟩ d_M_group_165 ?_
                rintro _ _ _ _ ⟨rfl, rfl, _, rfl, rfl, rfl⟩
                refine ze_norm (c2 := 0) (s2 := 0) (st' := [.int (nI ((ze_lf A (d * ze_rm4 M)).length))]) rfl rfl rfl ?_
                have hlfa : (ze_lf A (d * ze_rm4 M)).length ≤ 60 := Nat.le_trans (List.length_filter_le _ _) hA60
                refine ze_istore (lv' := [(6, .int (nI ((ze_lf A (d * ze_rm4 M)).length))), (5, .int (nI (d * ze_rm4 M))), (4, .int (nI (ze_rm4 M))), (0, .ref (ad 39)), (1, .int (nI ja)), (2, .int (nI ji))]) C d_M_group_168 (by decide) rfl ?_
                refine ze_aload_n C d_M_group_170 3 rfl rfl ?_
                refine ze_iload_n C d_M_group_171 4 rfl rfl ?_
                refine ze_iload C d_M_group_172 1 rfl ?_
                refine ze_iload C d_M_group_174 2 rfl ?_
                refine ze_iaddN C d_M_group_176 ?_
                refine ze_callV (st := []) C (c_M_behind (ze_l G) (ze_D G) (ze_i G) ad x M mv inp.length m1 cc le A1 A ja hja hA60 hc1 hH1 (d * ze_rm4 M + (ze_rm4 M)) (by omega)) (kv_M_95 (ze_rml (by decide) (by decide))) (by decide) ze_E_m rfl (Nat.le_of_ble_eq_true rfl) ⟨Nat.le_of_ble_eq_true rfl, Nat.le_of_ble_eq_true rfl⟩ d_M_group_177 ?_
                rintro _ _ _ _ ⟨rfl, rfl, _, rfl, rfl, rfl⟩
                refine ze_norm (c2 := 0) (s2 := 0) (st' := [.int (nI ((ze_lf A (d * ze_rm4 M + (ze_rm4 M))).length))]) rfl rfl rfl ?_
                have hlfb : (ze_lf A (d * ze_rm4 M + ze_rm4 M)).length ≤ 60 := Nat.le_trans (List.length_filter_le _ _) hA60
                refine ze_istore (lv' := [(7, .int (nI ((ze_lf A (d * ze_rm4 M + (ze_rm4 M))).length))), (6, .int (nI ((ze_lf A (d * ze_rm4 M)).length))), (5, .int (nI (d * ze_rm4 M))), (4, .int (nI (ze_rm4 M))), (0, .ref (ad 39)), (1, .int (nI ja)), (2, .int (nI ji))]) C d_M_group_180 (by decide) rfl ?_
                refine ze_aload_n C d_M_group_182 4 rfl rfl ?_
                refine ze_aload_n C d_M_group_183 4 rfl rfl ?_
                refine ze_getf (k := 39) C fl_M_58 (by decide) ze_E_m rfl d_M_group_184 ?_
                refine ze_iload C d_M_group_187 1 rfl ?_
                refine ze_callS (st := [.long (lN cc), .ref (ad 39)]) C (c_M_size (ze_l G) (ze_D G) (ze_i G) _ _ _ ((ze_lf A (d * ze_rm4 M)).length) (by omega)) (ks_M_38 (ze_rml (by decide) (by decide))) rfl (Nat.le_of_ble_eq_true rfl) ⟨Nat.le_of_ble_eq_true rfl, Nat.le_of_ble_eq_true rfl⟩ d_M_group_189 ?_
                rintro _ _ _ _ ⟨rfl, rfl, rfl, rfl⟩
                refine ze_norm (c2 := 0) (s2 := 0) (st' := [.int (nI (ze_sz ((ze_lf A (d * ze_rm4 M)).length))), .long (lN cc), .ref (ad 39)]) rfl rfl rfl ?_
                have hz189 := ze_sz_le ((ze_lf A (d * ze_rm4 M)).length)
                refine ze_i2lN C d_M_group_192 (by omega) ?_
                refine ze_laddN C d_M_group_193 ?_
                refine ze_iload C d_M_group_194 0 rfl ?_
                refine ze_callS (st := [.long (lN (cc + (ze_sz ((ze_lf A (d * ze_rm4 M)).length)))), .ref (ad 39)]) C (c_M_size (ze_l G) (ze_D G) (ze_i G) _ _ _ ((ze_lf A (d * ze_rm4 M + (ze_rm4 M))).length) (by omega)) (ks_M_38 (ze_rml (by decide) (by decide))) rfl (Nat.le_of_ble_eq_true rfl) ⟨Nat.le_of_ble_eq_true rfl, Nat.le_of_ble_eq_true rfl⟩ d_M_group_196 ?_
                rintro _ _ _ _ ⟨rfl, rfl, rfl, rfl⟩
                refine ze_norm (c2 := 0) (s2 := 0) (st' := [.int (nI (ze_sz ((ze_lf A (d * ze_rm4 M + (ze_rm4 M))).length))), .long (lN (cc + (ze_sz ((ze_lf A (d * ze_rm4 M)).length)))), .ref (ad 39)]) rfl rfl rfl ?_
                have hz196 := ze_sz_le ((ze_lf A (d * ze_rm4 M + (ze_rm4 M))).length)
                refine ze_i2lN C d_M_group_199 (by omega) ?_
                refine ze_laddN C d_M_group_200 ?_
                refine ze_putf (k := 39) C fp_M_58 (by decide) ze_E_m rfl rfl (Nat.le_of_ble_eq_true rfl) d_M_group_201 ?_
                refine ze_eqE (ze_up_m (ms' := (M, mv, inp.length, m1, cc + (ze_sz ((ze_lf A (d * ze_rm4 M)).length)) + (ze_sz ((ze_lf A (d * ze_rm4 M + (ze_rm4 M))).length)), le, A1)) rfl rfl) ?_
                refine ze_iload C d_M_group_204 2 rfl ?_
                refine ze_iload C d_M_group_206 3 rfl ?_
                refine ze_iaddN C d_M_group_208 ?_
                refine ze_istore (lv' := [(5, .int (nI (d * ze_rm4 M + (ze_rm4 M)))), (7, .int (nI ((ze_lf A (d * ze_rm4 M + (ze_rm4 M))).length))), (6, .int (nI ((ze_lf A (d * ze_rm4 M)).length))), (4, .int (nI (ze_rm4 M))), (0, .ref (ad 39)), (1, .int (nI ja)), (2, .int (nI ji))]) C d_M_group_209 (by decide) rfl ?_
                refine ze_goto 152 C d_M_group_211 (by decide) ?_
                refine ze_sub [(5, .int (nI (d * ze_rm4 M + ze_rm4 M))), (4, .int (nI (ze_rm4 M))), (0, .ref (ad 39)), (1, .int (nI ja)), (2, .int (nI ji))] [0, 3, 4, 5, 6] rfl ?_
                rw [show d * ze_rm4 M + ze_rm4 M = (d + 1) * ze_rm4 M from (Nat.succ_mul _ _).symm]
                have hd60 : d < 60 := by rcases Nat.lt_or_ge d 60 with z | z; exact z; have : 60 * 4 ≤ d * ze_rm4 M := Nat.mul_le_mul z he.1; omega
                refine ih3 (60 - (d + 1)) (by omega) (d + 1) _ rfl (by omega) ?_
                rw [← k2, show 60 - d = (60 - (d + 1)) + 1 by omega, ze_gc, if_pos (by omega), Nat.succ_mul]
                omega
          rw [show 4 * (M - 2) = ze_rm4 M from rfl]
          refine ze_sub [(5, .int (nI 0)), (4, .int (nI (ze_rm4 M))), (0, .ref (ad 39)), (1, .int (nI ja)), (2, .int (nI ji))] [0, 1, 2, 3, 4] rfl ?_
          rw [show nI 0 = nI (0 * ze_rm4 M) by rw [Nat.zero_mul]]
          exact rounds _ 0 0 rfl (Nat.zero_le _) (by rw [Nat.zero_add, Nat.zero_mul])
        · refine ze_aload_n C d_M_group_29 1 rfl rfl ?_
          refine ze_iload_n C d_M_group_30 2 rfl rfl ?_
          refine ze_iload C d_M_group_31 0 rfl ?_
          refine ze_callV (st := []) C (c_M_rank (ze_l G) (ze_D G) (ze_i G) ad x M mv inp.length m1 0 le A1 A ja hja hA60 hc1 hH1 i (by omega)) (kv_M_91 (ze_rml (by decide) (by decide))) (by decide) ze_E_m rfl (Nat.le_of_ble_eq_true rfl) ⟨Nat.le_of_ble_eq_true rfl, Nat.le_of_ble_eq_true rfl⟩ d_M_group_33 ?_
          rintro _ _ _ _ ⟨rfl, rfl, _, rfl, ρ, rfl, rfl, hρ⟩
          refine ze_norm (c2 := 0) (s2 := 0) (st' := [.int (nI ρ)]) rfl rfl rfl ?_
          have hρl := (List.getElem?_eq_some_iff.mp hρ).1
          have hdk := ze_dk_len A
          refine ze_aload_n C d_M_group_36 1 rfl rfl ?_
          refine ze_getf (k := 39) C fl_M_55 (by decide) ze_E_m rfl d_M_group_37 ?_
          refine ze_icmp_neN 133 C d_M_group_40 (by decide) (by omega) (by omega) (fun h40 => ?_) (fun h40 => ?_)
          · have hold : A1 3 (60 * ja + i) ∈ ze_dk (A.take i) := Decidable.not_not.mp (fun z => h40 (by rw [hm1]; exact ze_rank_uniq hρ (ze_rank_first (ze_Hl_row hH1 (by omega)) z)))
            refine ze_iinc (j := 0) (v := nI (i + 1)) (lv' := [(4, .int (nI (i + 1))), (0, .ref (ad 39)), (1, .int (nI ja)), (2, .int (nI ji))]) C d_M_group_133 rfl (nI_1 _) (by decide) rfl ?_
            refine ze_goto 18 C d_M_group_136 (by decide) ?_
            refine ze_sub [(4, .int (nI (i + 1))), (0, .ref (ad 39)), (1, .int (nI ja)), (2, .int (nI ji))] [0, 1, 2, 3] rfl ?_
            exact ih (A.length - (i + 1)) (by omega) (i + 1) m1 A1 rfl (by omega) g2 (by rw [ze_gm_old hH1 (by omega) hold]; exact g3)
          · have hnew : A1 3 (60 * ja + i) ∉ ze_dk (A.take i) := fun z => by have := ze_rank_lt z hρ; omega
            refine ze_iconst (v := nI 0) C d_M_group_43 (by decide) ?_
            refine ze_istore (lv' := [(5, .int (nI 0)), (4, .int (nI i)), (0, .ref (ad 39)), (1, .int (nI ja)), (2, .int (nI ji))]) C d_M_group_44 (by decide) rfl ?_
            refine ze_iload C d_M_group_46 1 rfl ?_
            refine ze_istore (lv' := [(6, .int (nI i)), (5, .int (nI 0)), (4, .int (nI i)), (0, .ref (ad 39)), (1, .int (nI ja)), (2, .int (nI ji))]) C d_M_group_48 (by decide) rfl ?_
            have inner : ∀ (r2 : Nat) (d : Nat) (sm : Int32), A.length - i - d = r2 → i + d ≤ A.length → sm = ze_sum (A1 3 (60 * ja + i)) ((A.drop i).take d) → ze_V G 48 ad (ze_E (ze_i G) ad x (M, mv, inp.length, m1, 0, le, A1)) 0 0 50 [(6, .int (nI (i + d))), (5, .int sm), (4, .int (nI i)), (0, .ref (ad 39)), (1, .int (nI ja)), (2, .int (nI ji))] [] := by
              intro r2
              induction r2 using Nat.strongRecOn with
              | ind r2 ih2 =>
                intro d sm hr2 k1 k2
                have hrow : i + d < A.length → (A.drop i).take (d + 1) = (A.drop i).take d ++ [(A1 3 (60 * ja + (i + d)), A1 4 (60 * ja + (i + d)))] := fun z => by have hz := ze_Hl_take (ze_Hl_drop hH1 i) (j := d) (by rw [List.length_drop]; omega); rw [Nat.add_assoc] at hz; exact hz
                refine ze_iload C d_M_group_50 0 rfl ?_
                refine ze_aload_n C d_M_group_52 3 rfl rfl ?_
                refine ze_getf (k := 39) C fl_M_16 (by decide) ze_E_m rfl d_M_group_53 ?_
                refine ze_iload_n C d_M_group_56 4 rfl rfl ?_
                refine ze_iald (k := 40 + 2) (i := ja) C (by decide) (ze_E_a (j := 2)) (by show _ < 8; omega) (by decide) d_M_group_57 ?_
                rw [hc1]
                refine ze_icmp_geN 115 C d_M_group_58 (by decide) (by omega) (by omega) (fun h58 => ?_) (fun h58 => ?_)
                · refine ze_aload_n C d_M_group_115 3 rfl rfl ?_
                  refine ze_aload_n C d_M_group_116 3 rfl rfl ?_
                  refine ze_getf (k := 39) C fl_M_19 (by decide) ze_E_m rfl d_M_group_117 ?_
                  refine ze_bipush (v := nI 60) C d_M_group_120 (by decide) ?_
                  refine ze_iload_n C d_M_group_122 4 rfl rfl ?_
                  refine ze_imulN C d_M_group_123 ?_
                  refine ze_iload C d_M_group_124 2 rfl ?_
                  refine ze_iaddN C d_M_group_126 ?_
                  refine ze_iald (k := 40 + 3) (i := 60 * ja + i) C (by decide) (ze_E_a (j := 3)) (by show _ < 480; omega) (by decide) d_M_group_127 ?_
                  refine ze_iload C d_M_group_128 1 rfl ?_
                  refine ze_callV (st := []) C (c_M_make (ze_l G) (ze_D G) (ze_i G) ad x M mv inp.length m1 0 le A1 (ze_gm A i) g3 (by omega) (A1 3 (60 * ja + i)) sm) (kv_M_80 (ze_rml (by decide) (by decide))) (by decide) ze_E_m rfl (Nat.le_of_ble_eq_true rfl) ⟨Nat.le_of_ble_eq_true rfl, Nat.le_of_ble_eq_true rfl⟩ d_M_group_130 ?_
                  rintro _ _ _ _ ⟨rfl, rfl, _, rfl, rfl, A2, rfl, hk2, oA2⟩
                  refine ze_norm (c2 := 0) (s2 := 0) (st' := []) rfl rfl rfl ?_
                  refine ze_iinc (j := 2) (v := nI (i + 1)) (lv' := [(4, .int (nI (i + 1))), (6, .int (nI (i + d))), (5, .int sm), (0, .ref (ad 39)), (1, .int (nI ja)), (2, .int (nI ji))]) C d_M_group_133 rfl (nI_1 _) (by decide) rfl ?_
                  refine ze_goto 18 C d_M_group_136 (by decide) ?_
                  refine ze_sub [(4, .int (nI (i + 1))), (0, .ref (ad 39)), (1, .int (nI ja)), (2, .int (nI ji))] [0, 3, 4, 5] rfl ?_
                  exact ih (A.length - (i + 1)) (by omega) (i + 1) (m1 + 1) A2 rfl (by omega) (fun z z1 z2 => (oA2 z z1 z2).trans (g2 z z1 z2)) (by rw [ze_gm_new hH1 (by omega) hnew]; rw [List.take_of_length_le (by rw [List.length_drop]; omega)] at k2; rw [← k2]; exact hk2)
                · refine ze_iload C d_M_group_61 1 rfl ?_
                  refine ze_aload_n C d_M_group_63 3 rfl rfl ?_
                  refine ze_getf (k := 39) C fl_M_19 (by decide) ze_E_m rfl d_M_group_64 ?_
                  refine ze_bipush (v := nI 60) C d_M_group_67 (by decide) ?_
                  refine ze_iload_n C d_M_group_69 4 rfl rfl ?_
                  refine ze_imulN C d_M_group_70 ?_
                  refine ze_iload C d_M_group_71 0 rfl ?_
                  refine ze_iaddN C d_M_group_73 ?_
                  refine ze_iald (k := 40 + 3) (i := 60 * ja + (i + d)) C (by decide) (ze_E_a (j := 3)) (by show _ < 480; omega) (by decide) d_M_group_74 ?_
                  refine ze_aload_n C d_M_group_75 3 rfl rfl ?_
                  refine ze_getf (k := 39) C fl_M_19 (by decide) ze_E_m rfl d_M_group_76 ?_
                  refine ze_bipush (v := nI 60) C d_M_group_79 (by decide) ?_
                  refine ze_iload_n C d_M_group_81 4 rfl rfl ?_
                  refine ze_imulN C d_M_group_82 ?_
                  refine ze_iload C d_M_group_83 2 rfl ?_
                  refine ze_iaddN C d_M_group_85 ?_
                  refine ze_iald (k := 40 + 3) (i := 60 * ja + i) C (by decide) (ze_E_a (j := 3)) (by show _ < 480; omega) (by decide) d_M_group_86 ?_
                  refine ze_icmp_ne 105 C d_M_group_87 (by decide) (fun h87 => ?_) (fun h87 => ?_)
                  · refine ze_iconst (v := nI 0) C d_M_group_105 (by decide) ?_
                    refine ze_iadd C d_M_group_106 ?_
                    refine ze_istore (lv' := [(5, .int (sm + (nI 0))), (6, .int (nI (i + d))), (4, .int (nI i)), (0, .ref (ad 39)), (1, .int (nI ja)), (2, .int (nI ji))]) C d_M_group_107 (by decide) rfl ?_
                    refine ze_iinc (j := 1) (v := nI (i + d + 1)) (lv' := [(6, .int (nI (i + d + 1))), (5, .int (sm + (nI 0))), (4, .int (nI i)), (0, .ref (ad 39)), (1, .int (nI ja)), (2, .int (nI ji))]) C d_M_group_109 rfl (nI_1 _) (by decide) rfl ?_
                    refine ze_goto 50 C d_M_group_112 (by decide) ?_
                    refine ze_sub [(6, .int (nI (i + (d + 1)))), (5, .int (sm + nI 0)), (4, .int (nI i)), (0, .ref (ad 39)), (1, .int (nI ja)), (2, .int (nI ji))] [0, 1, 2, 3, 4, 5] rfl ?_
                    exact ih2 (A.length - i - (d + 1)) (by omega) (d + 1) _ rfl (by omega) (by rw [hrow (by omega), ze_sum_snoc, if_neg h87, ← k2, nI_0, Int32.add_zero])
                  · refine ze_aload_n C d_M_group_90 3 rfl rfl ?_
                    refine ze_getf (k := 39) C fl_M_22 (by decide) ze_E_m rfl d_M_group_91 ?_
                    refine ze_bipush (v := nI 60) C d_M_group_94 (by decide) ?_
                    refine ze_iload_n C d_M_group_96 4 rfl rfl ?_
                    refine ze_imulN C d_M_group_97 ?_
                    refine ze_iload C d_M_group_98 0 rfl ?_
                    refine ze_iaddN C d_M_group_100 ?_
                    refine ze_iald (k := 40 + 4) (i := 60 * ja + (i + d)) C (by decide) (ze_E_a (j := 4)) (by show _ < 480; omega) (by decide) d_M_group_101 ?_
                    refine ze_goto 106 C d_M_group_102 (by decide) ?_
                    refine ze_iadd C d_M_group_106 ?_
                    refine ze_istore (lv' := [(5, .int (sm + (A1 4 (60 * ja + (i + d))))), (6, .int (nI (i + d))), (4, .int (nI i)), (0, .ref (ad 39)), (1, .int (nI ja)), (2, .int (nI ji))]) C d_M_group_107 (by decide) rfl ?_
                    refine ze_iinc (j := 1) (v := nI (i + d + 1)) (lv' := [(6, .int (nI (i + d + 1))), (5, .int (sm + (A1 4 (60 * ja + (i + d))))), (4, .int (nI i)), (0, .ref (ad 39)), (1, .int (nI ja)), (2, .int (nI ji))]) C d_M_group_109 rfl (nI_1 _) (by decide) rfl ?_
                    refine ze_goto 50 C d_M_group_112 (by decide) ?_
                    refine ze_sub [(6, .int (nI (i + (d + 1)))), (5, .int (sm + A1 4 (60 * ja + (i + d)))), (4, .int (nI i)), (0, .ref (ad 39)), (1, .int (nI ja)), (2, .int (nI ji))] [0, 1, 2, 3, 4, 5] rfl ?_
                    exact ih2 (A.length - i - (d + 1)) (by omega) (d + 1) _ rfl (by omega) (by rw [hrow (by omega), ze_sum_snoc, if_pos h87, k2])
            refine ze_sub [(6, .int (nI (i + 0))), (5, .int (nI 0)), (4, .int (nI i)), (0, .ref (ad 39)), (1, .int (nI ja)), (2, .int (nI ji))] [0, 1, 2, 3, 4, 5] rfl ?_
            exact inner _ 0 _ rfl (by omega) rfl
    refine ze_sub [(4, .int (nI 0)), (0, .ref (ad 39)), (1, .int (nI ja)), (2, .int (nI ji))] [0, 1, 2, 3] rfl ?_
    exact loop _ 0 0 Ar rfl (Nat.zero_le _) (fun _ _ _ => rfl) ze_Mk_0
  · refine ze_iload_n C d_M_group_13 0 rfl rfl ?_
    exact ze_iret C Rt d_M_group_14 (⟨rfl, rfl, _, rfl, by rw [sp_group, ze_rfs_ne (σ := (inp, sl, mv, M)) h10], by rw [sp_group, ze_rfs_ne (σ := (inp, sl, mv, M)) h10]; exact ⟨ma1, co1, le, Ar, rfl, hR, hM.1, hM.2⟩⟩)
