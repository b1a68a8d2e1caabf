section ZEI
variable {G : ze_G} {n : Nat} {ad : Nat → Nat} {E : Nat → va_E} {cells slots pc : Nat} {lv : List (Nat × Value)} {st : List Value}
theorem ze_genP {P : (Nat → va_E) → Prop} (h : P E) (k : ∀ e, P e → ze_V G n ad e cells slots pc lv st) : ze_V G n ad E cells slots pc lv st := k E h
theorem ze_nn {n' : Nat} (h : n = n') (k : ze_V G n' ad E cells slots pc lv st) : ze_V G n ad E cells slots pc lv st := h ▸ k
theorem ze_cs {c' s' : Nat} (h : cells = c') (h2 : slots = s') (k : ze_V G n ad E c' s' pc lv st) : ze_V G n ad E cells slots pc lv st := by
  subst h h2
  exact k
theorem ze_eqW {ad' : Nat → Nat} {E' : Nat → va_E} (h : ∀ k, k < n → ad k = ad' k ∧ E k = E' k) (k : ze_V G n ad' E' cells slots pc lv st) : ze_V G n ad E cells slots pc lv st := by
  have e : ze_w n ad E = ze_w n ad' E' := by
    unfold ze_w
    apply List.map_congr_left
    intro j hj
    obtain ⟨h1, h2⟩ := h j (List.mem_range.mp hj)
    rw [h1, h2]
  intro H locs ls hP hD hS hl
  rw [e] at hP hD
  exact k H locs ls hP hD hS hl
end ZEI
/-- the frames that a number asks for -/
def ze_cm (m : Int32) : Nat := if nI 3 ≤ m then (if m ≤ nI 6 then m.toNatClampNeg else 6) else 3
theorem ze_cm_lo {m : Int32} (h : ¬ nI 3 ≤ m) : ze_cm m = 3 := if_neg h
theorem ze_cm_hi {m : Int32} (h : nI 3 ≤ m) (h2 : ¬ m ≤ nI 6) : ze_cm m = 6 := by rw [ze_cm, if_pos h, if_neg h2]
theorem ze_ge3 {m : Int32} (h : nI 3 ≤ m) : ¬ m < 0 := fun z => absurd (Int32.lt_of_le_of_lt h z) (by decide)
theorem ze_cm_mid {m : Int32} (h : nI 3 ≤ m) (h2 : m ≤ nI 6) : nI (ze_cm m) = m := by
  rw [ze_cm, if_pos h, if_pos h2]
  obtain ⟨j, hj, rfl⟩ := nI_of (ze_ge3 h)
  rw [nI_clamp hj]
theorem ze_cm_in (m : Int32) : 3 ≤ ze_cm m ∧ ze_cm m ≤ 6 := by
  by_cases h : nI 3 ≤ m
  · by_cases h2 : m ≤ nI 6
    · obtain ⟨j, hj, rfl⟩ := nI_of (ze_ge3 h)
      rw [ze_cm, if_pos h, if_pos h2, nI_clamp hj]
      exact ⟨(nI_leI (by decide) hj).mp h, (nI_leI hj (by decide)).mp h2⟩
    · rw [ze_cm_hi h h2]; decide
  · rw [ze_cm_lo h]; decide
/-- the arrays of the reference, the first i of them -/
def ze_rr (d : Nat → Nat) (i j : Nat) : Value := if j < i then .ref (d (40 + j)) else .null
theorem ze_rr_eq {d d' : Nat → Nat} {i j : Nat} (h : ∀ k, k < 40 + i → d' k = d k) : ze_rr d i j = ze_rr d' i j := by
  unfold ze_rr
  split
  · rw [h _ (by omega)]
  · rfl
def ze_mf (d : Nat → Nat) (i : Nat) (m : Int32) : List Value := [.int m, .long 0, .int 0, ze_rr d i 0, ze_rr d i 1, ze_rr d i 2, ze_rr d i 3, ze_rr d i 4, .int 0, ze_rr d i 5, ze_rr d i 6, .long 0, .int 0, ze_rr d i 7]
theorem ze_mf_eq {d d' : Nat → Nat} {i : Nat} {m : Int32} (h : ∀ k, k < 40 + i → d' k = d k) : ze_mf d i m = ze_mf d' i m := by
  simp only [ze_mf, ze_rr_eq h]
def ze_Mi (ids : Nat → ClassId) (E : Nat → va_E) (d : Nat → Nat) (i : Nat) (e : Nat → va_E) : Prop := (∀ q, q < 39 → e q = E q) ∧ e 39 = .inr (ze_kM, ze_mf d i 0) ∧ ∀ j, j < i → e (40 + j) = ze_z ids (ze_al j)
theorem ze_Mi_step {ids : Nat → ClassId} {E e : Nat → va_E} {d d' : Nat → Nat} (i : Nat) {fs : List Value} (h : ze_Mi ids E d i e) (hs : fs = ze_mf d' (i + 1) 0) : ze_Mi ids E d' (i + 1) (va_up (va_up e (40 + i) (ze_z ids (ze_al i))) 39 (.inr (ze_kM, fs))) := by
  refine ⟨fun q hq => ?_, ?_, fun j hj => ?_⟩
  · rw [va_up_ne _ _ (by omega), va_up_ne _ _ (by omega)]; exact h.1 q hq
  · rw [va_up_self, hs]
  · rw [va_up_ne _ _ (by omega)]
    by_cases hji : j = i
    · subst hji; rw [va_up_self]
    · rw [va_up_ne _ _ (by omega)]; exact h.2.2 j (by omega)
theorem ze_Mi_at {ids : Nat → ClassId} {E e : Nat → va_E} {d d' : Nat → Nat} (i : Nat) {z : va_E} (h : ze_Mi ids E d i e) (hd : ∀ k, k < 40 + i → d' k = d k) : va_up e (40 + i) z 39 = .inr (ze_kM, ze_mf d' i 0) := by
  rw [va_up_ne _ _ (by omega), h.2.1, ze_mf_eq hd]
/-- the count of each slot, j of them set -/
def ze_cj (j : Nat) : Nat → Int32 := fun q => if q < j then -1 else 0
theorem ze_cj_up {j : Nat} : upd (ze_cj j) j (-1) = ze_cj (j + 1) := by
  funext q
  unfold upd ze_cj
  by_cases h : q = j
  · subst h; simp
  · rw [if_neg h]
    by_cases h2 : q < j
    · rw [if_pos h2, if_pos (by omega)]
    · rw [if_neg h2, if_neg (by omega)]
def ze_Aj (j : Nat) : Nat → Nat → Int32 := fun t => if t = 2 then ze_cj j else fun _ => 0
def ze_Mj (ids : Nat → ClassId) (E : Nat → va_E) (d : Nat → Nat) (m : Int32) (j : Nat) (e : Nat → va_E) : Prop := (∀ q, q < 39 → e q = E q) ∧ e 39 = .inr (ze_kM, ze_mf d 8 m) ∧ ∀ t, t < 8 → e (40 + t) = .inl (ids 0, ze_al t, .inl (ze_Aj j t))
theorem ze_Mj_0 {ids : Nat → ClassId} {E e : Nat → va_E} {d : Nat → Nat} {m : Int32} {fs : List Value} (h : ze_Mi ids E d 8 e) (hs : fs = ze_mf d 8 m) : ze_Mj ids E d m 0 (va_up e 39 (.inr (ze_kM, fs))) := by
  refine ⟨fun q hq => ?_, ?_, fun t ht => ?_⟩
  · rw [va_up_ne _ _ (by omega)]; exact h.1 q hq
  · rw [va_up_self, hs]
  · rw [va_up_ne _ _ (by omega), h.2.2 t ht]
    have e : ze_Aj 0 t = fun _ => 0 := by
      unfold ze_Aj
      split
      · rfl
      · rfl
    rw [e]
theorem ze_Mj_step {ids : Nat → ClassId} {E e : Nat → va_E} {d : Nat → Nat} {m : Int32} {j : Nat} (h : ze_Mj ids E d m j e) : ze_Mj ids E d m (j + 1) (va_up e 42 (.inl (ids 0, 8, .inl (upd (ze_cj j) j (-1))))) := by
  refine ⟨fun q hq => ?_, ?_, fun t ht => ?_⟩
  · rw [va_up_ne _ _ (by omega)]; exact h.1 q hq
  · rw [va_up_ne _ _ (by omega)]; exact h.2.1
  · by_cases h2 : t = 2
    · subst h2
      rw [ze_cj_up]; exact va_up_self _ _ _
    · rw [va_up_ne _ _ (by omega), h.2.2 t ht]
      unfold ze_Aj
      rw [if_neg h2, if_neg h2]
def ze_pMi (ids : Nat → ClassId) (ad : Nat → Nat) (E : Nat → va_E) (m : Int32) : ze_Po := fun v n' ad' E' => v = none ∧ n' = 48 ∧ (∀ j, j < 40 → ad' j = ad j) ∧ ze_Mj ids E ad' (nI (ze_cm m)) 8 E'

set_option maxRecDepth 100000 in
set_option maxHeartbeats 4000000 in
theorem c_M_init (l : Launch) (D : va_G) (ids : Nat → ClassId) (ad : Nat → Nat) (E : Nat → va_E) (hE : E 39 = .inr (ze_kM, ze_mf ad 0 0)) (m : Int32) : ze_M l D ids y_M_init ws_M_init (ze_ro 1 8 1211) 8 1211 40 ad E [.ref (ad 39), .int m] (ze_pMi ids ad E m) := by
  refine ze_enter (cc := b_M_init) (maxL := 3) (ret := none) (by decide +kernel) rfl (Nat.le_of_ble_eq_true rfl) ?_
  rintro G rfl rfl rfl hn C Rt
  refine ze_lv (lv' := [(0, .ref (ad 39)), (1, .int m)]) rfl ?_
  refine ze_aload_n C d_M_init_0 0 rfl rfl ?_
  refine ze_objInit (st := []) C (List.mem_cons_of_mem _ zw_251) (List.mem_cons_of_mem _ zw_13) (List.mem_cons_of_mem _ zw_14) (Nat.le_of_ble_eq_true rfl) (Nat.le_of_ble_eq_true rfl) d_M_init_1 ?_
  refine ze_genP (P := ze_Mi (ze_i G) E ad 0) ⟨fun _ _ => rfl, hE, fun j hj => absurd hj (Nat.not_lt_zero _)⟩ (fun e0 m0 => ?_)
  have g0 : ∀ j, j < 40 → ad j = ad j := fun _ _ => rfl
  refine ze_aload_n C d_M_init_4 0 rfl rfl ?_
  refine ze_bipush (v := nI 60) C d_M_init_5 (by decide) ?_
  refine ze_newi (len := 60) C (List.mem_cons_of_mem _ zw_45) (by decide) (Nat.le_of_ble_eq_true rfl) (Nat.le_of_ble_eq_true rfl) d_M_init_7 (fun d1 h1 => ?_)
  rw [← h1 39 (by omega)]
  refine ze_putF (k := 39) C fp_M_7 hn (by omega) (ze_Mi_at 0 m0 h1) rfl rfl (Nat.le_of_ble_eq_true rfl) d_M_init_9 ?_
  refine ze_genP (P := ze_Mi (ze_i G) E d1 1) (ze_Mi_step 0 m0 rfl) (fun e1 m1 => ?_)
  refine ze_nn (n' := 41) rfl (ze_cs (c' := 1) (s' := 60) rfl rfl ?_)
  have g1 : ∀ j, j < 40 → d1 j = ad j := fun j hj => (h1 j (by omega)).trans (g0 j hj)
  refine ze_aload_n C d_M_init_12 0 rfl rfl ?_
  refine ze_bipush (v := nI 60) C d_M_init_13 (by decide) ?_
  refine ze_newi (len := 60) C (List.mem_cons_of_mem _ zw_45) (by decide) (Nat.le_of_ble_eq_true rfl) (Nat.le_of_ble_eq_true rfl) d_M_init_15 (fun d2 h2 => ?_)
  rw [← h2 39 (by omega)]
  refine ze_putF (k := 39) C fp_M_13 hn (by omega) (ze_Mi_at 1 m1 h2) rfl rfl (Nat.le_of_ble_eq_true rfl) d_M_init_17 ?_
  refine ze_genP (P := ze_Mi (ze_i G) E d2 2) (ze_Mi_step 1 m1 rfl) (fun e2 m2 => ?_)
  refine ze_nn (n' := 42) rfl (ze_cs (c' := 2) (s' := 120) rfl rfl ?_)
  have g2 : ∀ j, j < 40 → d2 j = ad j := fun j hj => (h2 j (by omega)).trans (g1 j hj)
  refine ze_aload_n C d_M_init_20 0 rfl rfl ?_
  refine ze_bipush (v := nI 8) C d_M_init_21 (by decide) ?_
  refine ze_newi (len := 8) C (List.mem_cons_of_mem _ zw_45) (by decide) (Nat.le_of_ble_eq_true rfl) (Nat.le_of_ble_eq_true rfl) d_M_init_23 (fun d3 h3 => ?_)
  rw [← h3 39 (by omega)]
  refine ze_putF (k := 39) C fp_M_16 hn (by omega) (ze_Mi_at 2 m2 h3) rfl rfl (Nat.le_of_ble_eq_true rfl) d_M_init_25 ?_
  refine ze_genP (P := ze_Mi (ze_i G) E d3 3) (ze_Mi_step 2 m2 rfl) (fun e3 m3 => ?_)
  refine ze_nn (n' := 43) rfl (ze_cs (c' := 3) (s' := 128) rfl rfl ?_)
  have g3 : ∀ j, j < 40 → d3 j = ad j := fun j hj => (h3 j (by omega)).trans (g2 j hj)
  refine ze_aload_n C d_M_init_28 0 rfl rfl ?_
  refine ze_sipush (v := nI 480) C d_M_init_29 (by decide) ?_
  refine ze_newi (len := 480) C (List.mem_cons_of_mem _ zw_45) (by decide) (Nat.le_of_ble_eq_true rfl) (Nat.le_of_ble_eq_true rfl) d_M_init_32 (fun d4 h4 => ?_)
  rw [← h4 39 (by omega)]
  refine ze_putF (k := 39) C fp_M_19 hn (by omega) (ze_Mi_at 3 m3 h4) rfl rfl (Nat.le_of_ble_eq_true rfl) d_M_init_34 ?_
  refine ze_genP (P := ze_Mi (ze_i G) E d4 4) (ze_Mi_step 3 m3 rfl) (fun e4 m4 => ?_)
  refine ze_nn (n' := 44) rfl (ze_cs (c' := 4) (s' := 608) rfl rfl ?_)
  have g4 : ∀ j, j < 40 → d4 j = ad j := fun j hj => (h4 j (by omega)).trans (g3 j hj)
  refine ze_aload_n C d_M_init_37 0 rfl rfl ?_
  refine ze_sipush (v := nI 480) C d_M_init_38 (by decide) ?_
  refine ze_newi (len := 480) C (List.mem_cons_of_mem _ zw_45) (by decide) (Nat.le_of_ble_eq_true rfl) (Nat.le_of_ble_eq_true rfl) d_M_init_41 (fun d5 h5 => ?_)
  rw [← h5 39 (by omega)]
  refine ze_putF (k := 39) C fp_M_22 hn (by omega) (ze_Mi_at 4 m4 h5) rfl rfl (Nat.le_of_ble_eq_true rfl) d_M_init_43 ?_
  refine ze_genP (P := ze_Mi (ze_i G) E d5 5) (ze_Mi_step 4 m4 rfl) (fun e5 m5 => ?_)
  refine ze_nn (n' := 45) rfl (ze_cs (c' := 5) (s' := 1088) rfl rfl ?_)
  have g5 : ∀ j, j < 40 → d5 j = ad j := fun j hj => (h5 j (by omega)).trans (g4 j hj)
  refine ze_aload_n C d_M_init_46 0 rfl rfl ?_
  refine ze_bipush (v := nI 60) C d_M_init_47 (by decide) ?_
  refine ze_newi (len := 60) C (List.mem_cons_of_mem _ zw_45) (by decide) (Nat.le_of_ble_eq_true rfl) (Nat.le_of_ble_eq_true rfl) d_M_init_49 (fun d6 h6 => ?_)
  rw [← h6 39 (by omega)]
  refine ze_putF (k := 39) C fp_M_25 hn (by omega) (ze_Mi_at 5 m5 h6) rfl rfl (Nat.le_of_ble_eq_true rfl) d_M_init_51 ?_
  refine ze_genP (P := ze_Mi (ze_i G) E d6 6) (ze_Mi_step 5 m5 rfl) (fun e6 m6 => ?_)
  refine ze_nn (n' := 46) rfl (ze_cs (c' := 6) (s' := 1148) rfl rfl ?_)
  have g6 : ∀ j, j < 40 → d6 j = ad j := fun j hj => (h6 j (by omega)).trans (g5 j hj)
  refine ze_aload_n C d_M_init_54 0 rfl rfl ?_
  refine ze_bipush (v := nI 60) C d_M_init_55 (by decide) ?_
  refine ze_newi (len := 60) C (List.mem_cons_of_mem _ zw_45) (by decide) (Nat.le_of_ble_eq_true rfl) (Nat.le_of_ble_eq_true rfl) d_M_init_57 (fun d7 h7 => ?_)
  rw [← h7 39 (by omega)]
  refine ze_putF (k := 39) C fp_M_28 hn (by omega) (ze_Mi_at 6 m6 h7) rfl rfl (Nat.le_of_ble_eq_true rfl) d_M_init_59 ?_
  refine ze_genP (P := ze_Mi (ze_i G) E d7 7) (ze_Mi_step 6 m6 rfl) (fun e7 m7 => ?_)
  refine ze_nn (n' := 47) rfl (ze_cs (c' := 7) (s' := 1208) rfl rfl ?_)
  have g7 : ∀ j, j < 40 → d7 j = ad j := fun j hj => (h7 j (by omega)).trans (g6 j hj)
  refine ze_aload_n C d_M_init_62 0 rfl rfl ?_
  refine ze_iconst (v := nI 3) C d_M_init_63 (by decide) ?_
  refine ze_newi (len := 3) C (List.mem_cons_of_mem _ zw_45) (by decide) (Nat.le_of_ble_eq_true rfl) (Nat.le_of_ble_eq_true rfl) d_M_init_64 (fun d8 h8 => ?_)
  rw [← h8 39 (by omega)]
  refine ze_putF (k := 39) C fp_M_31 hn (by omega) (ze_Mi_at 7 m7 h8) rfl rfl (Nat.le_of_ble_eq_true rfl) d_M_init_66 ?_
  refine ze_genP (P := ze_Mi (ze_i G) E d8 8) (ze_Mi_step 7 m7 rfl) (fun e8 m8 => ?_)
  refine ze_nn (n' := 48) rfl (ze_cs (c' := 8) (s' := 1211) rfl rfl ?_)
  have g8 : ∀ j, j < 40 → d8 j = ad j := fun j hj => (h8 j (by omega)).trans (g7 j hj)
  have loop : ∀ (r j : Nat) (e : Nat → va_E), 8 - j = r → j ≤ 8 → ze_Mj (ze_i G) E d8 (nI (ze_cm m)) j e → ze_V G 48 d8 e 8 1211 96 [(2, .int (nI j)), (0, .ref (d8 39)), (1, .int m)] [] := by
    intro r
    induction r using Nat.strongRecOn with
    | ind r ih =>
      intro j e hr hj hm
      refine ze_iload_n C d_M_init_96 0 rfl rfl ?_
      refine ze_bipush (v := nI 8) C d_M_init_97 (by decide) ?_
      refine ze_icmp_geN 115 C d_M_init_99 (by decide) (by omega) (by omega) (fun h99 => ?_) (fun h99 => ?_)
      · have : j = 8 := by omega
        subst this
        exact ze_vret C Rt d_M_init_115 ⟨rfl, rfl, g8, hm⟩
      · refine ze_aload_n C d_M_init_102 1 rfl rfl ?_
        refine ze_getf (k := 39) C fl_M_16 (by decide) hm.2.1 rfl d_M_init_103 ?_
        refine ze_iload_n C d_M_init_106 0 rfl rfl ?_
        refine ze_iconst (v := -1) C d_M_init_107 (by decide) ?_
        refine ze_iast (k := 42) (i := j) (len := 8) (f := ze_cj j) C (by decide) (hm.2.2 2 (by decide)) (by omega) (by decide) d_M_init_108 ?_
        refine ze_genP (P := ze_Mj (ze_i G) E d8 (nI (ze_cm m)) (j + 1)) (ze_Mj_step hm) (fun e1 hm1 => ?_)
        refine ze_iinc (j := 0) (v := nI (j + 1)) (lv' := [(2, .int (nI (j + 1))), (0, .ref (d8 39)), (1, .int m)]) C d_M_init_109 rfl (nI_1 _) (by decide) rfl ?_
        refine ze_goto 96 C d_M_init_112 (by decide) ?_
        exact ih (8 - (j + 1)) (by omega) (j + 1) e1 rfl (by omega) hm1
  have fin : ze_V G 48 d8 e8 8 1211 91 [(0, .ref (d8 39)), (1, .int m)] [.int (nI (ze_cm m)), .ref (d8 39)] := by
    refine ze_putF (k := 39) C fp_M_34 hn (by decide) m8.2.1 rfl rfl (Nat.le_of_ble_eq_true rfl) d_M_init_91 ?_
    refine ze_genP (P := ze_Mj (ze_i G) E d8 (nI (ze_cm m)) 0) (ze_Mj_0 m8 rfl) (fun e1 hm1 => ?_)
    refine ze_iconst (v := nI 0) C d_M_init_94 (by decide) ?_
    refine ze_istore_n (lv' := [(2, .int (nI 0)), (0, .ref (d8 39)), (1, .int m)]) C d_M_init_95 rfl (by decide) rfl ?_
    exact loop _ 0 e1 rfl (by decide) hm1
  refine ze_aload_n C d_M_init_69 0 rfl rfl ?_
  refine ze_iload_n C d_M_init_70 1 rfl rfl ?_
  refine ze_iconst (v := nI 3) C d_M_init_71 (by decide) ?_
  refine ze_icmp_ge 79 C d_M_init_72 (by decide) (fun h72 => ?_) (fun h72 => ?_)
  · refine ze_iload_n C d_M_init_79 1 rfl rfl ?_
    refine ze_bipush (v := nI 6) C d_M_init_80 (by decide) ?_
    refine ze_icmp_le 90 C d_M_init_82 (by decide) (fun h82 => ?_) (fun h82 => ?_)
    · refine ze_iload_n C d_M_init_90 1 rfl rfl ?_
      refine ze_eqS (st' := [.int (nI (ze_cm m)), .ref (d8 39)]) (by rw [ze_cm_mid h72 h82]) fin
    · refine ze_bipush (v := nI 6) C d_M_init_85 (by decide) ?_
      refine ze_goto 91 C d_M_init_87 (by decide) ?_
      exact ze_eqS (st' := [.int (nI (ze_cm m)), .ref (d8 39)]) (by rw [ze_cm_hi h72 h82]) fin
  · refine ze_iconst (v := nI 3) C d_M_init_75 (by decide) ?_
    refine ze_goto 91 C d_M_init_76 (by decide) ?_
    exact ze_eqS (st' := [.int (nI (ze_cm m)), .ref (d8 39)]) (by rw [ze_cm_lo h72]) fin
