section ZEQ
variable {G : ze_G} {n : Nat} {ad : Nat → Nat} {E : Nat → va_E} {cells slots pc : Nat} {lv : List (Nat × Value)} {st : List Value}
/-- an array of references is what it holds below its length -/
theorem ze_eqQ {k len : Nat} {cA : ClassId} {f g : Nat → Option Nat} (hk : k < n) (hE : E k = .inl (cA, len, .inr (.inr (.inr (.inr f))))) (hfg : ∀ j, j < len → f j = g j) (kk : ze_V G n ad (va_up E k (.inl (cA, len, .inr (.inr (.inr (.inr g)))))) cells slots pc lv st) : ze_V G n ad E cells slots pc lv st := by
  have hc : vp_cell cA (len, .inr (.inr (.inr (.inr f)))) = vp_cell cA (len, .inr (.inr (.inr (.inr g)))) := by
    rw [vp_cell_q, vp_cell_q]
    unfold arrV
    have e : (fun j : Fin len => va_rf (f j.val)) = fun j : Fin len => va_rf (g j.val) := funext (fun j => by rw [hfg j.val j.isLt])
    rw [e]
  intro H locs ls hP hD hS hl
  refine kk H locs ls (fun j q hq => ?_) ⟨fun i j p q hp hq e => ?_, fun j q hq => ?_⟩ hS hl
  · obtain ⟨hj, rfl⟩ := ze_w_inv hq
    by_cases hjk : j = k
    · subst hjk
      rw [va_up_self]
      have h := hP j _ (ze_w_eq hk hE)
      show H[ad j]? = some (vp_cell cA (len, .inr (.inr (.inr (.inr g)))))
      rw [← hc]
      exact h
    · rw [va_up_ne _ _ hjk]
      exact hP j _ (ze_w_get hj)
  · obtain ⟨hi, rfl⟩ := ze_w_inv hp
    obtain ⟨hj, rfl⟩ := ze_w_inv hq
    exact hD.1 i j _ _ (ze_w_get hi) (ze_w_get hj) e
  · obtain ⟨hj, rfl⟩ := ze_w_inv hq
    exact hD.2 j (ad j, E j) (ze_w_get hj)
end ZEQ
theorem ze_pi_a {k : Nat} (h : 3 ≤ k) (h2 : k < 27) : ze_pi k = k - 1 := by
  unfold ze_pi
  rw [if_neg (by omega), if_neg (by omega), if_pos h2]
theorem ze_pi_b {k : Nat} (h2 : 27 ≤ k) : ze_pi k = k := by
  unfold ze_pi
  rw [if_neg (by omega), if_neg (by omega), if_neg (by omega)]
def ze_gi (d : Nat → Nat) : Nat → Option Nat := fun j => some (d (ze_pi (3 + 3 * j)))
theorem ze_gi_eq {d : Nat → Nat} : ∀ j, j < 8 → ze_fi d 8 j = ze_gi d j := by
  intro j hj
  unfold ze_fi ze_gi
  rw [if_pos hj, ze_pi_a (by omega) (by omega), show 3 + 3 * j - 1 = 2 + 3 * j by omega]
theorem ze_fin_X {ids : Nat → ClassId} {d : Nat → Nat} {e : Nat → va_E} {M : Nat} (h : ze_Xh ids d (nI M) 4 e) : ∀ k, k < 39 → va_up e 1 (.inl (ids 2, 8, .inr (.inr (.inr (.inr (ze_gi d)))))) (ze_pi k) = ze_EX ids (fun q => d (ze_pi q)) (ze_x0 M) k := by
  intro k hk
  by_cases h3 : k < 3
  · have : k = 0 ∨ k = 1 ∨ k = 2 := by omega
    rcases this with rfl | rfl | rfl
    · exact (va_up_ne _ _ (by decide)).trans h.1
    · exact va_up_self _ _ _
    · exact (va_up_ne _ _ (by decide)).trans h.2.2.2.1
  · obtain ⟨i, r, hi, hr, rfl⟩ : ∃ i r, i < 12 ∧ r < 3 ∧ k = 3 + 3 * i + r := ⟨k / 3 - 1, k % 3, by omega, by omega, by omega⟩
    have e1 := ze_E_ct (ids := ids) (ad := fun q => d (ze_pi q)) (x := ze_x0 M) (ms := (0, 0, 0, 0, 0, 0, fun _ _ => 0)) hi hr
    unfold ze_E at e1
    rw [if_pos hk] at e1
    rw [e1]
    have hp : ze_pi (3 + 3 * i + 1) = ze_pi (3 + 3 * i) + 1 ∧ ze_pi (3 + 3 * i + 2) = ze_pi (3 + 3 * i) + 2 ∧ 2 ≤ ze_pi (3 + 3 * i) ∧ ze_t3 ids d e (ze_pi (3 + 3 * i)) := by
      by_cases h8 : i < 8
      · rw [ze_pi_a (k := 3 + 3 * i) (by omega) (by omega), ze_pi_a (by omega) (by omega), ze_pi_a (by omega) (by omega)]
        refine ⟨by omega, by omega, by omega, ?_⟩
        rw [show 3 + 3 * i - 1 = 2 + 3 * i by omega]
        exact h.2.2.1 i h8
      · rw [ze_pi_b (k := 3 + 3 * i) (by omega), ze_pi_b (by omega), ze_pi_b (by omega)]
        refine ⟨by omega, by omega, by omega, ?_⟩
        have := h.2.2.2.2 (i - 8) (by omega)
        rw [show 27 + 3 * (i - 8) = 3 + 3 * i by omega] at this
        exact this
    obtain ⟨p1, p2, p3, q0, q1, q2⟩ := hp
    have : r = 0 ∨ r = 1 ∨ r = 2 := by omega
    rcases this with rfl | rfl | rfl
    · rw [va_up_ne _ _ (by show ze_pi (3 + 3 * i) ≠ 1; omega)]
      refine q0.trans ?_
      show _ = Sum.inr (ze_kT, [Value.ref (d (ze_pi (4 + 3 * i))), Value.ref (d (ze_pi (5 + 3 * i))), Value.int 0, Value.int 0])
      rw [show 4 + 3 * i = 3 + 3 * i + 1 by omega, show 5 + 3 * i = 3 + 3 * i + 2 by omega, p1, p2]
    · rw [va_up_ne _ _ (by omega), p1]
      exact q1
    · rw [va_up_ne _ _ (by omega), p2]
      exact q2
def ze_pXi (ids : Nat → ClassId) (ad : Nat → Nat) (m : Int32) : ze_Po := fun v n' ad' E' => v = none ∧ n' = 39 ∧ ad' 0 = ad 0 ∧ ∀ k, k < 39 → E' k = ze_EX ids ad' (ze_x0 (ze_cm m)) k

set_option maxRecDepth 100000 in
set_option maxHeartbeats 4000000 in
theorem c_X_init (l : Launch) (D : va_G) (ids : Nat → ClassId) (ad : Nat → Nat) (E : Nat → va_E) (hE : E 0 = .inr (ze_kX, [.int 0, .null, .null, .null, .null, .null, .null, .long 0])) (m : Int32) : ze_M l D ids y_X_init ws_X_init (ze_ro 2 38 1504) 38 1504 1 ad E [.ref (ad 0), .int m] (ze_pXi ids ad m) := by
  refine ze_enter (cc := b_X_init) (maxL := 3) (ret := none) (by decide +kernel) rfl (Nat.le_of_ble_eq_true rfl) ?_
  rintro G rfl rfl rfl hn C Rt
  refine ze_lv (lv' := [(0, .ref (ad 0)), (1, .int m)]) rfl ?_
  refine ze_aload_n C d_X_init_0 0 rfl rfl ?_
  refine ze_objInit (st := []) C (List.mem_cons_of_mem _ zw_12) (List.mem_cons_of_mem _ zw_13) (List.mem_cons_of_mem _ zw_14) (Nat.le_of_ble_eq_true rfl) (Nat.le_of_ble_eq_true rfl) d_X_init_1 ?_
  refine ze_aload_n C d_X_init_4 0 rfl rfl ?_
  refine ze_iload_n C d_X_init_5 1 rfl rfl ?_
  refine ze_iconst (v := nI 3) C d_X_init_6 (by decide) ?_
  refine ze_callS (st := [.ref (ad 0)]) C (c_J_max (ze_l G) (ze_D G) (ze_i G) _ _ _ m (nI 3)) (ks_X_9 ⟨by decide, by decide⟩) rfl (Nat.le_of_ble_eq_true rfl) ⟨Nat.le_of_ble_eq_true rfl, Nat.le_of_ble_eq_true rfl⟩ d_X_init_7 ?_
  rintro _ _ _ _ ⟨rfl, rfl, rfl, rfl⟩
  refine ze_norm (c2 := 0) (s2 := 0) (st' := [.int (if m < nI 3 then nI 3 else m), .ref (ad 0)]) rfl rfl rfl ?_
  refine ze_bipush (v := nI 6) C d_X_init_10 (by decide) ?_
  refine ze_callS (st := [.ref (ad 0)]) C (c_J_min (ze_l G) (ze_D G) (ze_i G) _ _ _ (if m < nI 3 then nI 3 else m) (nI 6)) (ks_X_15 ⟨by decide, by decide⟩) rfl (Nat.le_of_ble_eq_true rfl) ⟨Nat.le_of_ble_eq_true rfl, Nat.le_of_ble_eq_true rfl⟩ d_X_init_12 ?_
  rintro _ _ _ _ ⟨rfl, rfl, rfl, rfl⟩
  refine ze_norm (c2 := 0) (s2 := 0) (st' := [.int (nI (ze_cm m)), .ref (ad 0)]) rfl rfl (by rw [← ze_cm_mm]; rfl) ?_
  refine ze_putF (k := 0) C fp_X_18 hn (by decide) hE rfl rfl (Nat.le_of_ble_eq_true rfl) d_X_init_15 ?_
  refine ze_aload_n C d_X_init_18 0 rfl rfl ?_
  refine ze_bipush (v := nI 8) C d_X_init_19 (by decide) ?_
  refine ze_newq (len := 8) C (List.mem_cons_of_mem _ zw_21) C.N.2.2 (by decide) (Nat.le_of_ble_eq_true rfl) (Nat.le_of_ble_eq_true rfl) d_X_init_21 (fun d1 h1 => ?_)
  rw [← h1 0 (by decide)]
  refine ze_putF (k := 0) C fp_X_24 hn (by decide) ((va_up_ne _ _ (by decide)).trans (va_up_self _ _ _)) rfl rfl (Nat.le_of_ble_eq_true rfl) d_X_init_24 ?_
  have rest : ∀ (d : Nat → Nat) (e : Nat → va_E), d 0 = ad 0 → ze_Xi (ze_i G) d (nI (ze_cm m)) 8 e → ze_V G 26 d e 25 1000 54 [(0, .ref (d 0)), (1, .int m)] [] := by
    intro d e hd0 hx
    refine ze_aload_n C d_X_init_54 0 rfl rfl ?_
    refine ze_bipush (v := nI 8) C d_X_init_55 (by decide) ?_
    refine ze_newz (len := 8) C (List.mem_cons_of_mem _ zw_71) (by decide) (Nat.le_of_ble_eq_true rfl) (Nat.le_of_ble_eq_true rfl) d_X_init_57 (fun a0 k0 => ?_)
    have hd0 : a0 0 = ad 0 := (k0 0 (by decide)).trans hd0
    rw [← k0 0 (by decide)]
    refine ze_putF (k := 0) C fp_X_29 hn (by decide) ((va_up_ne _ _ (by decide)).trans (hx.1.trans (by rw [← k0 1 (by decide)]))) rfl rfl (Nat.le_of_ble_eq_true rfl) d_X_init_59 ?_
    refine ze_genP (P := ze_Xh (ze_i G) a0 (nI (ze_cm m)) 0) (ze_Xh_0 hx k0 rfl) (fun e0 x0 => ?_)
    refine ze_nn (n' := 27) rfl (ze_cs (c' := 26) (s' := 1008) rfl rfl ?_)
    refine ze_aload_n C d_X_init_62 0 rfl rfl ?_
    refine ze_newT C d_X_init_63 d_X_init_66 d_X_init_67 (by decide) (by decide) (Nat.le_of_ble_eq_true rfl) (fun a1 f0 k1 l1 t1 t2 t3 => ?_)
    have hd0 : a1 0 = ad 0 := (k1 0 (by decide)).trans hd0
    rw [← k1 0 (by decide)]
    refine ze_putF (k := 0) C fp_X_33 hn (by decide) (ze_Xh_at 0 x0 k1 l1) rfl rfl (Nat.le_of_ble_eq_true rfl) d_X_init_70 ?_
    refine ze_genP (P := ze_Xh (ze_i G) a1 (nI (ze_cm m)) 1) (ze_Xh_step 0 x0 k1 l1 ⟨t1, t2, t3⟩ rfl) (fun e1 x1 => ?_)
    refine ze_nn (n' := 30) rfl (ze_cs (c' := 29) (s' := 1132) rfl rfl ?_)
    refine ze_aload_n C d_X_init_73 0 rfl rfl ?_
    refine ze_newT C d_X_init_74 d_X_init_77 d_X_init_78 (by decide) (by decide) (Nat.le_of_ble_eq_true rfl) (fun a2 f1 k2 l2 t1 t2 t3 => ?_)
    have hd0 : a2 0 = ad 0 := (k2 0 (by decide)).trans hd0
    rw [← k2 0 (by decide)]
    refine ze_putF (k := 0) C fp_X_37 hn (by decide) (ze_Xh_at 1 x1 k2 l2) rfl rfl (Nat.le_of_ble_eq_true rfl) d_X_init_81 ?_
    refine ze_genP (P := ze_Xh (ze_i G) a2 (nI (ze_cm m)) 2) (ze_Xh_step 1 x1 k2 l2 ⟨t1, t2, t3⟩ rfl) (fun e2 x2 => ?_)
    refine ze_nn (n' := 33) rfl (ze_cs (c' := 32) (s' := 1256) rfl rfl ?_)
    refine ze_aload_n C d_X_init_84 0 rfl rfl ?_
    refine ze_newT C d_X_init_85 d_X_init_88 d_X_init_89 (by decide) (by decide) (Nat.le_of_ble_eq_true rfl) (fun a3 f2 k3 l3 t1 t2 t3 => ?_)
    have hd0 : a3 0 = ad 0 := (k3 0 (by decide)).trans hd0
    rw [← k3 0 (by decide)]
    refine ze_putF (k := 0) C fp_X_40 hn (by decide) (ze_Xh_at 2 x2 k3 l3) rfl rfl (Nat.le_of_ble_eq_true rfl) d_X_init_92 ?_
    refine ze_genP (P := ze_Xh (ze_i G) a3 (nI (ze_cm m)) 3) (ze_Xh_step 2 x2 k3 l3 ⟨t1, t2, t3⟩ rfl) (fun e3 x3 => ?_)
    refine ze_nn (n' := 36) rfl (ze_cs (c' := 35) (s' := 1380) rfl rfl ?_)
    refine ze_aload_n C d_X_init_95 0 rfl rfl ?_
    refine ze_newT C d_X_init_96 d_X_init_99 d_X_init_100 (by decide) (by decide) (Nat.le_of_ble_eq_true rfl) (fun a4 f3 k4 l4 t1 t2 t3 => ?_)
    have hd0 : a4 0 = ad 0 := (k4 0 (by decide)).trans hd0
    rw [← k4 0 (by decide)]
    refine ze_putF (k := 0) C fp_X_43 hn (by decide) (ze_Xh_at 3 x3 k4 l4) rfl rfl (Nat.le_of_ble_eq_true rfl) d_X_init_103 ?_
    refine ze_genP (P := ze_Xh (ze_i G) a4 (nI (ze_cm m)) 4) (ze_Xh_step 3 x3 k4 l4 ⟨t1, t2, t3⟩ rfl) (fun e4 x4 => ?_)
    refine ze_nn (n' := 39) rfl (ze_cs (c' := 38) (s' := 1504) rfl rfl ?_)
    refine ze_aload_n C d_X_init_106 0 rfl rfl ?_
    refine ze_lconst (v := 0) C d_X_init_107 (by decide) ?_
    refine ze_putf (k := 0) C fp_X_46 (by decide) x4.1 rfl rfl (Nat.le_of_ble_eq_true rfl) d_X_init_108 ?_
    refine ze_genP (P := ze_Xh (ze_i G) a4 (nI (ze_cm m)) 4) ⟨va_up_self _ _ _, (va_up_ne _ _ (by decide)).trans x4.2.1, fun j hj => ze_t3_eq (x4.2.2.1 j hj) (n := 39) (by omega) (fun _ _ => rfl) (fun k _ z0 _ => va_up_ne _ _ (by omega)) (by omega), (va_up_ne _ _ (by decide)).trans x4.2.2.2.1, fun j hj => ze_t3_eq (x4.2.2.2.2 j hj) (n := 39) (by omega) (fun _ _ => rfl) (fun k _ z0 _ => va_up_ne _ _ (by omega)) (by omega)⟩ (fun e5 x5 => ?_)
    refine ze_eqQ (k := 1) (g := ze_gi a4) (by decide) x5.2.1 ze_gi_eq ?_
    refine ze_perm ze_pi ze_pi_lt ze_pi_inj ?_
    exact ze_vret C Rt d_X_init_111 ⟨rfl, rfl, hd0, ze_fin_X x5⟩
  have loop : ∀ (r i : Nat) (d : Nat → Nat) (e : Nat → va_E), 8 - i = r → i ≤ 8 → d 0 = ad 0 → ze_Xi (ze_i G) d (nI (ze_cm m)) i e → ze_V G (2 + 3 * i) d e (1 + 3 * i) (8 + 124 * i) 29 [(2, .int (nI i)), (0, .ref (d 0)), (1, .int m)] [] := by
    intro r
    induction r using Nat.strongRecOn with
    | ind r ih =>
      intro i d e hr hi hd0 hx
      refine ze_iload_n C d_X_init_29 0 rfl rfl ?_
      refine ze_bipush (v := nI 8) C d_X_init_30 (by decide) ?_
      refine ze_icmp_geN 54 C d_X_init_32 (by decide) (by omega) (by omega) (fun h32 => ?_) (fun h32 => ?_)
      · have : i = 8 := by omega
        subst this
        refine ze_sub [(0, .ref (d 0)), (1, .int m)] [1, 2] rfl ?_
        exact rest d e hd0 hx
      · refine ze_aload_n C d_X_init_35 1 rfl rfl ?_
        refine ze_getf (k := 0) C fl_X_24 (by omega) hx.1 rfl d_X_init_36 ?_
        refine ze_iload_n C d_X_init_39 0 rfl rfl ?_
        refine ze_newT C d_X_init_40 d_X_init_43 d_X_init_44 (by omega) (by omega) (Nat.le_of_ble_eq_true rfl) (fun d' e' hd he t1 t2 t3 => ?_)
        rw [← hd 1 (by omega), ← hd 0 (by omega)]
        refine ze_aast (k := 1) (i := i) (q := 2 + 3 * i) C (by omega) ((he 1 (by omega)).trans hx.2.1) (by omega) (by decide) (by omega) t1 rfl d_X_init_47 ?_
        refine ze_genP (P := ze_Xi (ze_i G) d' (nI (ze_cm m)) (i + 1)) (ze_Xi_step hx hd he ⟨t1, t2, t3⟩) (fun e1 hx1 => ?_)
        refine ze_iinc (j := 0) (v := nI (i + 1)) (lv' := [(2, .int (nI (i + 1))), (0, .ref (d' 0)), (1, .int m)]) C d_X_init_48 rfl (nI_1 _) (by decide) rfl ?_
        refine ze_goto 29 C d_X_init_51 (by decide) ?_
        refine ze_nn (n' := 2 + 3 * (i + 1)) (by omega) (ze_cs (c' := 1 + 3 * (i + 1)) (s' := 8 + 124 * (i + 1)) (by omega) (by omega) ?_)
        exact ih (8 - (i + 1)) (by omega) (i + 1) d' e1 rfl (by omega) ((hd 0 (by omega)).trans hd0) hx1
  refine ze_iconst (v := nI 0) C d_X_init_27 (by decide) ?_
  refine ze_istore_n (lv' := [(2, .int (nI 0)), (0, .ref (d1 0)), (1, .int m)]) C d_X_init_28 rfl (by decide) rfl ?_
  refine ze_genP (P := ze_Xi (ze_i G) d1 (nI (ze_cm m)) 0) ⟨va_up_self _ _ _, (va_up_ne _ _ (by decide)).trans (va_up_self _ _ _), fun j hj => absurd hj (Nat.not_lt_zero _)⟩ (fun e1 hx1 => ?_)
  exact loop _ 0 d1 e1 rfl (by decide) (h1 0 (by decide)) hx1
