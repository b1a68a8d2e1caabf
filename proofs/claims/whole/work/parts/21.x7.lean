theorem ze_cd1 {n w c : Nat} (hw : 0 < w) (h : c < (n + w - 1) / w) : c * w < n := by
  have h1 : (c + 1) * w ≤ n + w - 1 := (Nat.le_div_iff_mul_le hw).mp h
  rw [Nat.succ_mul] at h1
  omega
theorem ze_cd2 {n w c : Nat} (hw : 0 < w) (h : (n + w - 1) / w ≤ c) : n ≤ c * w := by
  have h1 : n + w - 1 < (c + 1) * w := (Nat.div_lt_iff_lt_mul hw).mp (Nat.lt_succ_of_le h)
  rw [Nat.succ_mul] at h1
  omega
theorem ze_cd3 {n w : Nat} (hw : 0 < w) : (n + w - 1) / w ≤ n := by
  rcases Nat.lt_or_ge n ((n + w - 1) / w) with h | h
  · have h1 := ze_cd1 hw h
    have h2 : n * 1 ≤ n * w := Nat.mul_le_mul_left n hw
    omega
  · exact h
theorem ze_Hl_drop {f g : Nat → Int32} {k : Nat} {L : List ze_Row} (h : ze_Hl f g k L) (j : Nat) : ze_Hl f g (k + j) (L.drop j) := by
  intro p r hp
  rw [List.getElem?_drop] at hp
  have := h (j + p) r hp
  rw [← Nat.add_assoc] at this
  exact this
theorem ze_Hl_tk {f g : Nat → Int32} {k : Nat} {L : List ze_Row} (h : ze_Hl f g k L) (j : Nat) : ze_Hl f g k (L.take j) := by
  intro p r hp
  have hl := (List.getElem?_eq_some_iff.mp hp).1
  rw [List.length_take] at hl
  rw [List.getElem?_take_of_lt (by omega)] at hp
  exact h p r hp
/-- the parts from p on, n of them -/
def ze_sfx (M lev : Nat) (f : ze_Row → Int32) (A : List ze_Row) : Nat → Nat → List ze_Row
  | 0, _ => []
  | n + 1, p => ze_pt M lev p f A ++ ze_sfx M lev f A n (p + 1)
theorem ze_sfx_prt (M lev : Nat) (f : ze_Row → Int32) (A : List ze_Row) : ∀ n p : Nat, ze_prt M lev f A p ++ ze_sfx M lev f A n p = ze_prt M lev f A (p + n)
  | 0, p => by rw [ze_sfx, List.append_nil]; rfl
  | n + 1, p => by
    rw [ze_sfx, ← List.append_assoc, ← ze_prt_succ, ze_sfx_prt M lev f A n (p + 1)]
    congr 1
    omega
theorem ze_sfx_mem (M lev : Nat) (f : ze_Row → Int32) (A : List ze_Row) : ∀ (n p : Nat) (r : ze_Row), r ∈ ze_sfx M lev f A n p → p ≤ ze_dg M (f r) lev
  | 0, p, r, h => by cases h
  | n + 1, p, r, h => by
    rw [ze_sfx] at h
    rcases List.mem_append.mp h with h | h
    · have := of_decide_eq_true (List.mem_filter.mp h).2
      omega
    · have := ze_sfx_mem M lev f A n (p + 1) r h
      omega
/-- where a part ends -/
theorem ze_eop {M lev n p aS to e : Nat} {f : ze_Row → Int32} {A : List ze_Row} {F G : Nat → Int32} (cf : Nat → Int32) (hcf : ∀ q, cf q = f (F q, G q)) (h : ze_Hl F G aS (ze_sfx M lev f A (n + 1) p)) (hl : (ze_sfx M lev f A (n + 1) p).length = to - aS) (h1 : aS ≤ e) (h2 : e ≤ to) (h3 : ∀ q, aS ≤ q → q < e → ze_dg M (cf q) lev = p) (h4 : e < to → ze_dg M (cf e) lev ≠ p) : e = aS + (ze_pt M lev p f A).length := by
  rw [ze_sfx, List.length_append] at hl
  rw [ze_sfx, ze_Hl_app] at h
  obtain ⟨ha, hb⟩ := h
  rcases Nat.lt_trichotomy e (aS + (ze_pt M lev p f A).length) with hlt | heq | hgt
  · exfalso
    have hr := ze_Hl_row ha (p := e - aS) (by omega)
    rw [show aS + (e - aS) = e by omega] at hr
    have := of_decide_eq_true (List.mem_filter.mp (List.mem_of_getElem? hr)).2
    refine h4 (by omega) ?_
    rw [hcf]
    exact this
  · exact heq
  · exfalso
    have hr := ze_Hl_row hb (p := 0) (by omega)
    simp only [Nat.add_zero] at hr
    have h5 := ze_sfx_mem M lev f A n (p + 1) _ (List.mem_of_getElem? hr)
    have h6 := h3 (aS + (ze_pt M lev p f A).length) (by omega) hgt
    rw [hcf] at h6
    omega

set_option maxRecDepth 100000 in
set_option maxHeartbeats 4000000 in
theorem c_X_joinByChunks (l : Launch) (D : va_G) (ids : Nat → ClassId) (ad : Nat → Nat) (ms : ze_MS) (M : Nat) (T : Nat → ze_T) (hd : Nat → Bool) (mv : Int64) (hM : 3 ≤ M ∧ M ≤ 6) (af at_ bf bt : Nat) (ha : af ≤ at_) (ha6 : at_ ≤ 60) (hb : bf ≤ bt) (hb6 : bt ≤ 60) (A B L : List ze_Row) (hA : ze_Hl (T 9).1 (T 9).2.1 af A) (hAl : A.length = at_ - af) (hB : ze_Hl (T 10).1 (T 10).2.1 bf B) (hBl : B.length = bt - bf) (m : Nat) (hm8 : m < 8) (hm : ze_Hu (T m) L) : ze_MX l D ids ad ms y_X_joinByChunks ws_X_joinByChunks 5 (M, T, hd, mv) [.ref (ad 0), .int (nI af), .int (nI at_), .int (nI bf), .int (nI bt), .ref (ad (3 + 3 * m))] (fun w x' => w = some (.long (lN (ze_sz B.length + (B.length + ze_rm4 M - 1) / ze_rm4 M * ze_sz A.length))) ∧ ∃ T', x' = (M, T', hd, mv) ∧ (∀ z, z ≠ m → T' z = T z) ∧ ze_Hu (T' m) (L ++ ze_jc (ze_rm4 M) A B.length B)) := by
  refine ze_enter (cc := b_X_joinByChunks) (maxL := 10) (ret := (some .long)) (by decide +kernel) rfl (Nat.le_of_ble_eq_true rfl) ?_
  rintro G rfl rfl rfl - C Rt
  refine ze_lv (lv' := [(0, .ref (ad 0)), (1, .int (nI af)), (2, .int (nI at_)), (3, .int (nI bf)), (4, .int (nI bt)), (5, .ref (ad (3 + 3 * m)))]) rfl ?_
  have hw : 4 ≤ ze_rm4 M ∧ ze_rm4 M ≤ 16 := by unfold ze_rm4; omega
  have hnc0 : (bt - bf + ze_rm4 M - 1) / ze_rm4 M = (B.length + ze_rm4 M - 1) / ze_rm4 M := by rw [hBl]
  have hn3 := ze_cd3 (n := B.length) (w := ze_rm4 M) (by omega)
  have hn1 : ∀ c, c < (B.length + ze_rm4 M - 1) / ze_rm4 M → c * ze_rm4 M < B.length := fun c h => ze_cd1 (by omega) h
  have hn2 : ∀ c, (B.length + ze_rm4 M - 1) / ze_rm4 M ≤ c → B.length ≤ c * ze_rm4 M := fun c h => ze_cd2 (by omega) h
  generalize hnc : (B.length + ze_rm4 M - 1) / ze_rm4 M = nc at hn1 hn2 hn3
  have loop : ∀ (r : Nat) (c : Nat) (T1 : Nat → ze_T) (Lc : List ze_Row), nc - c = r → c ≤ nc → (∀ z, z ≠ m → T1 z = T z) → ze_Hu (T1 m) Lc → Lc ++ ze_jc (ze_rm4 M) A (B.length - c) (B.drop (c * ze_rm4 M)) = L ++ ze_jc (ze_rm4 M) A B.length B → ze_V G 48 ad (ze_E (ze_i G) ad (M, T1, hd, mv) ms) 0 0 20 [(8, .int (nI c)), (7, .int (nI nc)), (6, .int (nI (ze_rm4 M))), (0, .ref (ad 0)), (1, .int (nI af)), (2, .int (nI at_)), (3, .int (nI bf)), (4, .int (nI bt)), (5, .ref (ad (3 + 3 * m)))] [] := by
    intro r
    induction r using Nat.strongRecOn with
    | ind r ih =>
      intro c T1 Lc hr g1 g2 g3 g4
      refine ze_iload C d_X_joinByChunks_20 0 rfl ?_
      refine ze_iload C d_X_joinByChunks_22 1 rfl ?_
      refine ze_icmp_geN 62 C d_X_joinByChunks_24 (by decide) (by omega) (by omega) (fun h24 => ?_) (fun h24 => ?_)
      · have hBn := hn2 c (by omega)
        rw [List.drop_eq_nil_of_le hBn, ze_jc_nil, List.append_nil] at g4
        refine ze_iload C d_X_joinByChunks_62 7 rfl ?_
        refine ze_iload_n C d_X_joinByChunks_64 6 rfl rfl ?_
        refine ze_isubN C d_X_joinByChunks_65 (by omega) ?_
        refine ze_callS (st := []) C (c_X_sizeOf (ze_l G) (ze_D G) (ze_i G) _ _ _ (bt - bf) (by omega)) (ks_X_68 (ze_rml (by decide) (by decide))) rfl (Nat.le_of_ble_eq_true rfl) ⟨Nat.le_of_ble_eq_true rfl, Nat.le_of_ble_eq_true rfl⟩ d_X_joinByChunks_66 ?_
        rintro _ _ _ _ ⟨rfl, rfl, rfl, rfl⟩
        refine ze_norm (c2 := 0) (s2 := 0) (st' := [.int (nI (ze_sz (bt - bf)))]) rfl rfl rfl ?_
        have hz66 := ze_sz_le (bt - bf)
        refine ze_i2lN C d_X_joinByChunks_69 (by omega) ?_
        refine ze_iload C d_X_joinByChunks_70 1 rfl ?_
        refine ze_i2lN C d_X_joinByChunks_72 (by omega) ?_
        refine ze_iload_n C d_X_joinByChunks_73 5 rfl rfl ?_
        refine ze_iload_n C d_X_joinByChunks_74 4 rfl rfl ?_
        refine ze_isubN C d_X_joinByChunks_75 (by omega) ?_
        refine ze_callS (st := [.long (lN nc), .long (lN (ze_sz (bt - bf)))]) C (c_X_sizeOf (ze_l G) (ze_D G) (ze_i G) _ _ _ (at_ - af) (by omega)) (ks_X_68 (ze_rml (by decide) (by decide))) rfl (Nat.le_of_ble_eq_true rfl) ⟨Nat.le_of_ble_eq_true rfl, Nat.le_of_ble_eq_true rfl⟩ d_X_joinByChunks_76 ?_
        rintro _ _ _ _ ⟨rfl, rfl, rfl, rfl⟩
        refine ze_norm (c2 := 0) (s2 := 0) (st' := [.int (nI (ze_sz (at_ - af))), .long (lN nc), .long (lN (ze_sz (bt - bf)))]) rfl rfl rfl ?_
        have hz76 := ze_sz_le (at_ - af)
        refine ze_i2lN C d_X_joinByChunks_79 (by omega) ?_
        refine ze_lmulN C d_X_joinByChunks_80 ?_
        refine ze_laddN C d_X_joinByChunks_81 ?_
        exact ze_lret C Rt d_X_joinByChunks_82 (⟨rfl, rfl, _, rfl, by rw [← hnc, hBl, hAl], T1, rfl, g2, by rw [← g4]; exact g3⟩)
      · have hcw := hn1 c (by omega)
        refine ze_iload_n C d_X_joinByChunks_27 6 rfl rfl ?_
        refine ze_iload C d_X_joinByChunks_28 0 rfl ?_
        refine ze_iload C d_X_joinByChunks_30 2 rfl ?_
        refine ze_imulN C d_X_joinByChunks_32 ?_
        refine ze_iaddN C d_X_joinByChunks_33 ?_
        refine ze_istore (lv' := [(9, .int (nI (bf + (c * (ze_rm4 M))))), (8, .int (nI c)), (7, .int (nI nc)), (6, .int (nI (ze_rm4 M))), (0, .ref (ad 0)), (1, .int (nI af)), (2, .int (nI at_)), (3, .int (nI bf)), (4, .int (nI bt)), (5, .ref (ad (3 + 3 * m)))]) C d_X_joinByChunks_34 (by decide) rfl ?_
        refine ze_aload_n C d_X_joinByChunks_36 4 rfl rfl ?_
        refine ze_iload_n C d_X_joinByChunks_37 5 rfl rfl ?_
        refine ze_iload_n C d_X_joinByChunks_38 6 rfl rfl ?_
        refine ze_iload C d_X_joinByChunks_39 0 rfl ?_
        refine ze_iload C d_X_joinByChunks_41 0 rfl ?_
        refine ze_iload C d_X_joinByChunks_43 3 rfl ?_
        refine ze_iaddN C d_X_joinByChunks_45 ?_
        refine ze_iload C d_X_joinByChunks_46 8 rfl ?_
        refine ze_callS (st := [.int (nI (bf + (c * (ze_rm4 M)))), .int (nI at_), .int (nI af), .ref (ad 0)]) C (c_J_min (ze_l G) (ze_D G) (ze_i G) _ _ _ (nI (bf + (c * (ze_rm4 M)) + (ze_rm4 M))) (nI bt)) (ks_X_15 (ze_rml (by decide) (by decide))) rfl (Nat.le_of_ble_eq_true rfl) ⟨Nat.le_of_ble_eq_true rfl, Nat.le_of_ble_eq_true rfl⟩ d_X_joinByChunks_48 ?_
        rintro _ _ _ _ ⟨rfl, rfl, rfl, rfl⟩
        refine ze_norm (c2 := 0) (s2 := 0) (st' := [.int (if (nI bt) < (nI (bf + (c * (ze_rm4 M)) + (ze_rm4 M))) then (nI bt) else (nI (bf + (c * (ze_rm4 M)) + (ze_rm4 M)))), .int (nI (bf + (c * (ze_rm4 M)))), .int (nI at_), .int (nI af), .ref (ad 0)]) rfl rfl rfl ?_
        rw [ze_min_nI (by omega) (by omega)]
        refine ze_aload C d_X_joinByChunks_51 9 rfl ?_
        refine ze_callV (st := []) C (c_X_joinWithChunk (ze_l G) (ze_D G) (ze_i G) ad ms M T1 hd mv af at_ (bf + c * ze_rm4 M) (min (bf + c * ze_rm4 M + ze_rm4 M) bt) (by omega) (by omega) (by omega) (by omega) A ((B.drop (c * ze_rm4 M)).take (ze_rm4 M)) Lc (by rw [g2 9 (by omega)]; exact hA) hAl (by rw [g2 10 (by omega)]; exact ze_Hl_tk (ze_Hl_drop hB _) _) (by rw [List.length_take, List.length_drop]; omega) m hm8 g3) (kv_X_158 (ze_rml (by decide) (by decide))) (by decide) ze_E_x rfl (Nat.le_of_ble_eq_true rfl) ⟨Nat.le_of_ble_eq_true rfl, Nat.le_of_ble_eq_true rfl⟩ d_X_joinByChunks_53 ?_
        rintro _ _ _ _ ⟨rfl, rfl, _, rfl, rfl, T2, rfl, oT2, hu2⟩
        refine ze_norm (c2 := 0) (s2 := 0) (st' := []) rfl rfl rfl ?_
        refine ze_iinc (j := 1) (v := nI (c + 1)) (lv' := [(8, .int (nI (c + 1))), (9, .int (nI (bf + (c * (ze_rm4 M))))), (7, .int (nI nc)), (6, .int (nI (ze_rm4 M))), (0, .ref (ad 0)), (1, .int (nI af)), (2, .int (nI at_)), (3, .int (nI bf)), (4, .int (nI bt)), (5, .ref (ad (3 + 3 * m)))]) C d_X_joinByChunks_56 rfl (nI_1 _) (by decide) rfl ?_
        refine ze_goto 20 C d_X_joinByChunks_59 (by decide) ?_
        refine ze_sub [(8, .int (nI (c + 1))), (7, .int (nI nc)), (6, .int (nI (ze_rm4 M))), (0, .ref (ad 0)), (1, .int (nI af)), (2, .int (nI at_)), (3, .int (nI bf)), (4, .int (nI bt)), (5, .ref (ad (3 + 3 * m)))] [0, 2, 3, 4, 5, 6, 7, 8, 9] rfl ?_
        refine ih (nc - (c + 1)) (by omega) (c + 1) T2 _ rfl (by omega) (fun z hz => (oT2 z hz).trans (g2 z hz)) hu2 ?_
        have hne : B.drop (c * ze_rm4 M) ≠ [] := fun z => by have := congrArg List.length z; rw [List.length_drop] at this; simp at this; omega
        rw [← g4, show B.length - c = (B.length - (c + 1)) + 1 by omega, ze_jc_step hne, List.append_assoc, List.drop_drop, Nat.succ_mul]
  refine ze_aload_n C d_X_joinByChunks_0 0 rfl rfl ?_
  refine ze_callV (st := []) C (c_X_rowsInMemory (ze_l G) (ze_D G) (ze_i G) ad ms M T hd mv hM) (kv_X_129 (ze_rml (by decide) (by decide))) (by decide) ze_E_x rfl (Nat.le_of_ble_eq_true rfl) ⟨Nat.le_of_ble_eq_true rfl, Nat.le_of_ble_eq_true rfl⟩ d_X_joinByChunks_1 ?_
  rintro _ _ _ _ ⟨rfl, rfl, _, rfl, rfl, rfl⟩
  refine ze_norm (c2 := 0) (s2 := 0) (st' := [.int (nI (ze_rm4 M))]) rfl rfl rfl ?_
  refine ze_istore (lv' := [(6, .int (nI (ze_rm4 M))), (0, .ref (ad 0)), (1, .int (nI af)), (2, .int (nI at_)), (3, .int (nI bf)), (4, .int (nI bt)), (5, .ref (ad (3 + 3 * m)))]) C d_X_joinByChunks_4 (by decide) rfl ?_
  refine ze_iload C d_X_joinByChunks_6 5 rfl ?_
  refine ze_iload_n C d_X_joinByChunks_8 4 rfl rfl ?_
  refine ze_isubN C d_X_joinByChunks_9 (by omega) ?_
  refine ze_iload C d_X_joinByChunks_10 0 rfl ?_
  refine ze_callS (st := []) C (c_X_dividedUp (ze_l G) (ze_D G) (ze_i G) _ _ _ (bt - bf) (ze_rm4 M) (by omega) (by omega) (by omega)) (ks_X_121 (ze_rml (by decide) (by decide))) rfl (Nat.le_of_ble_eq_true rfl) ⟨Nat.le_of_ble_eq_true rfl, Nat.le_of_ble_eq_true rfl⟩ d_X_joinByChunks_12 ?_
  rintro _ _ _ _ ⟨rfl, rfl, rfl, rfl⟩
  refine ze_norm (c2 := 0) (s2 := 0) (st' := [.int (nI ((bt - bf + (ze_rm4 M) - 1) / (ze_rm4 M)))]) rfl rfl rfl ?_
  refine ze_istore (lv' := [(7, .int (nI ((bt - bf + (ze_rm4 M) - 1) / (ze_rm4 M)))), (6, .int (nI (ze_rm4 M))), (0, .ref (ad 0)), (1, .int (nI af)), (2, .int (nI at_)), (3, .int (nI bf)), (4, .int (nI bt)), (5, .ref (ad (3 + 3 * m)))]) C d_X_joinByChunks_15 (by decide) rfl ?_
  refine ze_iconst (v := nI 0) C d_X_joinByChunks_17 (by decide) ?_
  refine ze_istore (lv' := [(8, .int (nI 0)), (7, .int (nI ((bt - bf + (ze_rm4 M) - 1) / (ze_rm4 M)))), (6, .int (nI (ze_rm4 M))), (0, .ref (ad 0)), (1, .int (nI af)), (2, .int (nI at_)), (3, .int (nI bf)), (4, .int (nI bt)), (5, .ref (ad (3 + 3 * m)))]) C d_X_joinByChunks_18 (by decide) rfl ?_
  rw [hnc0, hnc]
  refine ze_sub [(8, .int (nI 0)), (7, .int (nI nc)), (6, .int (nI (ze_rm4 M))), (0, .ref (ad 0)), (1, .int (nI af)), (2, .int (nI at_)), (3, .int (nI bf)), (4, .int (nI bt)), (5, .ref (ad (3 + 3 * m)))] [0, 1, 2, 3, 4, 5, 6, 7, 8] rfl ?_
  exact loop _ 0 T L rfl (Nat.zero_le _) (fun _ _ => rfl) hm (by rw [Nat.zero_mul, List.drop_zero, Nat.sub_zero])

/-- the contract of joinRanges k levels above the last -/
def ze_JR (k : Nat) : Prop := ∀ (l : Launch) (D : va_G) (ids : Nat → ClassId) (ad : Nat → Nat) (ms : ze_MS) (M : Nat) (T : Nat → ze_T) (hd : Nat → Bool) (mv : Int64) (hM : 3 ≤ M ∧ M ≤ 6) (lev : Nat) (hlk : lev + k = 3) (af at_ bf bt : Nat) (ha : af ≤ at_) (ha6 : at_ ≤ 60) (hb : bf ≤ bt) (hb6 : bt ≤ 60) (A B L : List ze_Row) (hA : ze_Hl (T 9).1 (T 9).2.1 af A) (hAl : A.length = at_ - af) (hB : ze_Hl (T 10).1 (T 10).2.1 bf B) (hBl : B.length = bt - bf) (m : Nat) (hm8 : m < 8) (hm : ze_Hu (T m) L), ze_M l D ids y_X_joinRanges ws_X_joinRanges (ze_rm (6 + k)) 0 0 48 ad (ze_E ids ad (M, T, hd, mv) ms) [.ref (ad 0), .int (nI af), .int (nI at_), .int (nI bf), .int (nI bt), .int (nI lev), .ref (ad (3 + 3 * m))] (ze_pX ids ad ms (fun w x' => w = some (.long (lN (ze_jn M k A B).2)) ∧ ∃ T', x' = (M, T', hd, mv) ∧ (∀ z, z ≠ m → z ≠ 9 → z ≠ 10 → z ≠ 11 → T' z = T z) ∧ ze_Hu (T' m) (L ++ (ze_jn M k A B).1) ∧ (∀ q, q < af ∨ at_ ≤ q → (T' 9).1 q = (T 9).1 q ∧ (T' 9).2.1 q = (T 9).2.1 q) ∧ (∀ q, q < bf ∨ bt ≤ q → (T' 10).1 q = (T 10).1 q ∧ (T' 10).2.1 q = (T 10).2.1 q)))
theorem ze_jn_nil {M k : Nat} {A B : List ze_Row} (h : A = [] ∨ B = []) : ze_jn M k A B = ([], 0) := by
  cases k with
  | zero => rw [ze_jn, if_pos h]
  | succ k => rw [ze_jn, if_pos h]
theorem ze_jn_leaf {M k : Nat} {A B : List ze_Row} (h : ¬ (A = [] ∨ B = [])) (hk : k = 0 ∨ B.length ≤ ze_rm4 M) : ze_jn M k A B = (ze_jc (ze_rm4 M) A B.length B, ze_sz B.length + (B.length + ze_rm4 M - 1) / ze_rm4 M * ze_sz A.length) := by
  cases k with
  | zero => rw [ze_jn, if_neg h]
  | succ k => rw [ze_jn, if_neg h, if_pos (hk.resolve_left (by omega))]

set_option maxRecDepth 100000 in
set_option maxHeartbeats 4000000 in
theorem c_X_joinRanges_0 : ze_JR 0 := by
  intro l D ids ad ms M T hd mv hM lev hlk af at_ bf bt ha ha6 hb hb6 A B L hA hAl hB hBl m hm8 hm
  refine ze_enter (cc := b_X_joinRanges) (maxL := 14) (ret := (some .long)) (by decide +kernel) rfl (Nat.le_of_ble_eq_true rfl) ?_
  rintro G rfl rfl rfl - C Rt
  refine ze_lv (lv' := [(0, .ref (ad 0)), (1, .int (nI af)), (2, .int (nI at_)), (3, .int (nI bf)), (4, .int (nI bt)), (5, .int (nI lev)), (6, .ref (ad (3 + 3 * m)))]) rfl ?_
  have hw : 4 ≤ ze_rm4 M ∧ ze_rm4 M ≤ 16 := by unfold ze_rm4; omega
  refine ze_iload_n C d_X_joinRanges_0 1 rfl rfl ?_
  refine ze_iload_n C d_X_joinRanges_1 2 rfl rfl ?_
  refine ze_icmp_geN 11 C d_X_joinRanges_2 (by decide) (by omega) (by omega) (fun h2 => ?_) (fun h2 => ?_)
  · refine ze_lconst (v := lN 0) C d_X_joinRanges_11 (by decide) ?_
    exact ze_lret C Rt d_X_joinRanges_12 (⟨rfl, rfl, _, rfl, by rw [ze_jn_nil (Or.inl (List.eq_nil_of_length_eq_zero (by omega)))], T, rfl, fun _ _ _ _ _ => rfl, by rw [ze_jn_nil (Or.inl (List.eq_nil_of_length_eq_zero (by omega))), List.append_nil]; exact hm, fun _ _ => ⟨rfl, rfl⟩, fun _ _ => ⟨rfl, rfl⟩⟩)
  · refine ze_iload_n C d_X_joinRanges_5 3 rfl rfl ?_
    refine ze_iload C d_X_joinRanges_6 4 rfl ?_
    refine ze_icmp_ltN 13 C d_X_joinRanges_8 (by decide) (by omega) (by omega) (fun h8 => ?_) (fun h8 => ?_)
    · have hne : ¬ (A = [] ∨ B = []) := by rintro (rfl | rfl) <;> simp at hAl hBl <;> omega
      refine ze_iload C d_X_joinRanges_13 5 rfl ?_
      refine ze_iconst (v := nI 3) C d_X_joinRanges_15 (by decide) ?_
      refine ze_icmp_geN 30 C d_X_joinRanges_16 (by decide) (by omega) (by omega) (fun h16 => ?_) (fun h16 => absurd h16 (by omega))
      refine ze_aload_n C d_X_joinRanges_30 0 rfl rfl ?_
      refine ze_iload_n C d_X_joinRanges_31 1 rfl rfl ?_
      refine ze_iload_n C d_X_joinRanges_32 2 rfl rfl ?_
      refine ze_iload_n C d_X_joinRanges_33 3 rfl rfl ?_
      refine ze_iload C d_X_joinRanges_34 4 rfl ?_
      refine ze_aload C d_X_joinRanges_36 6 rfl ?_
      have hlf : 0 = 0 ∨ B.length ≤ ze_rm4 M := Or.inl rfl
      refine ze_callV (st := []) C (c_X_joinByChunks (ze_l G) (ze_D G) (ze_i G) ad ms M T hd mv hM af at_ bf bt ha ha6 hb hb6 A B L hA hAl hB hBl m hm8 hm) (kv_X_146 (ze_rml (by omega) (by decide))) (by decide) ze_E_x rfl (Nat.le_of_ble_eq_true rfl) ⟨Nat.le_of_ble_eq_true rfl, Nat.le_of_ble_eq_true rfl⟩ d_X_joinRanges_38 ?_
      rintro _ _ _ _ ⟨rfl, rfl, _, rfl, rfl, T1, rfl, oT1, hu1⟩
      refine ze_norm (c2 := 0) (s2 := 0) (st' := [.long (lN (ze_sz B.length + (B.length + ze_rm4 M - 1) / ze_rm4 M * ze_sz A.length))]) rfl rfl rfl ?_
      exact ze_lret C Rt d_X_joinRanges_41 (⟨rfl, rfl, _, rfl, by rw [ze_jn_leaf hne hlf], T1, rfl, fun z z1 _ _ _ => oT1 z z1, by rw [ze_jn_leaf hne hlf]; exact hu1, fun q _ => by rw [oT1 9 (by omega)]; exact ⟨rfl, rfl⟩, fun q _ => by rw [oT1 10 (by omega)]; exact ⟨rfl, rfl⟩⟩)
    · refine ze_lconst (v := lN 0) C d_X_joinRanges_11 (by decide) ?_
      exact ze_lret C Rt d_X_joinRanges_12 (⟨rfl, rfl, _, rfl, by rw [ze_jn_nil (Or.inr (List.eq_nil_of_length_eq_zero (by omega)))], T, rfl, fun _ _ _ _ _ => rfl, by rw [ze_jn_nil (Or.inr (List.eq_nil_of_length_eq_zero (by omega))), List.append_nil]; exact hm, fun _ _ => ⟨rfl, rfl⟩, fun _ _ => ⟨rfl, rfl⟩⟩)

theorem ze_sfx_prt_0 (M lev : Nat) (f : ze_Row → Int32) (A : List ze_Row) (n : Nat) : ze_prt M lev f A n = ze_sfx M lev f A (n - 0) 0 := by
  have := ze_sfx_prt M lev f A n 0
  rw [Nat.zero_add] at this
  rw [← this]
  rfl

set_option maxRecDepth 100000 in
set_option maxHeartbeats 4000000 in
theorem c_X_joinRanges_s (k : Nat) (hk2 : k ≤ 2) (ihk : ze_JR k) : ze_JR (k + 1) := by
  intro l D ids ad ms M T hd mv hM lev hlk af at_ bf bt ha ha6 hb hb6 A B L hA hAl hB hBl m hm8 hm
  refine ze_enter (cc := b_X_joinRanges) (maxL := 14) (ret := (some .long)) (by decide +kernel) rfl (Nat.le_of_ble_eq_true rfl) ?_
  rintro G rfl rfl rfl - C Rt
  refine ze_lv (lv' := [(0, .ref (ad 0)), (1, .int (nI af)), (2, .int (nI at_)), (3, .int (nI bf)), (4, .int (nI bt)), (5, .int (nI lev)), (6, .ref (ad (3 + 3 * m)))]) rfl ?_
  have hw : 4 ≤ ze_rm4 M ∧ ze_rm4 M ≤ 16 := by unfold ze_rm4; omega
  refine ze_iload_n C d_X_joinRanges_0 1 rfl rfl ?_
  refine ze_iload_n C d_X_joinRanges_1 2 rfl rfl ?_
  refine ze_icmp_geN 11 C d_X_joinRanges_2 (by decide) (by omega) (by omega) (fun h2 => ?_) (fun h2 => ?_)
  · refine ze_lconst (v := lN 0) C d_X_joinRanges_11 (by decide) ?_
    exact ze_lret C Rt d_X_joinRanges_12 (⟨rfl, rfl, _, rfl, by rw [ze_jn_nil (Or.inl (List.eq_nil_of_length_eq_zero (by omega)))], T, rfl, fun _ _ _ _ _ => rfl, by rw [ze_jn_nil (Or.inl (List.eq_nil_of_length_eq_zero (by omega))), List.append_nil]; exact hm, fun _ _ => ⟨rfl, rfl⟩, fun _ _ => ⟨rfl, rfl⟩⟩)
  · refine ze_iload_n C d_X_joinRanges_5 3 rfl rfl ?_
    refine ze_iload C d_X_joinRanges_6 4 rfl ?_
    refine ze_icmp_ltN 13 C d_X_joinRanges_8 (by decide) (by omega) (by omega) (fun h8 => ?_) (fun h8 => ?_)
    · have hne : ¬ (A = [] ∨ B = []) := by rintro (rfl | rfl) <;> simp at hAl hBl <;> omega
      refine ze_iload C d_X_joinRanges_13 5 rfl ?_
      refine ze_iconst (v := nI 3) C d_X_joinRanges_15 (by decide) ?_
      refine ze_icmp_geN 30 C d_X_joinRanges_16 (by decide) (by omega) (by omega) (fun h16 => absurd h16 (by omega)) (fun h16 => ?_)
      refine ze_iload C d_X_joinRanges_19 4 rfl ?_
      refine ze_iload_n C d_X_joinRanges_21 3 rfl rfl ?_
      refine ze_isubN C d_X_joinRanges_22 (by omega) ?_
      refine ze_aload_n C d_X_joinRanges_23 0 rfl rfl ?_
      refine ze_callV (st := [.int (nI (bt - bf))]) C (c_X_rowsInMemory (ze_l G) (ze_D G) (ze_i G) ad ms M T hd mv hM) (kv_X_129 (ze_rml (by omega) (by decide))) (by decide) ze_E_x rfl (Nat.le_of_ble_eq_true rfl) ⟨Nat.le_of_ble_eq_true rfl, Nat.le_of_ble_eq_true rfl⟩ d_X_joinRanges_24 ?_
      rintro _ _ _ _ ⟨rfl, rfl, _, rfl, rfl, rfl⟩
      refine ze_norm (c2 := 0) (s2 := 0) (st' := [.int (nI (ze_rm4 M)), .int (nI (bt - bf))]) rfl rfl rfl ?_
      refine ze_icmp_gtN 42 C d_X_joinRanges_27 (by decide) (by omega) (by omega) (fun h27 => ?_) (fun h27 => ?_)
      · have hjn : ze_jn M (k + 1) A B = ((List.range (M - 1)).flatMap (fun q => (ze_jn M k (ze_pt M lev q (fun r => r.2) A) (ze_pt M lev q (fun r => r.1) B)).1), ze_sz A.length + ze_sz B.length + ((List.range (M - 1)).map (fun q => (ze_sz (ze_pt M lev q (fun r => r.2) A).length + ze_sz (ze_pt M lev q (fun r => r.1) B).length + (ze_jn M k (ze_pt M lev q (fun r => r.2) A) (ze_pt M lev q (fun r => r.1) B)).2))).sum) := by rw [ze_jn, if_neg hne, if_neg (by omega), show 2 - k = lev by omega]
        refine ze_aload_n C d_X_joinRanges_42 0 rfl rfl ?_
        refine ze_aload_n C d_X_joinRanges_43 0 rfl rfl ?_
        refine ze_getf C fl_X_37 (by decide) ze_E_x rfl d_X_joinRanges_44 ?_
        refine ze_aload_n C d_X_joinRanges_47 0 rfl rfl ?_
        refine ze_getf C fl_X_37 (by decide) ze_E_x rfl d_X_joinRanges_48 ?_
        refine ze_getf (k := 3 + 3 * 9) C fl_X_87 (by decide) (ze_E_t (i := 9) (by omega)) rfl d_X_joinRanges_51 ?_
        refine ze_iload_n C d_X_joinRanges_54 1 rfl rfl ?_
        refine ze_iload_n C d_X_joinRanges_55 2 rfl rfl ?_
        refine ze_iload C d_X_joinRanges_56 5 rfl ?_
        refine ze_callV (st := []) C (c_X_partition_A (ze_l G) (ze_D G) (ze_i G) ad ms M T hd mv hM af at_ lev ha ha6 (by omega) A hA hAl) (kv_X_150 (ze_rml (by omega) (by decide))) (by decide) ze_E_x rfl (Nat.le_of_ble_eq_true rfl) ⟨Nat.le_of_ble_eq_true rfl, Nat.le_of_ble_eq_true rfl⟩ d_X_joinRanges_58 ?_
        rintro _ _ _ _ ⟨rfl, rfl, _, rfl, rfl, T1, rfl, oT1, hp1, ho1⟩
        refine ze_norm (c2 := 0) (s2 := 0) (st' := []) rfl rfl rfl ?_
        refine ze_aload_n C d_X_joinRanges_61 0 rfl rfl ?_
        refine ze_aload_n C d_X_joinRanges_62 0 rfl rfl ?_
        refine ze_getf C fl_X_40 (by decide) ze_E_x rfl d_X_joinRanges_63 ?_
        refine ze_aload_n C d_X_joinRanges_66 0 rfl rfl ?_
        refine ze_getf C fl_X_40 (by decide) ze_E_x rfl d_X_joinRanges_67 ?_
        refine ze_getf (k := 3 + 3 * 10) C fl_X_83 (by decide) (ze_E_t (i := 10) (by omega)) rfl d_X_joinRanges_70 ?_
        refine ze_iload_n C d_X_joinRanges_73 3 rfl rfl ?_
        refine ze_iload C d_X_joinRanges_74 4 rfl ?_
        refine ze_iload C d_X_joinRanges_76 5 rfl ?_
        refine ze_callV (st := []) C (c_X_partition_B (ze_l G) (ze_D G) (ze_i G) ad ms M T1 hd mv hM bf bt lev hb hb6 (by omega) B (by rw [oT1 10 (by decide) (by decide)]; exact hB) hBl) (kv_X_150 (ze_rml (by omega) (by decide))) (by decide) ze_E_x rfl (Nat.le_of_ble_eq_true rfl) ⟨Nat.le_of_ble_eq_true rfl, Nat.le_of_ble_eq_true rfl⟩ d_X_joinRanges_78 ?_
        rintro _ _ _ _ ⟨rfl, rfl, _, rfl, rfl, T2, rfl, oT2, hp2, ho2⟩
        refine ze_norm (c2 := 0) (s2 := 0) (st' := []) rfl rfl rfl ?_
        refine ze_iload_n C d_X_joinRanges_81 2 rfl rfl ?_
        refine ze_iload_n C d_X_joinRanges_82 1 rfl rfl ?_
        refine ze_isubN C d_X_joinRanges_83 (by omega) ?_
        refine ze_callS (st := []) C (c_X_sizeOf (ze_l G) (ze_D G) (ze_i G) _ _ _ (at_ - af) (by omega)) (ks_X_68 (ze_rml (by omega) (by decide))) rfl (Nat.le_of_ble_eq_true rfl) ⟨Nat.le_of_ble_eq_true rfl, Nat.le_of_ble_eq_true rfl⟩ d_X_joinRanges_84 ?_
        rintro _ _ _ _ ⟨rfl, rfl, rfl, rfl⟩
        refine ze_norm (c2 := 0) (s2 := 0) (st' := [.int (nI (ze_sz (at_ - af)))]) rfl rfl rfl ?_
        have hz84 := ze_sz_le (at_ - af)
        refine ze_iload C d_X_joinRanges_87 4 rfl ?_
        refine ze_iload_n C d_X_joinRanges_89 3 rfl rfl ?_
        refine ze_isubN C d_X_joinRanges_90 (by omega) ?_
        refine ze_callS (st := [.int (nI (ze_sz (at_ - af)))]) C (c_X_sizeOf (ze_l G) (ze_D G) (ze_i G) _ _ _ (bt - bf) (by omega)) (ks_X_68 (ze_rml (by omega) (by decide))) rfl (Nat.le_of_ble_eq_true rfl) ⟨Nat.le_of_ble_eq_true rfl, Nat.le_of_ble_eq_true rfl⟩ d_X_joinRanges_91 ?_
        rintro _ _ _ _ ⟨rfl, rfl, rfl, rfl⟩
        refine ze_norm (c2 := 0) (s2 := 0) (st' := [.int (nI (ze_sz (bt - bf))), .int (nI (ze_sz (at_ - af)))]) rfl rfl rfl ?_
        have hz91 := ze_sz_le (bt - bf)
        refine ze_iaddN C d_X_joinRanges_94 ?_
        refine ze_i2lN C d_X_joinRanges_95 (by omega) ?_
        refine ze_lstore (lv' := [(7, .long (lN (ze_sz (at_ - af) + (ze_sz (bt - bf))))), (0, .ref (ad 0)), (1, .int (nI af)), (2, .int (nI at_)), (3, .int (nI bf)), (4, .int (nI bt)), (5, .int (nI lev)), (6, .ref (ad (3 + 3 * m)))]) C d_X_joinRanges_96 (by decide) rfl ?_
        refine ze_iload_n C d_X_joinRanges_98 2 rfl rfl ?_
        refine ze_istore (lv' := [(9, .int (nI af)), (7, .long (lN (ze_sz (at_ - af) + (ze_sz (bt - bf))))), (0, .ref (ad 0)), (1, .int (nI af)), (2, .int (nI at_)), (3, .int (nI bf)), (4, .int (nI bt)), (5, .int (nI lev)), (6, .ref (ad (3 + 3 * m)))]) C d_X_joinRanges_99 (by decide) rfl ?_
        refine ze_iload_n C d_X_joinRanges_101 5 rfl rfl ?_
        refine ze_istore (lv' := [(10, .int (nI bf)), (9, .int (nI af)), (7, .long (lN (ze_sz (at_ - af) + (ze_sz (bt - bf))))), (0, .ref (ad 0)), (1, .int (nI af)), (2, .int (nI at_)), (3, .int (nI bf)), (4, .int (nI bt)), (5, .int (nI lev)), (6, .ref (ad (3 + 3 * m)))]) C d_X_joinRanges_102 (by decide) rfl ?_
        refine ze_iconst (v := nI 0) C d_X_joinRanges_104 (by decide) ?_
        refine ze_istore (lv' := [(11, .int (nI 0)), (10, .int (nI bf)), (9, .int (nI af)), (7, .long (lN (ze_sz (at_ - af) + (ze_sz (bt - bf))))), (0, .ref (ad 0)), (1, .int (nI af)), (2, .int (nI at_)), (3, .int (nI bf)), (4, .int (nI bt)), (5, .int (nI lev)), (6, .ref (ad (3 + 3 * m)))]) C d_X_joinRanges_105 (by decide) rfl ?_
        have lenA : ∀ p, p ≤ M - 1 → (ze_prt M lev (fun r => r.2) A p).length + (ze_sfx M lev (fun r => r.2) A (M - 1 - p) p).length = A.length := fun p hp => by rw [← List.length_append, ze_sfx_prt, show p + (M - 1 - p) = M - 1 by omega, ze_prt_len hM]
        have lenB : ∀ p, p ≤ M - 1 → (ze_prt M lev (fun r => r.1) B p).length + (ze_sfx M lev (fun r => r.1) B (M - 1 - p) p).length = B.length := fun p hp => by rw [← List.length_append, ze_sfx_prt, show p + (M - 1 - p) = M - 1 by omega, ze_prt_len hM]
        have loop : ∀ (r : Nat) (p aS bS cst : Nat) (T3 : Nat → ze_T), M - 1 - p = r → p ≤ M - 1 → aS = af + (ze_prt M lev (fun r => r.2) A p).length → bS = bf + (ze_prt M lev (fun r => r.1) B p).length → aS ≤ at_ → bS ≤ bt → (∀ z, z ≠ m → z ≠ 9 → z ≠ 10 → z ≠ 11 → T3 z = T z) → ze_Hu (T3 m) (L ++ (List.range p).flatMap (fun q => (ze_jn M k (ze_pt M lev q (fun r => r.2) A) (ze_pt M lev q (fun r => r.1) B)).1)) → ze_Hl (T3 9).1 (T3 9).2.1 aS (ze_sfx M lev (fun r => r.2) A (M - 1 - p) p) → ze_Hl (T3 10).1 (T3 10).2.1 bS (ze_sfx M lev (fun r => r.1) B (M - 1 - p) p) → cst = ze_sz A.length + ze_sz B.length + ((List.range p).map (fun q => (ze_sz (ze_pt M lev q (fun r => r.2) A).length + ze_sz (ze_pt M lev q (fun r => r.1) B).length + (ze_jn M k (ze_pt M lev q (fun r => r.2) A) (ze_pt M lev q (fun r => r.1) B)).2))).sum → (∀ q, q < af ∨ at_ ≤ q → (T3 9).1 q = (T 9).1 q ∧ (T3 9).2.1 q = (T 9).2.1 q) → (∀ q, q < bf ∨ bt ≤ q → (T3 10).1 q = (T 10).1 q ∧ (T3 10).2.1 q = (T 10).2.1 q) → ze_V G 48 ad (ze_E (ze_i G) ad (M, T3, hd, mv) ms) 0 0 107 [(11, .int (nI p)), (10, .int (nI bS)), (9, .int (nI aS)), (7, .long (lN cst)), (0, .ref (ad 0)), (1, .int (nI af)), (2, .int (nI at_)), (3, .int (nI bf)), (4, .int (nI bt)), (5, .int (nI lev)), (6, .ref (ad (3 + 3 * m)))] [] := by
          intro r
          induction r using Nat.strongRecOn with
          | ind r ih =>
            intro p aS bS cst T3 hr g1 g2 g3 g2t g3t g4 g5 g6 g7 g8 g9 g10
            refine ze_iload C d_X_joinRanges_107 0 rfl ?_
            refine ze_aload_n C d_X_joinRanges_109 4 rfl rfl ?_
            refine ze_getf C fl_X_18 (by decide) ze_E_x rfl d_X_joinRanges_110 ?_
            refine ze_iconst (v := nI 1) C d_X_joinRanges_113 (by decide) ?_
            refine ze_isubN C d_X_joinRanges_114 (by omega) ?_
            refine ze_icmp_geN 219 C d_X_joinRanges_115 (by decide) (by omega) (by omega) (fun h115 => ?_) (fun h115 => ?_)
            · refine ze_lload C d_X_joinRanges_219 3 rfl ?_
              rw [show p = M - 1 by omega] at g5 g8
              exact ze_lret C Rt d_X_joinRanges_221 ⟨rfl, rfl, _, rfl, by rw [hjn, g8], T3, rfl, g4, by rw [hjn]; exact g5, g9, g10⟩
            · have lA := lenA p g1
              have lB := lenB p g1
              have lA1 := lenA (p + 1) (by omega)
              have lB1 := lenB (p + 1) (by omega)
              have en : M - 1 - p = (M - 1 - (p + 1)) + 1 := by omega
              rw [en] at g6 g7 lA lB
              refine ze_aload_n C d_X_joinRanges_118 4 rfl rfl ?_
              refine ze_aload_n C d_X_joinRanges_119 4 rfl rfl ?_
              refine ze_getf C fl_X_37 (by decide) ze_E_x rfl d_X_joinRanges_120 ?_
              refine ze_getf (k := 3 + 3 * 9) C fl_X_87 (by decide) (ze_E_t (i := 9) (by omega)) rfl d_X_joinRanges_123 ?_
              refine ze_iload C d_X_joinRanges_126 2 rfl ?_
              refine ze_iload_n C d_X_joinRanges_128 6 rfl rfl ?_
              refine ze_iload C d_X_joinRanges_129 9 rfl ?_
              refine ze_iload C d_X_joinRanges_131 0 rfl ?_
              refine ze_callV (st := []) C (c_X_endOfPart_A (ze_l G) (ze_D G) (ze_i G) ad ms M T3 hd mv hM aS at_ lev p (by omega) (by omega) (by omega) (by omega)) (kv_X_154 (ze_rml (by omega) (by decide))) (by decide) ze_E_x rfl (Nat.le_of_ble_eq_true rfl) ⟨Nat.le_of_ble_eq_true rfl, Nat.le_of_ble_eq_true rfl⟩ d_X_joinRanges_133 ?_
              rintro _ _ _ _ ⟨rfl, rfl, _, rfl, aE, rfl, rfl, aE1, aE2, aE3, aE4⟩
              refine ze_norm (c2 := 0) (s2 := 0) (st' := [.int (nI aE)]) rfl rfl rfl ?_
              have haE := ze_eop ((T3 9).2.1) (fun _ => rfl) g6 (by omega) aE1 aE2 aE3 aE4
              clear aE3 aE4
              refine ze_istore (lv' := [(12, .int (nI aE)), (11, .int (nI p)), (10, .int (nI bS)), (9, .int (nI aS)), (7, .long (lN cst)), (0, .ref (ad 0)), (1, .int (nI af)), (2, .int (nI at_)), (3, .int (nI bf)), (4, .int (nI bt)), (5, .int (nI lev)), (6, .ref (ad (3 + 3 * m)))]) C d_X_joinRanges_136 (by decide) rfl ?_
              refine ze_aload_n C d_X_joinRanges_138 5 rfl rfl ?_
              refine ze_aload_n C d_X_joinRanges_139 5 rfl rfl ?_
              refine ze_getf C fl_X_40 (by decide) ze_E_x rfl d_X_joinRanges_140 ?_
              refine ze_getf (k := 3 + 3 * 10) C fl_X_83 (by decide) (ze_E_t (i := 10) (by omega)) rfl d_X_joinRanges_143 ?_
              refine ze_iload C d_X_joinRanges_146 2 rfl ?_
              refine ze_iload C d_X_joinRanges_148 9 rfl ?_
              refine ze_iload C d_X_joinRanges_150 10 rfl ?_
              refine ze_iload C d_X_joinRanges_152 1 rfl ?_
              refine ze_callV (st := []) C (c_X_endOfPart_B (ze_l G) (ze_D G) (ze_i G) ad ms M T3 hd mv hM bS bt lev p (by omega) (by omega) (by omega) (by omega)) (kv_X_154 (ze_rml (by omega) (by decide))) (by decide) ze_E_x rfl (Nat.le_of_ble_eq_true rfl) ⟨Nat.le_of_ble_eq_true rfl, Nat.le_of_ble_eq_true rfl⟩ d_X_joinRanges_154 ?_
              rintro _ _ _ _ ⟨rfl, rfl, _, rfl, bE, rfl, rfl, bE1, bE2, bE3, bE4⟩
              refine ze_norm (c2 := 0) (s2 := 0) (st' := [.int (nI bE)]) rfl rfl rfl ?_
              have hbE := ze_eop ((T3 10).1) (fun _ => rfl) g7 (by omega) bE1 bE2 bE3 bE4
              clear bE3 bE4
              refine ze_istore (lv' := [(13, .int (nI bE)), (12, .int (nI aE)), (11, .int (nI p)), (10, .int (nI bS)), (9, .int (nI aS)), (7, .long (lN cst)), (0, .ref (ad 0)), (1, .int (nI af)), (2, .int (nI at_)), (3, .int (nI bf)), (4, .int (nI bt)), (5, .int (nI lev)), (6, .ref (ad (3 + 3 * m)))]) C d_X_joinRanges_157 (by decide) rfl ?_
              refine ze_lload C d_X_joinRanges_159 5 rfl ?_
              refine ze_iload C d_X_joinRanges_161 1 rfl ?_
              refine ze_iload C d_X_joinRanges_163 4 rfl ?_
              refine ze_isubN C d_X_joinRanges_165 (by omega) ?_
              refine ze_callS (st := [.long (lN cst)]) C (c_X_sizeOf (ze_l G) (ze_D G) (ze_i G) _ _ _ (aE - aS) (by omega)) (ks_X_68 (ze_rml (by omega) (by decide))) rfl (Nat.le_of_ble_eq_true rfl) ⟨Nat.le_of_ble_eq_true rfl, Nat.le_of_ble_eq_true rfl⟩ d_X_joinRanges_166 ?_
              rintro _ _ _ _ ⟨rfl, rfl, rfl, rfl⟩
              refine ze_norm (c2 := 0) (s2 := 0) (st' := [.int (nI (ze_sz (aE - aS))), .long (lN cst)]) rfl rfl rfl ?_
              have hz166 := ze_sz_le (aE - aS)
              refine ze_iload C d_X_joinRanges_169 0 rfl ?_
              refine ze_iload C d_X_joinRanges_171 3 rfl ?_
              refine ze_isubN C d_X_joinRanges_173 (by omega) ?_
              refine ze_callS (st := [.int (nI (ze_sz (aE - aS))), .long (lN cst)]) C (c_X_sizeOf (ze_l G) (ze_D G) (ze_i G) _ _ _ (bE - bS) (by omega)) (ks_X_68 (ze_rml (by omega) (by decide))) rfl (Nat.le_of_ble_eq_true rfl) ⟨Nat.le_of_ble_eq_true rfl, Nat.le_of_ble_eq_true rfl⟩ d_X_joinRanges_174 ?_
              rintro _ _ _ _ ⟨rfl, rfl, rfl, rfl⟩
              refine ze_norm (c2 := 0) (s2 := 0) (st' := [.int (nI (ze_sz (bE - bS))), .int (nI (ze_sz (aE - aS))), .long (lN cst)]) rfl rfl rfl ?_
              have hz174 := ze_sz_le (bE - bS)
              refine ze_iaddN C d_X_joinRanges_177 ?_
              refine ze_i2lN C d_X_joinRanges_178 (by omega) ?_
              refine ze_laddN C d_X_joinRanges_179 ?_
              refine ze_lstore (lv' := [(7, .long (lN (cst + (ze_sz (aE - aS) + (ze_sz (bE - bS)))))), (13, .int (nI bE)), (12, .int (nI aE)), (11, .int (nI p)), (10, .int (nI bS)), (9, .int (nI aS)), (0, .ref (ad 0)), (1, .int (nI af)), (2, .int (nI at_)), (3, .int (nI bf)), (4, .int (nI bt)), (5, .int (nI lev)), (6, .ref (ad (3 + 3 * m)))]) C d_X_joinRanges_180 (by decide) rfl ?_
              refine ze_lload C d_X_joinRanges_182 0 rfl ?_
              refine ze_aload_n C d_X_joinRanges_184 6 rfl rfl ?_
              refine ze_iload C d_X_joinRanges_185 5 rfl ?_
              refine ze_iload C d_X_joinRanges_187 2 rfl ?_
              refine ze_iload C d_X_joinRanges_189 4 rfl ?_
              refine ze_iload C d_X_joinRanges_191 1 rfl ?_
              refine ze_iload C d_X_joinRanges_193 11 rfl ?_
              refine ze_iconst (v := nI 1) C d_X_joinRanges_195 (by decide) ?_
              refine ze_iaddN C d_X_joinRanges_196 ?_
              refine ze_aload C d_X_joinRanges_197 12 rfl ?_
              rw [ze_sfx, ze_Hl_app] at g6 g7
              rw [ze_sfx, List.length_append] at lA lB
              refine ze_callV (st := [.long (lN (cst + (ze_sz (aE - aS) + (ze_sz (bE - bS)))))]) C (ihk (ze_l G) (ze_D G) (ze_i G) ad ms M T3 hd mv hM (lev + 1) (by omega) aS aE bS bE (by omega) (by omega) (by omega) (by omega) (ze_pt M lev p (fun r => r.2) A) (ze_pt M lev p (fun r => r.1) B) (L ++ (List.range p).flatMap (fun q => (ze_jn M k (ze_pt M lev q (fun r => r.2) A) (ze_pt M lev q (fun r => r.1) B)).1)) g6.1 (by omega) g7.1 (by omega) m hm8 g5) (kv_X_113 (ze_rml (by omega) (by decide))) (by decide) ze_E_x rfl (Nat.le_of_ble_eq_true rfl) ⟨Nat.le_of_ble_eq_true rfl, Nat.le_of_ble_eq_true rfl⟩ d_X_joinRanges_199 ?_
              rintro _ _ _ _ ⟨rfl, rfl, _, rfl, rfl, T4, rfl, oT4, hu4, o9, o10⟩
              refine ze_norm (c2 := 0) (s2 := 0) (st' := [.long (lN ((ze_jn M k (ze_pt M lev p (fun r => r.2) A) (ze_pt M lev p (fun r => r.1) B)).2)), .long (lN (cst + (ze_sz (aE - aS) + (ze_sz (bE - bS)))))]) rfl rfl rfl ?_
              refine ze_laddN C d_X_joinRanges_202 ?_
              refine ze_lstore (lv' := [(7, .long (lN (cst + (ze_sz (aE - aS) + (ze_sz (bE - bS))) + ((ze_jn M k (ze_pt M lev p (fun r => r.2) A) (ze_pt M lev p (fun r => r.1) B)).2)))), (13, .int (nI bE)), (12, .int (nI aE)), (11, .int (nI p)), (10, .int (nI bS)), (9, .int (nI aS)), (0, .ref (ad 0)), (1, .int (nI af)), (2, .int (nI at_)), (3, .int (nI bf)), (4, .int (nI bt)), (5, .int (nI lev)), (6, .ref (ad (3 + 3 * m)))]) C d_X_joinRanges_203 (by decide) rfl ?_
              refine ze_iload C d_X_joinRanges_205 2 rfl ?_
              refine ze_istore (lv' := [(9, .int (nI aE)), (7, .long (lN (cst + (ze_sz (aE - aS) + (ze_sz (bE - bS))) + ((ze_jn M k (ze_pt M lev p (fun r => r.2) A) (ze_pt M lev p (fun r => r.1) B)).2)))), (13, .int (nI bE)), (12, .int (nI aE)), (11, .int (nI p)), (10, .int (nI bS)), (0, .ref (ad 0)), (1, .int (nI af)), (2, .int (nI at_)), (3, .int (nI bf)), (4, .int (nI bt)), (5, .int (nI lev)), (6, .ref (ad (3 + 3 * m)))]) C d_X_joinRanges_207 (by decide) rfl ?_
              refine ze_iload C d_X_joinRanges_209 2 rfl ?_
              refine ze_istore (lv' := [(10, .int (nI bE)), (9, .int (nI aE)), (7, .long (lN (cst + (ze_sz (aE - aS) + (ze_sz (bE - bS))) + ((ze_jn M k (ze_pt M lev p (fun r => r.2) A) (ze_pt M lev p (fun r => r.1) B)).2)))), (13, .int (nI bE)), (12, .int (nI aE)), (11, .int (nI p)), (0, .ref (ad 0)), (1, .int (nI af)), (2, .int (nI at_)), (3, .int (nI bf)), (4, .int (nI bt)), (5, .int (nI lev)), (6, .ref (ad (3 + 3 * m)))]) C d_X_joinRanges_211 (by decide) rfl ?_
              refine ze_iinc (j := 5) (v := nI (p + 1)) (lv' := [(11, .int (nI (p + 1))), (10, .int (nI bE)), (9, .int (nI aE)), (7, .long (lN (cst + (ze_sz (aE - aS) + (ze_sz (bE - bS))) + ((ze_jn M k (ze_pt M lev p (fun r => r.2) A) (ze_pt M lev p (fun r => r.1) B)).2)))), (13, .int (nI bE)), (12, .int (nI aE)), (0, .ref (ad 0)), (1, .int (nI af)), (2, .int (nI at_)), (3, .int (nI bf)), (4, .int (nI bt)), (5, .int (nI lev)), (6, .ref (ad (3 + 3 * m)))]) C d_X_joinRanges_213 rfl (nI_1 _) (by decide) rfl ?_
              refine ze_goto 107 C d_X_joinRanges_216 (by decide) ?_
              refine ze_sub [(11, .int (nI (p + 1))), (10, .int (nI bE)), (9, .int (nI aE)), (7, .long (lN (cst + (ze_sz (aE - aS) + (ze_sz (bE - bS))) + ((ze_jn M k (ze_pt M lev p (fun r => r.2) A) (ze_pt M lev p (fun r => r.1) B)).2)))), (0, .ref (ad 0)), (1, .int (nI af)), (2, .int (nI at_)), (3, .int (nI bf)), (4, .int (nI bt)), (5, .int (nI lev)), (6, .ref (ad (3 + 3 * m)))] [0, 1, 2, 3, 6, 7, 8, 9, 10, 11, 12] rfl ?_
              refine ih (M - 1 - (p + 1)) (by omega) (p + 1) aE bE _ T4 rfl (by omega) (by rw [ze_prt_succ, List.length_append]; omega) (by rw [ze_prt_succ, List.length_append]; omega) (by omega) (by omega) (fun z z1 z2 z3 z4 => (oT4 z z1 z2 z3 z4).trans (g4 z z1 z2 z3 z4)) ?_ ?_ ?_ ?_ ?_ ?_
              · rw [List.range_succ, List.flatMap_append, ← List.append_assoc]
                simp only [List.flatMap_cons, List.flatMap_nil, List.append_nil]
                exact hu4
              · rw [haE]
                exact ze_Hl_eq g6.2 (fun q q1 q2 => o9 q (Or.inr (by omega)))
              · rw [hbE]
                exact ze_Hl_eq g7.2 (fun q q1 q2 => o10 q (Or.inr (by omega)))
              · rw [List.range_succ, List.map_append, List.sum_append, g8]
                simp only [List.map_cons, List.map_nil, List.sum_cons, List.sum_nil]
                rw [show aE - aS = (ze_pt M lev p (fun r => r.2) A).length by omega, show bE - bS = (ze_pt M lev p (fun r => r.1) B).length by omega]
                omega
              · exact fun q hq => ⟨((o9 q (by omega)).1).trans (g9 q hq).1, ((o9 q (by omega)).2).trans (g9 q hq).2⟩
              · exact fun q hq => ⟨((o10 q (by omega)).1).trans (g10 q hq).1, ((o10 q (by omega)).2).trans (g10 q hq).2⟩
        refine ze_sub [(11, .int (nI 0)), (10, .int (nI bf)), (9, .int (nI af)), (7, .long (lN (ze_sz (at_ - af) + (ze_sz (bt - bf))))), (0, .ref (ad 0)), (1, .int (nI af)), (2, .int (nI at_)), (3, .int (nI bf)), (4, .int (nI bt)), (5, .int (nI lev)), (6, .ref (ad (3 + 3 * m)))] [0, 1, 2, 3, 4, 5, 6, 7, 8, 9, 10] rfl ?_
        refine loop _ 0 af bf _ T2 rfl (Nat.zero_le _) (by simp [ze_prt]) (by simp [ze_prt]) ha hb (fun z z1 z2 z3 z4 => (oT2 z z3 z4).trans (oT1 z z2 z4)) (by rw [oT2 m (by omega) (by omega), oT1 m (by omega) (by omega)]; simpa using hm) ?_ ?_ (by rw [hAl, hBl]; simp) ?_ ?_
        · rw [oT2 9 (by decide) (by decide), show ze_sfx M lev (fun r => r.2) A (M - 1 - 0) 0 = ze_prt M lev (fun r => r.2) A (M - 1) from by rw [← ze_sfx_prt_0]]
          exact hp1
        · rw [show ze_sfx M lev (fun r => r.1) B (M - 1 - 0) 0 = ze_prt M lev (fun r => r.1) B (M - 1) from by rw [← ze_sfx_prt_0]]
          exact hp2
        · rw [oT2 9 (by decide) (by decide)]
          exact ho1
        · intro q hq
          have := ho2 q hq
          rw [oT1 10 (by decide) (by decide)] at this
          exact this
      · refine ze_aload_n C d_X_joinRanges_30 0 rfl rfl ?_
        refine ze_iload_n C d_X_joinRanges_31 1 rfl rfl ?_
        refine ze_iload_n C d_X_joinRanges_32 2 rfl rfl ?_
        refine ze_iload_n C d_X_joinRanges_33 3 rfl rfl ?_
        refine ze_iload C d_X_joinRanges_34 4 rfl ?_
        refine ze_aload C d_X_joinRanges_36 6 rfl ?_
        have hlf : k + 1 = 0 ∨ B.length ≤ ze_rm4 M := Or.inr (by omega)
        refine ze_callV (st := []) C (c_X_joinByChunks (ze_l G) (ze_D G) (ze_i G) ad ms M T hd mv hM af at_ bf bt ha ha6 hb hb6 A B L hA hAl hB hBl m hm8 hm) (kv_X_146 (ze_rml (by omega) (by decide))) (by decide) ze_E_x rfl (Nat.le_of_ble_eq_true rfl) ⟨Nat.le_of_ble_eq_true rfl, Nat.le_of_ble_eq_true rfl⟩ d_X_joinRanges_38 ?_
        rintro _ _ _ _ ⟨rfl, rfl, _, rfl, rfl, T1, rfl, oT1, hu1⟩
        refine ze_norm (c2 := 0) (s2 := 0) (st' := [.long (lN (ze_sz B.length + (B.length + ze_rm4 M - 1) / ze_rm4 M * ze_sz A.length))]) rfl rfl rfl ?_
        exact ze_lret C Rt d_X_joinRanges_41 (⟨rfl, rfl, _, rfl, by rw [ze_jn_leaf hne hlf], T1, rfl, fun z z1 _ _ _ => oT1 z z1, by rw [ze_jn_leaf hne hlf]; exact hu1, fun q _ => by rw [oT1 9 (by omega)]; exact ⟨rfl, rfl⟩, fun q _ => by rw [oT1 10 (by omega)]; exact ⟨rfl, rfl⟩⟩)
    · refine ze_lconst (v := lN 0) C d_X_joinRanges_11 (by decide) ?_
      exact ze_lret C Rt d_X_joinRanges_12 (⟨rfl, rfl, _, rfl, by rw [ze_jn_nil (Or.inr (List.eq_nil_of_length_eq_zero (by omega)))], T, rfl, fun _ _ _ _ _ => rfl, by rw [ze_jn_nil (Or.inr (List.eq_nil_of_length_eq_zero (by omega))), List.append_nil]; exact hm, fun _ _ => ⟨rfl, rfl⟩, fun _ _ => ⟨rfl, rfl⟩⟩)

theorem c_X_joinRanges_3 : ze_JR 3 := c_X_joinRanges_s 2 (by decide) (c_X_joinRanges_s 1 (by decide) (c_X_joinRanges_s 0 (by decide) c_X_joinRanges_0))
