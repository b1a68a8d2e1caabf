theorem ze_lcs (x : Int64) : lg_cmp x x = 0 := by
  unfold lg_cmp
  simp

set_option maxRecDepth 100000 in
set_option maxHeartbeats 4000000 in
theorem ze_law_loop {G : ze_G} {c0 : Cond} (C : ze_C G b_L_law (c0 :: ze_B) R_L room_1 4) {p : Nat} {cl : Cell} {f : Nat → Int32} (F : ze_fz G p cl) (hf : ze_nums cl f) (hsz : cl.slots.size < 100000) (d : Nat → Nat) (hend : ∀ (e : Nat → va_E) (lv : List (Nat × Value)), ze_V G 48 d e 48 2737 571 lv []) : ∀ (r i : Nat) (x : ze_XS) (ms : ze_MS) (σ : ze_Sg), cl.slots.size + 10 - i = r → 1 ≤ i → i ≤ cl.slots.size + 5 → ze_rX x σ → ze_rM ms σ → ze_V G 48 d (ze_E (ze_i G) d x ms) 48 2737 28 [(3, .int (nI i)), (2, .ref (d 39)), (1, .ref (d 0)), (0, .ref p)] [] := by
  intro r
  induction r using Nat.strongRecOn with
  | ind r ih =>
    intro i x ms σ hr hi1 hi hX hMs
    refine ze_iload_n C d_L_law_28 0 rfl rfl ?_
    refine ze_aload_n C d_L_law_29 3 rfl rfl ?_
    refine ze_fln C F d_L_law_30 ?_
    refine ze_iconst (v := nI 5) C d_L_law_31 (by decide) ?_
    by_cases h5 : ¬ 5 ≤ cl.slots.size
    · refine ze_isub C d_L_law_32 ?_
      refine ze_icmp_gt 571 C d_L_law_33 (by decide) (fun _ => hend _ _) (fun z => absurd (Int32.lt_of_lt_of_le (pk_sneg (by omega) (by omega)) (nI_pos' (by omega))) z)
    have h5 : 5 ≤ cl.slots.size := Nat.le_of_not_lt (fun z => h5 (by omega))
    refine ze_isubN C d_L_law_32 h5 ?_
    refine ze_icmp_gtN 571 C d_L_law_33 (by decide) (by omega) (by omega) (fun _ => hend _ _) (fun h33 => ?_)
    have next : ∀ (x' : ze_XS) (ms' : ze_MS) (σ' : ze_Sg), ze_rX x' σ' → ze_rM ms' σ' → ze_V G 48 d (ze_E (ze_i G) d x' ms') 48 2737 565 [(3, .int (nI i)), (2, .ref (d 39)), (1, .ref (d 0)), (0, .ref p)] [] := by
      intro x' ms' σ' a b
      refine ze_iinc (j := 0) (v := nI (i + 5)) (lv' := [(3, .int (nI (i + 5))), (2, .ref (d 39)), (1, .ref (d 0)), (0, .ref p)]) C d_L_law_565 rfl (nI_add i 5) (by decide) rfl ?_
      refine ze_goto 28 C d_L_law_568 (by decide) ?_
      exact ih (cl.slots.size + 10 - (i + 5)) (by omega) (i + 5) x' ms' σ' rfl (by omega) (by omega) a b
    refine ze_aload_n C d_L_law_36 3 rfl rfl ?_
    refine ze_iload_n C d_L_law_37 0 rfl rfl ?_
    refine ze_fld C F (by omega) hf.2.1 (hf.2.2 i (by omega)) d_L_law_38 ?_
    refine ze_bipush (v := 15) C d_L_law_39 (by decide) ?_
    refine ze_iand C d_L_law_41 ?_
    obtain ⟨j, hj, ej⟩ := pk_andE (f i) (m := 15) 4 (by decide)
    rw [ej]
    have hjt : (nI j).toInt = (j : Int) := nI_toInt (by omega)
    obtain ⟨inp, sl, mv, M⟩ := σ
    obtain ⟨M', T, hd, mv'⟩ := x
    have e1 : M = M' := hX.1.symm
    have e2 : mv = mv' := hX.2.2.2.1.symm
    subst e1 e2
    obtain ⟨ma, co, le, Ar, rfl, hA, hM3, hM6⟩ := hMs
    by_cases h14 : 14 ≤ j
    · exact ze_tableOut 565 C d_L_law_42 (Or.inr (by rw [hjt]; omega)) (by decide) (next _ _ _ hX ⟨ma, co, le, Ar, rfl, hA, hM3, hM6⟩)
    have hcs : j = 0 ∨ j = 1 ∨ j = 2 ∨ j = 3 ∨ j = 4 ∨ j = 5 ∨ j = 6 ∨ j = 7 ∨ j = 8 ∨ j = 9 ∨ j = 10 ∨ j = 11 ∨ j = 12 ∨ j = 13 := by omega
    rcases hcs with rfl | rfl | rfl | rfl | rfl | rfl | rfl | rfl | rfl | rfl | rfl | rfl | rfl | rfl
    · refine ze_tableIn 112 C d_L_law_42 (by decide) (by decide) rfl (by decide) ?_
      have g : ∀ (x' : ze_XS) (ms' : ze_MS), ze_rX x' (sp_put (inp, sl, mv, M) (f (i + 1)) (f (i + 2))).2 → ze_rM ms' (sp_put (inp, sl, mv, M) (f (i + 1)) (f (i + 2))).2 → ze_V G 48 d (ze_E (ze_i G) d x' ms') 48 2737 565 [(3, .int (nI i)), (2, .ref (d 39)), (1, .ref (d 0)), (0, .ref p)] [] := fun x' ms' => next x' ms' (sp_put (inp, sl, mv, M) (f (i + 1)) (f (i + 2))).2
      refine ze_aload_n C d_L_law_112 2 rfl rfl ?_
      refine ze_aload_n C d_L_law_113 3 rfl rfl ?_
      refine ze_iload_n C d_L_law_114 0 rfl rfl ?_
      refine ze_iconst (v := nI 1) C d_L_law_115 (by decide) ?_
      refine ze_iaddN C d_L_law_116 ?_
      refine ze_fld C F (by omega) hf.2.1 (hf.2.2 (i + 1) (by omega)) d_L_law_117 ?_
      refine ze_aload_n C d_L_law_118 3 rfl rfl ?_
      refine ze_iload_n C d_L_law_119 0 rfl rfl ?_
      refine ze_iconst (v := nI 2) C d_L_law_120 (by decide) ?_
      refine ze_iaddN C d_L_law_121 ?_
      refine ze_fld C F (by omega) hf.2.1 (hf.2.2 (i + 2) (by omega)) d_L_law_122 ?_
      refine ze_callV (k := 0) (st := []) C (c_X_put (ze_l G) (ze_D G) (ze_i G) d (M, mv, inp.length, ma, co, le, Ar) M T hd mv inp sl hX (f (i + 1)) (f (i + 2))) (kv_L_21 ⟨by decide, by decide⟩) (by decide) ze_E_x rfl (Nat.le_of_ble_eq_true rfl) ⟨Nat.le_of_ble_eq_true rfl, Nat.le_of_ble_eq_true rfl⟩ d_L_law_123 ?_
      rintro _ _ _ _ ⟨rfl, rfl, x', rfl, rfl, hX'⟩
      refine ze_norm (c2 := 48) (s2 := 2737) (st' := [.int (sp_put (inp, sl, mv, M) (f (i + 1)) (f (i + 2))).1]) rfl rfl rfl ?_
      refine ze_aload_n C d_L_law_126 1 rfl rfl ?_
      refine ze_aload_n C d_L_law_127 3 rfl rfl ?_
      refine ze_iload_n C d_L_law_128 0 rfl rfl ?_
      refine ze_iconst (v := nI 1) C d_L_law_129 (by decide) ?_
      refine ze_iaddN C d_L_law_130 ?_
      refine ze_fld C F (by omega) hf.2.1 (hf.2.2 (i + 1) (by omega)) d_L_law_131 ?_
      refine ze_aload_n C d_L_law_132 3 rfl rfl ?_
      refine ze_iload_n C d_L_law_133 0 rfl rfl ?_
      refine ze_iconst (v := nI 2) C d_L_law_134 (by decide) ?_
      refine ze_iaddN C d_L_law_135 ?_
      refine ze_fld C F (by omega) hf.2.1 (hf.2.2 (i + 2) (by omega)) d_L_law_136 ?_
      refine ze_callV (k := 39) (st := [.int (sp_put (inp, sl, mv, M) (f (i + 1)) (f (i + 2))).1]) C (c_M_put (ze_l G) (ze_D G) (ze_i G) d x' M mv ma co le Ar inp sl hA ⟨hM3, hM6⟩ (f (i + 1)) (f (i + 2))) (kv_L_25 ⟨by decide, by decide⟩) (by decide) ze_E_m rfl (Nat.le_of_ble_eq_true rfl) ⟨Nat.le_of_ble_eq_true rfl, Nat.le_of_ble_eq_true rfl⟩ d_L_law_137 ?_
      rintro _ _ _ _ ⟨rfl, rfl, ms', rfl, rfl, hM'⟩
      refine ze_norm (c2 := 48) (s2 := 2737) (st' := [.int (sp_put (inp, sl, mv, M) (f (i + 1)) (f (i + 2))).1, .int (sp_put (inp, sl, mv, M) (f (i + 1)) (f (i + 2))).1]) rfl rfl rfl ?_
      exact ze_icmp_eq 565 C d_L_law_140 (by decide) (fun _ => g x' ms' hX' hM') (fun z => absurd rfl z)
    · refine ze_tableIn 145 C d_L_law_42 (by decide) (by decide) rfl (by decide) ?_
      have g : ∀ (x' : ze_XS) (ms' : ze_MS), ze_rX x' (sp_store (inp, sl, mv, M) (f (i + 1))).2 → ze_rM ms' (sp_store (inp, sl, mv, M) (f (i + 1))).2 → ze_V G 48 d (ze_E (ze_i G) d x' ms') 48 2737 565 [(3, .int (nI i)), (2, .ref (d 39)), (1, .ref (d 0)), (0, .ref p)] [] := fun x' ms' => next x' ms' (sp_store (inp, sl, mv, M) (f (i + 1))).2
      refine ze_aload_n C d_L_law_145 2 rfl rfl ?_
      refine ze_aload_n C d_L_law_146 3 rfl rfl ?_
      refine ze_iload_n C d_L_law_147 0 rfl rfl ?_
      refine ze_iconst (v := nI 1) C d_L_law_148 (by decide) ?_
      refine ze_iaddN C d_L_law_149 ?_
      refine ze_fld C F (by omega) hf.2.1 (hf.2.2 (i + 1) (by omega)) d_L_law_150 ?_
      refine ze_callV (k := 0) (st := []) C (c_X_store (ze_l G) (ze_D G) (ze_i G) d (M, mv, inp.length, ma, co, le, Ar) M T hd mv inp sl hX (f (i + 1))) (kv_L_26 ⟨by decide, by decide⟩) (by decide) ze_E_x rfl (Nat.le_of_ble_eq_true rfl) ⟨Nat.le_of_ble_eq_true rfl, Nat.le_of_ble_eq_true rfl⟩ d_L_law_151 ?_
      rintro _ _ _ _ ⟨rfl, rfl, x', rfl, rfl, hX'⟩
      refine ze_norm (c2 := 48) (s2 := 2737) (st' := [.int (sp_store (inp, sl, mv, M) (f (i + 1))).1]) rfl rfl rfl ?_
      refine ze_aload_n C d_L_law_154 1 rfl rfl ?_
      refine ze_aload_n C d_L_law_155 3 rfl rfl ?_
      refine ze_iload_n C d_L_law_156 0 rfl rfl ?_
      refine ze_iconst (v := nI 1) C d_L_law_157 (by decide) ?_
      refine ze_iaddN C d_L_law_158 ?_
      refine ze_fld C F (by omega) hf.2.1 (hf.2.2 (i + 1) (by omega)) d_L_law_159 ?_
      refine ze_callV (k := 39) (st := [.int (sp_store (inp, sl, mv, M) (f (i + 1))).1]) C (c_M_store (ze_l G) (ze_D G) (ze_i G) d x' M mv ma co le Ar inp sl hA ⟨hM3, hM6⟩ (f (i + 1))) (kv_L_30 ⟨by decide, by decide⟩) (by decide) ze_E_m rfl (Nat.le_of_ble_eq_true rfl) ⟨Nat.le_of_ble_eq_true rfl, Nat.le_of_ble_eq_true rfl⟩ d_L_law_160 ?_
      rintro _ _ _ _ ⟨rfl, rfl, ms', rfl, rfl, hM'⟩
      refine ze_norm (c2 := 48) (s2 := 2737) (st' := [.int (sp_store (inp, sl, mv, M) (f (i + 1))).1, .int (sp_store (inp, sl, mv, M) (f (i + 1))).1]) rfl rfl rfl ?_
      exact ze_icmp_eq 565 C d_L_law_163 (by decide) (fun _ => g x' ms' hX' hM') (fun z => absurd rfl z)
    · refine ze_tableIn 168 C d_L_law_42 (by decide) (by decide) rfl (by decide) ?_
      have g : ∀ (x' : ze_XS) (ms' : ze_MS), ze_rX x' (sp_drop (inp, sl, mv, M) (f (i + 1))).2 → ze_rM ms' (sp_drop (inp, sl, mv, M) (f (i + 1))).2 → ze_V G 48 d (ze_E (ze_i G) d x' ms') 48 2737 565 [(3, .int (nI i)), (2, .ref (d 39)), (1, .ref (d 0)), (0, .ref p)] [] := fun x' ms' => next x' ms' (sp_drop (inp, sl, mv, M) (f (i + 1))).2
      refine ze_aload_n C d_L_law_168 2 rfl rfl ?_
      refine ze_aload_n C d_L_law_169 3 rfl rfl ?_
      refine ze_iload_n C d_L_law_170 0 rfl rfl ?_
      refine ze_iconst (v := nI 1) C d_L_law_171 (by decide) ?_
      refine ze_iaddN C d_L_law_172 ?_
      refine ze_fld C F (by omega) hf.2.1 (hf.2.2 (i + 1) (by omega)) d_L_law_173 ?_
      refine ze_callV (k := 0) (st := []) C (c_X_drop (ze_l G) (ze_D G) (ze_i G) d (M, mv, inp.length, ma, co, le, Ar) M T hd mv inp sl hX (f (i + 1))) (kv_L_31 ⟨by decide, by decide⟩) (by decide) ze_E_x rfl (Nat.le_of_ble_eq_true rfl) ⟨Nat.le_of_ble_eq_true rfl, Nat.le_of_ble_eq_true rfl⟩ d_L_law_174 ?_
      rintro _ _ _ _ ⟨rfl, rfl, x', rfl, rfl, hX'⟩
      refine ze_norm (c2 := 48) (s2 := 2737) (st' := [.int (sp_drop (inp, sl, mv, M) (f (i + 1))).1]) rfl rfl rfl ?_
      refine ze_aload_n C d_L_law_177 1 rfl rfl ?_
      refine ze_aload_n C d_L_law_178 3 rfl rfl ?_
      refine ze_iload_n C d_L_law_179 0 rfl rfl ?_
      refine ze_iconst (v := nI 1) C d_L_law_180 (by decide) ?_
      refine ze_iaddN C d_L_law_181 ?_
      refine ze_fld C F (by omega) hf.2.1 (hf.2.2 (i + 1) (by omega)) d_L_law_182 ?_
      refine ze_callV (k := 39) (st := [.int (sp_drop (inp, sl, mv, M) (f (i + 1))).1]) C (c_M_drop (ze_l G) (ze_D G) (ze_i G) d x' M mv ma co le Ar inp sl hA ⟨hM3, hM6⟩ (f (i + 1))) (kv_L_34 ⟨by decide, by decide⟩) (by decide) ze_E_m rfl (Nat.le_of_ble_eq_true rfl) ⟨Nat.le_of_ble_eq_true rfl, Nat.le_of_ble_eq_true rfl⟩ d_L_law_183 ?_
      rintro _ _ _ _ ⟨rfl, rfl, ms', rfl, rfl, hM'⟩
      refine ze_norm (c2 := 48) (s2 := 2737) (st' := [.int (sp_drop (inp, sl, mv, M) (f (i + 1))).1, .int (sp_drop (inp, sl, mv, M) (f (i + 1))).1]) rfl rfl rfl ?_
      exact ze_icmp_eq 565 C d_L_law_186 (by decide) (fun _ => g x' ms' hX' hM') (fun z => absurd rfl z)
    · refine ze_tableIn 191 C d_L_law_42 (by decide) (by decide) rfl (by decide) ?_
      have g : ∀ (x' : ze_XS) (ms' : ze_MS), ze_rX x' (inp, sl, mv, M) → ze_rM ms' (inp, sl, mv, M) → ze_V G 48 d (ze_E (ze_i G) d x' ms') 48 2737 565 [(3, .int (nI i)), (2, .ref (d 39)), (1, .ref (d 0)), (0, .ref p)] [] := fun x' ms' => next x' ms' (inp, sl, mv, M)
      refine ze_aload_n C d_L_law_191 2 rfl rfl ?_
      refine ze_aload_n C d_L_law_192 3 rfl rfl ?_
      refine ze_iload_n C d_L_law_193 0 rfl rfl ?_
      refine ze_iconst (v := nI 1) C d_L_law_194 (by decide) ?_
      refine ze_iaddN C d_L_law_195 ?_
      refine ze_fld C F (by omega) hf.2.1 (hf.2.2 (i + 1) (by omega)) d_L_law_196 ?_
      refine ze_callV (k := 0) (st := []) C (c_X_rows (ze_l G) (ze_D G) (ze_i G) d (M, mv, inp.length, ma, co, le, Ar) M T hd mv inp sl hX (f (i + 1))) (kv_L_35 ⟨by decide, by decide⟩) (by decide) ze_E_x rfl (Nat.le_of_ble_eq_true rfl) ⟨Nat.le_of_ble_eq_true rfl, Nat.le_of_ble_eq_true rfl⟩ d_L_law_197 ?_
      rintro _ _ _ _ ⟨rfl, rfl, x', rfl, rfl, hX'⟩
      refine ze_norm (c2 := 48) (s2 := 2737) (st' := [.int (sp_rows (inp, sl, mv, M) (f (i + 1)))]) rfl rfl rfl ?_
      refine ze_aload_n C d_L_law_200 1 rfl rfl ?_
      refine ze_aload_n C d_L_law_201 3 rfl rfl ?_
      refine ze_iload_n C d_L_law_202 0 rfl rfl ?_
      refine ze_iconst (v := nI 1) C d_L_law_203 (by decide) ?_
      refine ze_iaddN C d_L_law_204 ?_
      refine ze_fld C F (by omega) hf.2.1 (hf.2.2 (i + 1) (by omega)) d_L_law_205 ?_
      refine ze_callV (k := 39) (st := [.int (sp_rows (inp, sl, mv, M) (f (i + 1)))]) C (c_M_rows (ze_l G) (ze_D G) (ze_i G) d x' M mv ma co le Ar inp sl hA ⟨hM3, hM6⟩ (f (i + 1))) (kv_L_38 ⟨by decide, by decide⟩) (by decide) ze_E_m rfl (Nat.le_of_ble_eq_true rfl) ⟨Nat.le_of_ble_eq_true rfl, Nat.le_of_ble_eq_true rfl⟩ d_L_law_206 ?_
      rintro _ _ _ _ ⟨rfl, rfl, ms', rfl, rfl, hM'⟩
      refine ze_norm (c2 := 48) (s2 := 2737) (st' := [.int (sp_rows (inp, sl, mv, M) (f (i + 1))), .int (sp_rows (inp, sl, mv, M) (f (i + 1)))]) rfl rfl rfl ?_
      exact ze_icmp_eq 565 C d_L_law_209 (by decide) (fun _ => g x' ms' hX' hM') (fun z => absurd rfl z)
    · refine ze_tableIn 214 C d_L_law_42 (by decide) (by decide) rfl (by decide) ?_
      have g : ∀ (x' : ze_XS) (ms' : ze_MS), ze_rX x' (inp, sl, mv, M) → ze_rM ms' (inp, sl, mv, M) → ze_V G 48 d (ze_E (ze_i G) d x' ms') 48 2737 565 [(3, .int (nI i)), (2, .ref (d 39)), (1, .ref (d 0)), (0, .ref p)] [] := fun x' ms' => next x' ms' (inp, sl, mv, M)
      refine ze_aload_n C d_L_law_214 2 rfl rfl ?_
      refine ze_aload_n C d_L_law_215 3 rfl rfl ?_
      refine ze_iload_n C d_L_law_216 0 rfl rfl ?_
      refine ze_iconst (v := nI 1) C d_L_law_217 (by decide) ?_
      refine ze_iaddN C d_L_law_218 ?_
      refine ze_fld C F (by omega) hf.2.1 (hf.2.2 (i + 1) (by omega)) d_L_law_219 ?_
      refine ze_aload_n C d_L_law_220 3 rfl rfl ?_
      refine ze_iload_n C d_L_law_221 0 rfl rfl ?_
      refine ze_iconst (v := nI 2) C d_L_law_222 (by decide) ?_
      refine ze_iaddN C d_L_law_223 ?_
      refine ze_fld C F (by omega) hf.2.1 (hf.2.2 (i + 2) (by omega)) d_L_law_224 ?_
      refine ze_callV (k := 0) (st := []) C (c_X_key (ze_l G) (ze_D G) (ze_i G) d (M, mv, inp.length, ma, co, le, Ar) M T hd mv inp sl hX (f (i + 1)) (f (i + 2))) (kv_L_39 ⟨by decide, by decide⟩) (by decide) ze_E_x rfl (Nat.le_of_ble_eq_true rfl) ⟨Nat.le_of_ble_eq_true rfl, Nat.le_of_ble_eq_true rfl⟩ d_L_law_225 ?_
      rintro _ _ _ _ ⟨rfl, rfl, x', rfl, rfl, hX'⟩
      refine ze_norm (c2 := 48) (s2 := 2737) (st' := [.int (sp_at (fun r => r.1) (inp, sl, mv, M) (f (i + 1)) (f (i + 2)))]) rfl rfl rfl ?_
      refine ze_aload_n C d_L_law_228 1 rfl rfl ?_
      refine ze_aload_n C d_L_law_229 3 rfl rfl ?_
      refine ze_iload_n C d_L_law_230 0 rfl rfl ?_
      refine ze_iconst (v := nI 1) C d_L_law_231 (by decide) ?_
      refine ze_iaddN C d_L_law_232 ?_
      refine ze_fld C F (by omega) hf.2.1 (hf.2.2 (i + 1) (by omega)) d_L_law_233 ?_
      refine ze_aload_n C d_L_law_234 3 rfl rfl ?_
      refine ze_iload_n C d_L_law_235 0 rfl rfl ?_
      refine ze_iconst (v := nI 2) C d_L_law_236 (by decide) ?_
      refine ze_iaddN C d_L_law_237 ?_
      refine ze_fld C F (by omega) hf.2.1 (hf.2.2 (i + 2) (by omega)) d_L_law_238 ?_
      refine ze_callV (k := 39) (st := [.int (sp_at (fun r => r.1) (inp, sl, mv, M) (f (i + 1)) (f (i + 2)))]) C (c_M_key (ze_l G) (ze_D G) (ze_i G) d x' M mv ma co le Ar inp sl hA ⟨hM3, hM6⟩ (f (i + 1)) (f (i + 2))) (kv_L_43 ⟨by decide, by decide⟩) (by decide) ze_E_m rfl (Nat.le_of_ble_eq_true rfl) ⟨Nat.le_of_ble_eq_true rfl, Nat.le_of_ble_eq_true rfl⟩ d_L_law_239 ?_
      rintro _ _ _ _ ⟨rfl, rfl, ms', rfl, rfl, hM'⟩
      refine ze_norm (c2 := 48) (s2 := 2737) (st' := [.int (sp_at (fun r => r.1) (inp, sl, mv, M) (f (i + 1)) (f (i + 2))), .int (sp_at (fun r => r.1) (inp, sl, mv, M) (f (i + 1)) (f (i + 2)))]) rfl rfl rfl ?_
      exact ze_icmp_eq 565 C d_L_law_242 (by decide) (fun _ => g x' ms' hX' hM') (fun z => absurd rfl z)
    · refine ze_tableIn 247 C d_L_law_42 (by decide) (by decide) rfl (by decide) ?_
      have g : ∀ (x' : ze_XS) (ms' : ze_MS), ze_rX x' (inp, sl, mv, M) → ze_rM ms' (inp, sl, mv, M) → ze_V G 48 d (ze_E (ze_i G) d x' ms') 48 2737 565 [(3, .int (nI i)), (2, .ref (d 39)), (1, .ref (d 0)), (0, .ref p)] [] := fun x' ms' => next x' ms' (inp, sl, mv, M)
      refine ze_aload_n C d_L_law_247 2 rfl rfl ?_
      refine ze_aload_n C d_L_law_248 3 rfl rfl ?_
      refine ze_iload_n C d_L_law_249 0 rfl rfl ?_
      refine ze_iconst (v := nI 1) C d_L_law_250 (by decide) ?_
      refine ze_iaddN C d_L_law_251 ?_
      refine ze_fld C F (by omega) hf.2.1 (hf.2.2 (i + 1) (by omega)) d_L_law_252 ?_
      refine ze_aload_n C d_L_law_253 3 rfl rfl ?_
      refine ze_iload_n C d_L_law_254 0 rfl rfl ?_
      refine ze_iconst (v := nI 2) C d_L_law_255 (by decide) ?_
      refine ze_iaddN C d_L_law_256 ?_
      refine ze_fld C F (by omega) hf.2.1 (hf.2.2 (i + 2) (by omega)) d_L_law_257 ?_
      refine ze_callV (k := 0) (st := []) C (c_X_value (ze_l G) (ze_D G) (ze_i G) d (M, mv, inp.length, ma, co, le, Ar) M T hd mv inp sl hX (f (i + 1)) (f (i + 2))) (kv_L_44 ⟨by decide, by decide⟩) (by decide) ze_E_x rfl (Nat.le_of_ble_eq_true rfl) ⟨Nat.le_of_ble_eq_true rfl, Nat.le_of_ble_eq_true rfl⟩ d_L_law_258 ?_
      rintro _ _ _ _ ⟨rfl, rfl, x', rfl, rfl, hX'⟩
      refine ze_norm (c2 := 48) (s2 := 2737) (st' := [.int (sp_at (fun r => r.2) (inp, sl, mv, M) (f (i + 1)) (f (i + 2)))]) rfl rfl rfl ?_
      refine ze_aload_n C d_L_law_261 1 rfl rfl ?_
      refine ze_aload_n C d_L_law_262 3 rfl rfl ?_
      refine ze_iload_n C d_L_law_263 0 rfl rfl ?_
      refine ze_iconst (v := nI 1) C d_L_law_264 (by decide) ?_
      refine ze_iaddN C d_L_law_265 ?_
      refine ze_fld C F (by omega) hf.2.1 (hf.2.2 (i + 1) (by omega)) d_L_law_266 ?_
      refine ze_aload_n C d_L_law_267 3 rfl rfl ?_
      refine ze_iload_n C d_L_law_268 0 rfl rfl ?_
      refine ze_iconst (v := nI 2) C d_L_law_269 (by decide) ?_
      refine ze_iaddN C d_L_law_270 ?_
      refine ze_fld C F (by omega) hf.2.1 (hf.2.2 (i + 2) (by omega)) d_L_law_271 ?_
      refine ze_callV (k := 39) (st := [.int (sp_at (fun r => r.2) (inp, sl, mv, M) (f (i + 1)) (f (i + 2)))]) C (c_M_value (ze_l G) (ze_D G) (ze_i G) d x' M mv ma co le Ar inp sl hA ⟨hM3, hM6⟩ (f (i + 1)) (f (i + 2))) (kv_L_47 ⟨by decide, by decide⟩) (by decide) ze_E_m rfl (Nat.le_of_ble_eq_true rfl) ⟨Nat.le_of_ble_eq_true rfl, Nat.le_of_ble_eq_true rfl⟩ d_L_law_272 ?_
      rintro _ _ _ _ ⟨rfl, rfl, ms', rfl, rfl, hM'⟩
      refine ze_norm (c2 := 48) (s2 := 2737) (st' := [.int (sp_at (fun r => r.2) (inp, sl, mv, M) (f (i + 1)) (f (i + 2))), .int (sp_at (fun r => r.2) (inp, sl, mv, M) (f (i + 1)) (f (i + 2)))]) rfl rfl rfl ?_
      exact ze_icmp_eq 565 C d_L_law_275 (by decide) (fun _ => g x' ms' hX' hM') (fun z => absurd rfl z)
    · refine ze_tableIn 280 C d_L_law_42 (by decide) (by decide) rfl (by decide) ?_
      have g : ∀ (x' : ze_XS) (ms' : ze_MS), ze_rX x' (sp_sort (inp, sl, mv, M) (f (i + 1)) (f (i + 2)) (f (i + 3))).2 → ze_rM ms' (sp_sort (inp, sl, mv, M) (f (i + 1)) (f (i + 2)) (f (i + 3))).2 → ze_V G 48 d (ze_E (ze_i G) d x' ms') 48 2737 565 [(3, .int (nI i)), (2, .ref (d 39)), (1, .ref (d 0)), (0, .ref p)] [] := fun x' ms' => next x' ms' (sp_sort (inp, sl, mv, M) (f (i + 1)) (f (i + 2)) (f (i + 3))).2
      refine ze_aload_n C d_L_law_280 2 rfl rfl ?_
      refine ze_aload_n C d_L_law_281 3 rfl rfl ?_
      refine ze_iload_n C d_L_law_282 0 rfl rfl ?_
      refine ze_iconst (v := nI 1) C d_L_law_283 (by decide) ?_
      refine ze_iaddN C d_L_law_284 ?_
      refine ze_fld C F (by omega) hf.2.1 (hf.2.2 (i + 1) (by omega)) d_L_law_285 ?_
      refine ze_aload_n C d_L_law_286 3 rfl rfl ?_
      refine ze_iload_n C d_L_law_287 0 rfl rfl ?_
      refine ze_iconst (v := nI 2) C d_L_law_288 (by decide) ?_
      refine ze_iaddN C d_L_law_289 ?_
      refine ze_fld C F (by omega) hf.2.1 (hf.2.2 (i + 2) (by omega)) d_L_law_290 ?_
      refine ze_aload_n C d_L_law_291 3 rfl rfl ?_
      refine ze_iload_n C d_L_law_292 0 rfl rfl ?_
      refine ze_iconst (v := nI 3) C d_L_law_293 (by decide) ?_
      refine ze_iaddN C d_L_law_294 ?_
      refine ze_fld C F (by omega) hf.2.1 (hf.2.2 (i + 3) (by omega)) d_L_law_295 ?_
      refine ze_callV (k := 0) (st := []) C (c_X_sort (ze_l G) (ze_D G) (ze_i G) d (M, mv, inp.length, ma, co, le, Ar) M T hd mv inp sl hX (f (i + 1)) (f (i + 2)) (f (i + 3))) (kv_L_48 ⟨by decide, by decide⟩) (by decide) ze_E_x rfl (Nat.le_of_ble_eq_true rfl) ⟨Nat.le_of_ble_eq_true rfl, Nat.le_of_ble_eq_true rfl⟩ d_L_law_296 ?_
      rintro _ _ _ _ ⟨rfl, rfl, x', rfl, rfl, hX'⟩
      refine ze_norm (c2 := 48) (s2 := 2737) (st' := [.int (sp_sort (inp, sl, mv, M) (f (i + 1)) (f (i + 2)) (f (i + 3))).1]) rfl rfl rfl ?_
      refine ze_aload_n C d_L_law_299 1 rfl rfl ?_
      refine ze_aload_n C d_L_law_300 3 rfl rfl ?_
      refine ze_iload_n C d_L_law_301 0 rfl rfl ?_
      refine ze_iconst (v := nI 1) C d_L_law_302 (by decide) ?_
      refine ze_iaddN C d_L_law_303 ?_
      refine ze_fld C F (by omega) hf.2.1 (hf.2.2 (i + 1) (by omega)) d_L_law_304 ?_
      refine ze_aload_n C d_L_law_305 3 rfl rfl ?_
      refine ze_iload_n C d_L_law_306 0 rfl rfl ?_
      refine ze_iconst (v := nI 2) C d_L_law_307 (by decide) ?_
      refine ze_iaddN C d_L_law_308 ?_
      refine ze_fld C F (by omega) hf.2.1 (hf.2.2 (i + 2) (by omega)) d_L_law_309 ?_
      refine ze_aload_n C d_L_law_310 3 rfl rfl ?_
      refine ze_iload_n C d_L_law_311 0 rfl rfl ?_
      refine ze_iconst (v := nI 3) C d_L_law_312 (by decide) ?_
      refine ze_iaddN C d_L_law_313 ?_
      refine ze_fld C F (by omega) hf.2.1 (hf.2.2 (i + 3) (by omega)) d_L_law_314 ?_
      refine ze_callV (k := 39) (st := [.int (sp_sort (inp, sl, mv, M) (f (i + 1)) (f (i + 2)) (f (i + 3))).1]) C (c_M_sort (ze_l G) (ze_D G) (ze_i G) d x' M mv ma co le Ar inp sl hA ⟨hM3, hM6⟩ (f (i + 1)) (f (i + 2)) (f (i + 3))) (kv_L_52 ⟨by decide, by decide⟩) (by decide) ze_E_m rfl (Nat.le_of_ble_eq_true rfl) ⟨Nat.le_of_ble_eq_true rfl, Nat.le_of_ble_eq_true rfl⟩ d_L_law_315 ?_
      rintro _ _ _ _ ⟨rfl, rfl, ms', rfl, rfl, hM'⟩
      refine ze_norm (c2 := 48) (s2 := 2737) (st' := [.int (sp_sort (inp, sl, mv, M) (f (i + 1)) (f (i + 2)) (f (i + 3))).1, .int (sp_sort (inp, sl, mv, M) (f (i + 1)) (f (i + 2)) (f (i + 3))).1]) rfl rfl rfl ?_
      exact ze_icmp_eq 565 C d_L_law_318 (by decide) (fun _ => g x' ms' hX' hM') (fun z => absurd rfl z)
    · refine ze_tableIn 323 C d_L_law_42 (by decide) (by decide) rfl (by decide) ?_
      have g : ∀ (x' : ze_XS) (ms' : ze_MS), ze_rX x' (sp_select (inp, sl, mv, M) (f (i + 1)) (f (i + 2)) (f (i + 3)) (f (i + 4))).2 → ze_rM ms' (sp_select (inp, sl, mv, M) (f (i + 1)) (f (i + 2)) (f (i + 3)) (f (i + 4))).2 → ze_V G 48 d (ze_E (ze_i G) d x' ms') 48 2737 565 [(3, .int (nI i)), (2, .ref (d 39)), (1, .ref (d 0)), (0, .ref p)] [] := fun x' ms' => next x' ms' (sp_select (inp, sl, mv, M) (f (i + 1)) (f (i + 2)) (f (i + 3)) (f (i + 4))).2
      refine ze_aload_n C d_L_law_323 2 rfl rfl ?_
      refine ze_aload_n C d_L_law_324 3 rfl rfl ?_
      refine ze_iload_n C d_L_law_325 0 rfl rfl ?_
      refine ze_iconst (v := nI 1) C d_L_law_326 (by decide) ?_
      refine ze_iaddN C d_L_law_327 ?_
      refine ze_fld C F (by omega) hf.2.1 (hf.2.2 (i + 1) (by omega)) d_L_law_328 ?_
      refine ze_aload_n C d_L_law_329 3 rfl rfl ?_
      refine ze_iload_n C d_L_law_330 0 rfl rfl ?_
      refine ze_iconst (v := nI 2) C d_L_law_331 (by decide) ?_
      refine ze_iaddN C d_L_law_332 ?_
      refine ze_fld C F (by omega) hf.2.1 (hf.2.2 (i + 2) (by omega)) d_L_law_333 ?_
      refine ze_aload_n C d_L_law_334 3 rfl rfl ?_
      refine ze_iload_n C d_L_law_335 0 rfl rfl ?_
      refine ze_iconst (v := nI 3) C d_L_law_336 (by decide) ?_
      refine ze_iaddN C d_L_law_337 ?_
      refine ze_fld C F (by omega) hf.2.1 (hf.2.2 (i + 3) (by omega)) d_L_law_338 ?_
      refine ze_aload_n C d_L_law_339 3 rfl rfl ?_
      refine ze_iload_n C d_L_law_340 0 rfl rfl ?_
      refine ze_iconst (v := nI 4) C d_L_law_341 (by decide) ?_
      refine ze_iaddN C d_L_law_342 ?_
      refine ze_fld C F (by omega) hf.2.1 (hf.2.2 (i + 4) (by omega)) d_L_law_343 ?_
      refine ze_callV (k := 0) (st := []) C (c_X_select (ze_l G) (ze_D G) (ze_i G) d (M, mv, inp.length, ma, co, le, Ar) M T hd mv inp sl hX (f (i + 1)) (f (i + 2)) (f (i + 3)) (f (i + 4))) (kv_L_53 ⟨by decide, by decide⟩) (by decide) ze_E_x rfl (Nat.le_of_ble_eq_true rfl) ⟨Nat.le_of_ble_eq_true rfl, Nat.le_of_ble_eq_true rfl⟩ d_L_law_344 ?_
      rintro _ _ _ _ ⟨rfl, rfl, x', rfl, rfl, hX'⟩
      refine ze_norm (c2 := 48) (s2 := 2737) (st' := [.int (sp_select (inp, sl, mv, M) (f (i + 1)) (f (i + 2)) (f (i + 3)) (f (i + 4))).1]) rfl rfl rfl ?_
      refine ze_aload_n C d_L_law_347 1 rfl rfl ?_
      refine ze_aload_n C d_L_law_348 3 rfl rfl ?_
      refine ze_iload_n C d_L_law_349 0 rfl rfl ?_
      refine ze_iconst (v := nI 1) C d_L_law_350 (by decide) ?_
      refine ze_iaddN C d_L_law_351 ?_
      refine ze_fld C F (by omega) hf.2.1 (hf.2.2 (i + 1) (by omega)) d_L_law_352 ?_
      refine ze_aload_n C d_L_law_353 3 rfl rfl ?_
      refine ze_iload_n C d_L_law_354 0 rfl rfl ?_
      refine ze_iconst (v := nI 2) C d_L_law_355 (by decide) ?_
      refine ze_iaddN C d_L_law_356 ?_
      refine ze_fld C F (by omega) hf.2.1 (hf.2.2 (i + 2) (by omega)) d_L_law_357 ?_
      refine ze_aload_n C d_L_law_358 3 rfl rfl ?_
      refine ze_iload_n C d_L_law_359 0 rfl rfl ?_
      refine ze_iconst (v := nI 3) C d_L_law_360 (by decide) ?_
      refine ze_iaddN C d_L_law_361 ?_
      refine ze_fld C F (by omega) hf.2.1 (hf.2.2 (i + 3) (by omega)) d_L_law_362 ?_
      refine ze_aload_n C d_L_law_363 3 rfl rfl ?_
      refine ze_iload_n C d_L_law_364 0 rfl rfl ?_
      refine ze_iconst (v := nI 4) C d_L_law_365 (by decide) ?_
      refine ze_iaddN C d_L_law_366 ?_
      refine ze_fld C F (by omega) hf.2.1 (hf.2.2 (i + 4) (by omega)) d_L_law_367 ?_
      refine ze_callV (k := 39) (st := [.int (sp_select (inp, sl, mv, M) (f (i + 1)) (f (i + 2)) (f (i + 3)) (f (i + 4))).1]) C (c_M_select (ze_l G) (ze_D G) (ze_i G) d x' M mv ma co le Ar inp sl hA ⟨hM3, hM6⟩ (f (i + 1)) (f (i + 2)) (f (i + 3)) (f (i + 4))) (kv_L_57 ⟨by decide, by decide⟩) (by decide) ze_E_m rfl (Nat.le_of_ble_eq_true rfl) ⟨Nat.le_of_ble_eq_true rfl, Nat.le_of_ble_eq_true rfl⟩ d_L_law_368 ?_
      rintro _ _ _ _ ⟨rfl, rfl, ms', rfl, rfl, hM'⟩
      refine ze_norm (c2 := 48) (s2 := 2737) (st' := [.int (sp_select (inp, sl, mv, M) (f (i + 1)) (f (i + 2)) (f (i + 3)) (f (i + 4))).1, .int (sp_select (inp, sl, mv, M) (f (i + 1)) (f (i + 2)) (f (i + 3)) (f (i + 4))).1]) rfl rfl rfl ?_
      exact ze_icmp_eq 565 C d_L_law_371 (by decide) (fun _ => g x' ms' hX' hM') (fun z => absurd rfl z)
    · refine ze_tableIn 376 C d_L_law_42 (by decide) (by decide) rfl (by decide) ?_
      have g : ∀ (x' : ze_XS) (ms' : ze_MS), ze_rX x' (sp_distinct (inp, sl, mv, M) (f (i + 1)) (f (i + 2))).2 → ze_rM ms' (sp_distinct (inp, sl, mv, M) (f (i + 1)) (f (i + 2))).2 → ze_V G 48 d (ze_E (ze_i G) d x' ms') 48 2737 565 [(3, .int (nI i)), (2, .ref (d 39)), (1, .ref (d 0)), (0, .ref p)] [] := fun x' ms' => next x' ms' (sp_distinct (inp, sl, mv, M) (f (i + 1)) (f (i + 2))).2
      refine ze_aload_n C d_L_law_376 2 rfl rfl ?_
      refine ze_aload_n C d_L_law_377 3 rfl rfl ?_
      refine ze_iload_n C d_L_law_378 0 rfl rfl ?_
      refine ze_iconst (v := nI 1) C d_L_law_379 (by decide) ?_
      refine ze_iaddN C d_L_law_380 ?_
      refine ze_fld C F (by omega) hf.2.1 (hf.2.2 (i + 1) (by omega)) d_L_law_381 ?_
      refine ze_aload_n C d_L_law_382 3 rfl rfl ?_
      refine ze_iload_n C d_L_law_383 0 rfl rfl ?_
      refine ze_iconst (v := nI 2) C d_L_law_384 (by decide) ?_
      refine ze_iaddN C d_L_law_385 ?_
      refine ze_fld C F (by omega) hf.2.1 (hf.2.2 (i + 2) (by omega)) d_L_law_386 ?_
      refine ze_callV (k := 0) (st := []) C (c_X_distinct (ze_l G) (ze_D G) (ze_i G) d (M, mv, inp.length, ma, co, le, Ar) M T hd mv inp sl hX (f (i + 1)) (f (i + 2))) (kv_L_58 ⟨by decide, by decide⟩) (by decide) ze_E_x rfl (Nat.le_of_ble_eq_true rfl) ⟨Nat.le_of_ble_eq_true rfl, Nat.le_of_ble_eq_true rfl⟩ d_L_law_387 ?_
      rintro _ _ _ _ ⟨rfl, rfl, x', rfl, rfl, hX'⟩
      refine ze_norm (c2 := 48) (s2 := 2737) (st' := [.int (sp_distinct (inp, sl, mv, M) (f (i + 1)) (f (i + 2))).1]) rfl rfl rfl ?_
      refine ze_aload_n C d_L_law_390 1 rfl rfl ?_
      refine ze_aload_n C d_L_law_391 3 rfl rfl ?_
      refine ze_iload_n C d_L_law_392 0 rfl rfl ?_
      refine ze_iconst (v := nI 1) C d_L_law_393 (by decide) ?_
      refine ze_iaddN C d_L_law_394 ?_
      refine ze_fld C F (by omega) hf.2.1 (hf.2.2 (i + 1) (by omega)) d_L_law_395 ?_
      refine ze_aload_n C d_L_law_396 3 rfl rfl ?_
      refine ze_iload_n C d_L_law_397 0 rfl rfl ?_
      refine ze_iconst (v := nI 2) C d_L_law_398 (by decide) ?_
      refine ze_iaddN C d_L_law_399 ?_
      refine ze_fld C F (by omega) hf.2.1 (hf.2.2 (i + 2) (by omega)) d_L_law_400 ?_
      refine ze_callV (k := 39) (st := [.int (sp_distinct (inp, sl, mv, M) (f (i + 1)) (f (i + 2))).1]) C (c_M_distinct (ze_l G) (ze_D G) (ze_i G) d x' M mv ma co le Ar inp sl hA ⟨hM3, hM6⟩ (f (i + 1)) (f (i + 2))) (kv_L_61 ⟨by decide, by decide⟩) (by decide) ze_E_m rfl (Nat.le_of_ble_eq_true rfl) ⟨Nat.le_of_ble_eq_true rfl, Nat.le_of_ble_eq_true rfl⟩ d_L_law_401 ?_
      rintro _ _ _ _ ⟨rfl, rfl, ms', rfl, rfl, hM'⟩
      refine ze_norm (c2 := 48) (s2 := 2737) (st' := [.int (sp_distinct (inp, sl, mv, M) (f (i + 1)) (f (i + 2))).1, .int (sp_distinct (inp, sl, mv, M) (f (i + 1)) (f (i + 2))).1]) rfl rfl rfl ?_
      exact ze_icmp_eq 565 C d_L_law_404 (by decide) (fun _ => g x' ms' hX' hM') (fun z => absurd rfl z)
    · refine ze_tableIn 409 C d_L_law_42 (by decide) (by decide) rfl (by decide) ?_
      have g : ∀ (x' : ze_XS) (ms' : ze_MS), ze_rX x' (sp_group (inp, sl, mv, M) (f (i + 1)) (f (i + 2))).2 → ze_rM ms' (sp_group (inp, sl, mv, M) (f (i + 1)) (f (i + 2))).2 → ze_V G 48 d (ze_E (ze_i G) d x' ms') 48 2737 565 [(3, .int (nI i)), (2, .ref (d 39)), (1, .ref (d 0)), (0, .ref p)] [] := fun x' ms' => next x' ms' (sp_group (inp, sl, mv, M) (f (i + 1)) (f (i + 2))).2
      refine ze_aload_n C d_L_law_409 2 rfl rfl ?_
      refine ze_aload_n C d_L_law_410 3 rfl rfl ?_
      refine ze_iload_n C d_L_law_411 0 rfl rfl ?_
      refine ze_iconst (v := nI 1) C d_L_law_412 (by decide) ?_
      refine ze_iaddN C d_L_law_413 ?_
      refine ze_fld C F (by omega) hf.2.1 (hf.2.2 (i + 1) (by omega)) d_L_law_414 ?_
      refine ze_aload_n C d_L_law_415 3 rfl rfl ?_
      refine ze_iload_n C d_L_law_416 0 rfl rfl ?_
      refine ze_iconst (v := nI 2) C d_L_law_417 (by decide) ?_
      refine ze_iaddN C d_L_law_418 ?_
      refine ze_fld C F (by omega) hf.2.1 (hf.2.2 (i + 2) (by omega)) d_L_law_419 ?_
      refine ze_callV (k := 0) (st := []) C (c_X_group (ze_l G) (ze_D G) (ze_i G) d (M, mv, inp.length, ma, co, le, Ar) M T hd mv inp sl hX (f (i + 1)) (f (i + 2))) (kv_L_62 ⟨by decide, by decide⟩) (by decide) ze_E_x rfl (Nat.le_of_ble_eq_true rfl) ⟨Nat.le_of_ble_eq_true rfl, Nat.le_of_ble_eq_true rfl⟩ d_L_law_420 ?_
      rintro _ _ _ _ ⟨rfl, rfl, x', rfl, rfl, hX'⟩
      refine ze_norm (c2 := 48) (s2 := 2737) (st' := [.int (sp_group (inp, sl, mv, M) (f (i + 1)) (f (i + 2))).1]) rfl rfl rfl ?_
      refine ze_aload_n C d_L_law_423 1 rfl rfl ?_
      refine ze_aload_n C d_L_law_424 3 rfl rfl ?_
      refine ze_iload_n C d_L_law_425 0 rfl rfl ?_
      refine ze_iconst (v := nI 1) C d_L_law_426 (by decide) ?_
      refine ze_iaddN C d_L_law_427 ?_
      refine ze_fld C F (by omega) hf.2.1 (hf.2.2 (i + 1) (by omega)) d_L_law_428 ?_
      refine ze_aload_n C d_L_law_429 3 rfl rfl ?_
      refine ze_iload_n C d_L_law_430 0 rfl rfl ?_
      refine ze_iconst (v := nI 2) C d_L_law_431 (by decide) ?_
      refine ze_iaddN C d_L_law_432 ?_
      refine ze_fld C F (by omega) hf.2.1 (hf.2.2 (i + 2) (by omega)) d_L_law_433 ?_
      refine ze_callV (k := 39) (st := [.int (sp_group (inp, sl, mv, M) (f (i + 1)) (f (i + 2))).1]) C (c_M_group (ze_l G) (ze_D G) (ze_i G) d x' M mv ma co le Ar inp sl hA ⟨hM3, hM6⟩ (f (i + 1)) (f (i + 2))) (kv_L_65 ⟨by decide, by decide⟩) (by decide) ze_E_m rfl (Nat.le_of_ble_eq_true rfl) ⟨Nat.le_of_ble_eq_true rfl, Nat.le_of_ble_eq_true rfl⟩ d_L_law_434 ?_
      rintro _ _ _ _ ⟨rfl, rfl, ms', rfl, rfl, hM'⟩
      refine ze_norm (c2 := 48) (s2 := 2737) (st' := [.int (sp_group (inp, sl, mv, M) (f (i + 1)) (f (i + 2))).1, .int (sp_group (inp, sl, mv, M) (f (i + 1)) (f (i + 2))).1]) rfl rfl rfl ?_
      exact ze_icmp_eq 565 C d_L_law_437 (by decide) (fun _ => g x' ms' hX' hM') (fun z => absurd rfl z)
    · refine ze_tableIn 442 C d_L_law_42 (by decide) (by decide) rfl (by decide) ?_
      have g : ∀ (x' : ze_XS) (ms' : ze_MS), ze_rX x' (sp_combine (inp, sl, mv, M) (f (i + 1)) (f (i + 2)) (f (i + 3)) (f (i + 4))).2 → ze_rM ms' (sp_combine (inp, sl, mv, M) (f (i + 1)) (f (i + 2)) (f (i + 3)) (f (i + 4))).2 → ze_V G 48 d (ze_E (ze_i G) d x' ms') 48 2737 565 [(3, .int (nI i)), (2, .ref (d 39)), (1, .ref (d 0)), (0, .ref p)] [] := fun x' ms' => next x' ms' (sp_combine (inp, sl, mv, M) (f (i + 1)) (f (i + 2)) (f (i + 3)) (f (i + 4))).2
      refine ze_aload_n C d_L_law_442 2 rfl rfl ?_
      refine ze_aload_n C d_L_law_443 3 rfl rfl ?_
      refine ze_iload_n C d_L_law_444 0 rfl rfl ?_
      refine ze_iconst (v := nI 1) C d_L_law_445 (by decide) ?_
      refine ze_iaddN C d_L_law_446 ?_
      refine ze_fld C F (by omega) hf.2.1 (hf.2.2 (i + 1) (by omega)) d_L_law_447 ?_
      refine ze_aload_n C d_L_law_448 3 rfl rfl ?_
      refine ze_iload_n C d_L_law_449 0 rfl rfl ?_
      refine ze_iconst (v := nI 2) C d_L_law_450 (by decide) ?_
      refine ze_iaddN C d_L_law_451 ?_
      refine ze_fld C F (by omega) hf.2.1 (hf.2.2 (i + 2) (by omega)) d_L_law_452 ?_
      refine ze_aload_n C d_L_law_453 3 rfl rfl ?_
      refine ze_iload_n C d_L_law_454 0 rfl rfl ?_
      refine ze_iconst (v := nI 3) C d_L_law_455 (by decide) ?_
      refine ze_iaddN C d_L_law_456 ?_
      refine ze_fld C F (by omega) hf.2.1 (hf.2.2 (i + 3) (by omega)) d_L_law_457 ?_
      refine ze_aload_n C d_L_law_458 3 rfl rfl ?_
      refine ze_iload_n C d_L_law_459 0 rfl rfl ?_
      refine ze_iconst (v := nI 4) C d_L_law_460 (by decide) ?_
      refine ze_iaddN C d_L_law_461 ?_
      refine ze_fld C F (by omega) hf.2.1 (hf.2.2 (i + 4) (by omega)) d_L_law_462 ?_
      refine ze_callV (k := 0) (st := []) C (c_X_combine (ze_l G) (ze_D G) (ze_i G) d (M, mv, inp.length, ma, co, le, Ar) M T hd mv inp sl hX (f (i + 1)) (f (i + 2)) (f (i + 3)) (f (i + 4))) (kv_L_66 ⟨by decide, by decide⟩) (by decide) ze_E_x rfl (Nat.le_of_ble_eq_true rfl) ⟨Nat.le_of_ble_eq_true rfl, Nat.le_of_ble_eq_true rfl⟩ d_L_law_463 ?_
      rintro _ _ _ _ ⟨rfl, rfl, x', rfl, rfl, hX'⟩
      refine ze_norm (c2 := 48) (s2 := 2737) (st' := [.int (sp_combine (inp, sl, mv, M) (f (i + 1)) (f (i + 2)) (f (i + 3)) (f (i + 4))).1]) rfl rfl rfl ?_
      refine ze_aload_n C d_L_law_466 1 rfl rfl ?_
      refine ze_aload_n C d_L_law_467 3 rfl rfl ?_
      refine ze_iload_n C d_L_law_468 0 rfl rfl ?_
      refine ze_iconst (v := nI 1) C d_L_law_469 (by decide) ?_
      refine ze_iaddN C d_L_law_470 ?_
      refine ze_fld C F (by omega) hf.2.1 (hf.2.2 (i + 1) (by omega)) d_L_law_471 ?_
      refine ze_aload_n C d_L_law_472 3 rfl rfl ?_
      refine ze_iload_n C d_L_law_473 0 rfl rfl ?_
      refine ze_iconst (v := nI 2) C d_L_law_474 (by decide) ?_
      refine ze_iaddN C d_L_law_475 ?_
      refine ze_fld C F (by omega) hf.2.1 (hf.2.2 (i + 2) (by omega)) d_L_law_476 ?_
      refine ze_aload_n C d_L_law_477 3 rfl rfl ?_
      refine ze_iload_n C d_L_law_478 0 rfl rfl ?_
      refine ze_iconst (v := nI 3) C d_L_law_479 (by decide) ?_
      refine ze_iaddN C d_L_law_480 ?_
      refine ze_fld C F (by omega) hf.2.1 (hf.2.2 (i + 3) (by omega)) d_L_law_481 ?_
      refine ze_aload_n C d_L_law_482 3 rfl rfl ?_
      refine ze_iload_n C d_L_law_483 0 rfl rfl ?_
      refine ze_iconst (v := nI 4) C d_L_law_484 (by decide) ?_
      refine ze_iaddN C d_L_law_485 ?_
      refine ze_fld C F (by omega) hf.2.1 (hf.2.2 (i + 4) (by omega)) d_L_law_486 ?_
      refine ze_callV (k := 39) (st := [.int (sp_combine (inp, sl, mv, M) (f (i + 1)) (f (i + 2)) (f (i + 3)) (f (i + 4))).1]) C (c_M_combine (ze_l G) (ze_D G) (ze_i G) d x' M mv ma co le Ar inp sl hA ⟨hM3, hM6⟩ (f (i + 1)) (f (i + 2)) (f (i + 3)) (f (i + 4))) (kv_L_69 ⟨by decide, by decide⟩) (by decide) ze_E_m rfl (Nat.le_of_ble_eq_true rfl) ⟨Nat.le_of_ble_eq_true rfl, Nat.le_of_ble_eq_true rfl⟩ d_L_law_487 ?_
      rintro _ _ _ _ ⟨rfl, rfl, ms', rfl, rfl, hM'⟩
      refine ze_norm (c2 := 48) (s2 := 2737) (st' := [.int (sp_combine (inp, sl, mv, M) (f (i + 1)) (f (i + 2)) (f (i + 3)) (f (i + 4))).1, .int (sp_combine (inp, sl, mv, M) (f (i + 1)) (f (i + 2)) (f (i + 3)) (f (i + 4))).1]) rfl rfl rfl ?_
      exact ze_icmp_eq 565 C d_L_law_490 (by decide) (fun _ => g x' ms' hX' hM') (fun z => absurd rfl z)
    · refine ze_tableIn 495 C d_L_law_42 (by decide) (by decide) rfl (by decide) ?_
      have g : ∀ (x' : ze_XS) (ms' : ze_MS), ze_rX x' (sp_join (inp, sl, mv, M) (f (i + 1)) (f (i + 2)) (f (i + 3))).2 → ze_rM ms' (sp_join (inp, sl, mv, M) (f (i + 1)) (f (i + 2)) (f (i + 3))).2 → ze_V G 48 d (ze_E (ze_i G) d x' ms') 48 2737 565 [(3, .int (nI i)), (2, .ref (d 39)), (1, .ref (d 0)), (0, .ref p)] [] := fun x' ms' => next x' ms' (sp_join (inp, sl, mv, M) (f (i + 1)) (f (i + 2)) (f (i + 3))).2
      refine ze_aload_n C d_L_law_495 2 rfl rfl ?_
      refine ze_aload_n C d_L_law_496 3 rfl rfl ?_
      refine ze_iload_n C d_L_law_497 0 rfl rfl ?_
      refine ze_iconst (v := nI 1) C d_L_law_498 (by decide) ?_
      refine ze_iaddN C d_L_law_499 ?_
      refine ze_fld C F (by omega) hf.2.1 (hf.2.2 (i + 1) (by omega)) d_L_law_500 ?_
      refine ze_aload_n C d_L_law_501 3 rfl rfl ?_
      refine ze_iload_n C d_L_law_502 0 rfl rfl ?_
      refine ze_iconst (v := nI 2) C d_L_law_503 (by decide) ?_
      refine ze_iaddN C d_L_law_504 ?_
      refine ze_fld C F (by omega) hf.2.1 (hf.2.2 (i + 2) (by omega)) d_L_law_505 ?_
      refine ze_aload_n C d_L_law_506 3 rfl rfl ?_
      refine ze_iload_n C d_L_law_507 0 rfl rfl ?_
      refine ze_iconst (v := nI 3) C d_L_law_508 (by decide) ?_
      refine ze_iaddN C d_L_law_509 ?_
      refine ze_fld C F (by omega) hf.2.1 (hf.2.2 (i + 3) (by omega)) d_L_law_510 ?_
      refine ze_callV (k := 0) (st := []) C (c_X_join (ze_l G) (ze_D G) (ze_i G) d (M, mv, inp.length, ma, co, le, Ar) M T hd mv inp sl hX (f (i + 1)) (f (i + 2)) (f (i + 3))) (kv_L_70 ⟨by decide, by decide⟩) (by decide) ze_E_x rfl (Nat.le_of_ble_eq_true rfl) ⟨Nat.le_of_ble_eq_true rfl, Nat.le_of_ble_eq_true rfl⟩ d_L_law_511 ?_
      rintro _ _ _ _ ⟨rfl, rfl, x', rfl, rfl, hX'⟩
      refine ze_norm (c2 := 48) (s2 := 2737) (st' := [.int (sp_join (inp, sl, mv, M) (f (i + 1)) (f (i + 2)) (f (i + 3))).1]) rfl rfl rfl ?_
      refine ze_aload_n C d_L_law_514 1 rfl rfl ?_
      refine ze_aload_n C d_L_law_515 3 rfl rfl ?_
      refine ze_iload_n C d_L_law_516 0 rfl rfl ?_
      refine ze_iconst (v := nI 1) C d_L_law_517 (by decide) ?_
      refine ze_iaddN C d_L_law_518 ?_
      refine ze_fld C F (by omega) hf.2.1 (hf.2.2 (i + 1) (by omega)) d_L_law_519 ?_
      refine ze_aload_n C d_L_law_520 3 rfl rfl ?_
      refine ze_iload_n C d_L_law_521 0 rfl rfl ?_
      refine ze_iconst (v := nI 2) C d_L_law_522 (by decide) ?_
      refine ze_iaddN C d_L_law_523 ?_
      refine ze_fld C F (by omega) hf.2.1 (hf.2.2 (i + 2) (by omega)) d_L_law_524 ?_
      refine ze_aload_n C d_L_law_525 3 rfl rfl ?_
      refine ze_iload_n C d_L_law_526 0 rfl rfl ?_
      refine ze_iconst (v := nI 3) C d_L_law_527 (by decide) ?_
      refine ze_iaddN C d_L_law_528 ?_
      refine ze_fld C F (by omega) hf.2.1 (hf.2.2 (i + 3) (by omega)) d_L_law_529 ?_
      refine ze_callV (k := 39) (st := [.int (sp_join (inp, sl, mv, M) (f (i + 1)) (f (i + 2)) (f (i + 3))).1]) C (c_M_join (ze_l G) (ze_D G) (ze_i G) d x' M mv ma co le Ar inp sl hA ⟨hM3, hM6⟩ (f (i + 1)) (f (i + 2)) (f (i + 3))) (kv_L_73 ⟨by decide, by decide⟩) (by decide) ze_E_m rfl (Nat.le_of_ble_eq_true rfl) ⟨Nat.le_of_ble_eq_true rfl, Nat.le_of_ble_eq_true rfl⟩ d_L_law_530 ?_
      rintro _ _ _ _ ⟨rfl, rfl, ms', rfl, rfl, hM'⟩
      refine ze_norm (c2 := 48) (s2 := 2737) (st' := [.int (sp_join (inp, sl, mv, M) (f (i + 1)) (f (i + 2)) (f (i + 3))).1, .int (sp_join (inp, sl, mv, M) (f (i + 1)) (f (i + 2)) (f (i + 3))).1]) rfl rfl rfl ?_
      exact ze_icmp_eq 565 C d_L_law_533 (by decide) (fun _ => g x' ms' hX' hM') (fun z => absurd rfl z)
    · refine ze_tableIn 538 C d_L_law_42 (by decide) (by decide) rfl (by decide) ?_
      have g : ∀ (x' : ze_XS) (ms' : ze_MS), ze_rX x' (inp, sl, mv, M) → ze_rM ms' (inp, sl, mv, M) → ze_V G 48 d (ze_E (ze_i G) d x' ms') 48 2737 565 [(3, .int (nI i)), (2, .ref (d 39)), (1, .ref (d 0)), (0, .ref p)] [] := fun x' ms' => next x' ms' (inp, sl, mv, M)
      refine ze_aload_n C d_L_law_538 2 rfl rfl ?_
      refine ze_callV (k := 0) (st := []) C (c_X_transfers (ze_l G) (ze_D G) (ze_i G) d (M, mv, inp.length, ma, co, le, Ar) M T hd mv ) (kv_L_74 ⟨by decide, by decide⟩) (by decide) ze_E_x rfl (Nat.le_of_ble_eq_true rfl) ⟨Nat.le_of_ble_eq_true rfl, Nat.le_of_ble_eq_true rfl⟩ d_L_law_539 ?_
      rintro _ _ _ _ ⟨rfl, rfl, x', rfl, rfl, rfl⟩
      have hX' := hX
      refine ze_norm (c2 := 48) (s2 := 2737) (st' := [.long mv]) rfl rfl rfl ?_
      refine ze_aload_n C d_L_law_542 1 rfl rfl ?_
      refine ze_callV (k := 39) (st := [.long mv]) C (c_M_transfers (ze_l G) (ze_D G) (ze_i G) d (M, T, hd, mv) M mv ma co le Ar inp sl hA ⟨hM3, hM6⟩ ) (kv_L_78 ⟨by decide, by decide⟩) (by decide) ze_E_m rfl (Nat.le_of_ble_eq_true rfl) ⟨Nat.le_of_ble_eq_true rfl, Nat.le_of_ble_eq_true rfl⟩ d_L_law_543 ?_
      rintro _ _ _ _ ⟨rfl, rfl, ms', rfl, rfl, hM'⟩
      refine ze_norm (c2 := 48) (s2 := 2737) (st' := [.long mv, .long mv]) rfl rfl rfl ?_
      refine ze_lcmp C d_L_law_546 ?_
      exact ze_if_eq 565 C d_L_law_547 (by decide) (fun _ => g _ ms' hX' hM') (fun z => absurd (ze_lcs mv) z)
    · refine ze_tableIn 552 C d_L_law_42 (by decide) (by decide) rfl (by decide) ?_
      have g : ∀ (x' : ze_XS) (ms' : ze_MS), ze_rX x' (inp, sl, mv, M) → ze_rM ms' (inp, sl, mv, M) → ze_V G 48 d (ze_E (ze_i G) d x' ms') 48 2737 565 [(3, .int (nI i)), (2, .ref (d 39)), (1, .ref (d 0)), (0, .ref p)] [] := fun x' ms' => next x' ms' (inp, sl, mv, M)
      refine ze_aload_n C d_L_law_552 2 rfl rfl ?_
      refine ze_callV (k := 0) (st := []) C (c_X_blocks (ze_l G) (ze_D G) (ze_i G) d (M, mv, inp.length, ma, co, le, Ar) M T hd mv inp sl hX ) (kv_L_79 ⟨by decide, by decide⟩) (by decide) ze_E_x rfl (Nat.le_of_ble_eq_true rfl) ⟨Nat.le_of_ble_eq_true rfl, Nat.le_of_ble_eq_true rfl⟩ d_L_law_553 ?_
      rintro _ _ _ _ ⟨rfl, rfl, x', rfl, rfl, hX'⟩
      refine ze_norm (c2 := 48) (s2 := 2737) (st' := [.int (nI (sp_blocks (inp, sl, mv, M)))]) rfl rfl rfl ?_
      refine ze_aload_n C d_L_law_556 1 rfl rfl ?_
      refine ze_callV (k := 39) (st := [.int (nI (sp_blocks (inp, sl, mv, M)))]) C (c_M_blocks (ze_l G) (ze_D G) (ze_i G) d x' M mv ma co le Ar inp sl hA ⟨hM3, hM6⟩ ) (kv_L_83 ⟨by decide, by decide⟩) (by decide) ze_E_m rfl (Nat.le_of_ble_eq_true rfl) ⟨Nat.le_of_ble_eq_true rfl, Nat.le_of_ble_eq_true rfl⟩ d_L_law_557 ?_
      rintro _ _ _ _ ⟨rfl, rfl, ms', rfl, rfl, hM'⟩
      refine ze_norm (c2 := 48) (s2 := 2737) (st' := [.int (nI (sp_blocks (inp, sl, mv, M))), .int (nI (sp_blocks (inp, sl, mv, M)))]) rfl rfl rfl ?_
      exact ze_icmp_eq 565 C d_L_law_560 (by decide) (fun _ => g x' ms' hX' hM') (fun z => absurd rfl z)
