/-- the remainder as the machine has it -/
theorem ze_rem_of (x : Int32) {d : Nat} (h0 : 0 < d) (hd : d < 1000) : x - x / nI d * nI d = Int32.ofInt (x.toInt.tmod (d : Int)) := by
  have hy : (nI d).toInt = (d : Int) := nI_toInt (by omega)
  have e1 : x / nI d = Int32.ofInt (x.toInt.tdiv (d : Int)) := by
    have h := Int32.toInt_div_of_ne_right x (nI d) (fun z => by
      have := congrArg Int32.toInt z
      rw [hy, show (-1 : Int32).toInt = -1 from rfl] at this
      omega)
    rw [hy] at h
    rw [← h, Int32.ofInt_toInt]
  have e2 : nI d = Int32.ofInt (d : Int) := by rw [← hy, Int32.ofInt_toInt]
  rw [e1, e2, ← Int32.ofInt_mul]
  have e3 : x = Int32.ofInt x.toInt := (Int32.ofInt_toInt x).symm
  have e4 : x.toInt.tmod (d : Int) = x.toInt - x.toInt.tdiv (d : Int) * (d : Int) := by rw [Int.tmod_def, Int.mul_comm]
  rw [e4, Int32.ofInt_sub, ← e3]
theorem ze_xor_neg {x : Int32} {d : Nat} (hd : d < 1000) : (x ^^^ nI d) < 0 ↔ x < 0 := by
  have hm : (nI d).toBitVec.msb = false := by
    rw [BitVec.msb_eq_toInt]
    have : (nI d).toBitVec.toInt = (d : Int) := nI_toInt (by omega)
    rw [this]
    exact decide_eq_false (by omega)
  have k : ∀ y : Int32, y < 0 ↔ y.toBitVec.msb = true := by
    intro y
    rw [Int32.lt_iff_toInt_lt, BitVec.msb_eq_toInt, Int32.toInt_toBitVec, decide_eq_true_eq]
    exact Iff.rfl
  rw [k, k, Int32.toBitVec_xor, BitVec.msb_xor, hm, Bool.xor_false]
/-- floorMod -/
def ze_fm (x : Int32) (d : Nat) : Nat := (x.toInt % (d : Int)).toNat
theorem ze_fm_lt (x : Int32) {d : Nat} (h0 : 0 < d) : ze_fm x d < d := by
  unfold ze_fm
  have h1 := Int.emod_nonneg x.toInt (b := (d : Int)) (by omega)
  have h2 := Int.emod_lt_of_pos x.toInt (b := (d : Int)) (by omega)
  omega
theorem ze_fm_of (x : Int32) {d : Nat} (h0 : 0 < d) : nI (ze_fm x d) = Int32.ofInt (x.toInt % (d : Int)) := by
  have h1 := Int.emod_nonneg x.toInt (b := (d : Int)) (by omega)
  unfold ze_fm nI
  rw [← Int32.ofInt_eq_ofNat, Int.toNat_of_nonneg h1]
theorem ze_fm_pos {x : Int32} {d : Nat} (h0 : 0 < d) (hd : d < 1000) (h : ¬ x < 0) : x - x / nI d * nI d = nI (ze_fm x d) := by
  rw [Int32.lt_iff_toInt_lt] at h
  simp only [show (0 : Int32).toInt = 0 from rfl] at h
  rw [ze_rem_of x h0 hd, ze_fm_of x h0, Int.tmod_eq_emod_of_nonneg (by omega)]
theorem ze_tmod_range (a : Int) {d : Nat} (h0 : 0 < d) : -(d : Int) < a.tmod d ∧ a.tmod d < d := by
  constructor
  · have := Int.lt_tmod_of_pos a (b := (d : Int)) (by omega)
    omega
  · exact Int.tmod_lt_of_pos a (by omega)
theorem ze_fm_neg0 {x : Int32} {d : Nat} (h0 : 0 < d) (hd : d < 1000) (hz : x - x / nI d * nI d = 0) : x - x / nI d * nI d = nI (ze_fm x d) := by
  have e := ze_rem_of x h0 hd
  rw [hz] at e
  obtain ⟨r1, r2⟩ := ze_tmod_range x.toInt h0
  have e2 := congrArg Int32.toInt e
  rw [Int32.toInt_ofInt_of_le (by omega) (by omega)] at e2
  simp only [show (0 : Int32).toInt = 0 from rfl] at e2
  have hdvd : (d : Int) ∣ x.toInt := Int.dvd_of_tmod_eq_zero e2.symm
  rw [hz, ze_fm_of x h0, Int.emod_eq_zero_of_dvd hdvd]
  rfl
theorem ze_fm_neg {x : Int32} {d : Nat} (h0 : 0 < d) (hd : d < 1000) (h : x < 0) (hz : ¬ x - x / nI d * nI d = 0) : x - x / nI d * nI d + nI d = nI (ze_fm x d) := by
  rw [Int32.lt_iff_toInt_lt] at h
  simp only [show (0 : Int32).toInt = 0 from rfl] at h
  have hnd : ¬ (d : Int) ∣ x.toInt := fun z => hz (by rw [ze_rem_of x h0 hd, Int.tmod_eq_zero_of_dvd z]; rfl)
  have e2 : nI d = Int32.ofInt (d : Int) := by
    unfold nI
    rw [Int32.ofInt_eq_ofNat]
  rw [ze_rem_of x h0 hd, ze_fm_of x h0]
  conv => lhs; rw [e2]
  rw [← Int32.ofInt_add, Int.tmod_eq_emod, if_neg (by
    rintro (z | z)
    · omega
    · exact hnd z)]
  congr 1
  omega
