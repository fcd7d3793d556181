/-! a CONFIGURATION in one long -/
theorem lN_tb (n : Nat) {j : Nat} (hj : j < 64) : (lN n).toBitVec.getLsbD j = n.testBit j := by
  rw [wb_tb, BitVec.getLsbD_ofNat]
  simp [hj]
theorem lt8_tb {x j : Nat} (hx : x < 8) (hj : 3 ≤ j) : x.testBit j = false := Nat.testBit_lt_two_pow (Nat.lt_of_lt_of_le hx (show 2 ^ 3 ≤ 2 ^ j from Nat.pow_le_pow_right (by decide) hj))
theorem enc_ext {c d : Int64} {p : Nat} {f : Nat → Nat} (h : Enc c p f) (k : Enc d p f) : c = d := wb_inj (BitVec.eq_of_getLsbD_eq (fun j hj => (h j hj).trans (k j hj).symm))
theorem enc_f {c : Int64} {p : Nat} {f g : Nat → Nat} (h : Enc c p f) (hg : ∀ s, s < 16 → f s = g s) : Enc c p g := by
  intro j hj
  rw [h j hj]
  by_cases h48 : j < 48
  · rw [if_pos h48, if_pos h48, hg (j / 3) (by omega)]
  · rw [if_neg h48, if_neg h48]
theorem tb3 {x y : Nat} (hx : x < 8) (hy : y < 8) (h : ∀ j, j < 3 → x.testBit j = y.testBit j) : x = y := by
  apply Nat.eq_of_testBit_eq
  intro j
  rcases Nat.lt_or_ge j 3 with h3 | h3
  · exact h j h3
  · rw [lt8_tb hx h3, lt8_tb hy h3]
theorem enc_inj {c : Int64} {p q : Nat} {f g : Nat → Nat} (h : Enc c p f) (k : Enc c q g) (hp : p < 8) (hq : q < 8) (hf : ∀ s, s < 16 → f s < 8) (hg : ∀ s, s < 16 → g s < 8) : p = q ∧ ∀ s, s < 16 → f s = g s := by
  constructor
  · apply tb3 hp hq
    intro j hj
    have a := (h (48 + j) (by omega)).symm.trans (k (48 + j) (by omega))
    rw [if_neg (by omega), if_neg (by omega), show 48 + j - 48 = j by omega] at a
    exact a
  · intro s hs
    apply tb3 (hf s hs) (hg s hs)
    intro j hj
    have a := (h (3 * s + j) (by omega)).symm.trans (k (3 * s + j) (by omega))
    rw [if_pos (by omega), if_pos (by omega), show (3 * s + j) / 3 = s by omega, show (3 * s + j) % 3 = j by omega] at a
    exact a
theorem sh3 (s : Nat) : nI s * (3 : Int32) = nI (3 * s) := by rw [show (3 : Int32) = nI 3 from rfl, pk_mul, Nat.mul_comm]
/-- one digit of a code -/
def vIn (c : Int64) (x : Int32) : Int32 := (((c.toUInt64 >>> ((x * (3 : Int32)).toInt64.toUInt64 &&& Int64.toUInt64 63)).toInt64) &&& (7 : Int64)).toInt32
def pIn (c : Int64) : Int32 := ((c.toUInt64 >>> ((48 : Int32).toInt64.toUInt64 &&& Int64.toUInt64 63)).toInt64).toInt32
def wv (c : Int64) (x v : Int32) : Int64 := (c &&& (((7 : Int64) <<< ((x * (3 : Int32)).toInt64 &&& 63)) ^^^ ((-1) : Int64))) ||| (v.toInt64 <<< ((x * (3 : Int32)).toInt64 &&& 63))
theorem enc_val {c : Int64} {p : Nat} {f : Nat → Nat} {s : Nat} (h : Enc c p f) (hs : s < 16) (hf : f s < 8) : vIn c (nI s) = nI (f s) := by
  obtain ⟨n, hn, rfl⟩ := wb_of c
  unfold vIn
  rw [sh3, wb_shr hn (by omega), show (7 : Int64) = lN (2 ^ 3 - 1) from rfl, wb_mask (Nat.lt_of_le_of_lt (Nat.div_le_self _ _) hn) (by decide), lN_i]
  congr 1
  apply tb3 (Nat.mod_lt _ (by decide)) hf
  intro j hj
  show (n / 2 ^ (3 * s) % 2 ^ 3).testBit j = _
  rw [Nat.testBit_mod_two_pow, Nat.testBit_div_two_pow]
  have a := h (j + 3 * s) (by omega)
  rw [lN_tb n (by omega), if_pos (by omega), show (j + 3 * s) / 3 = s by omega, show (j + 3 * s) % 3 = j by omega] at a
  rw [a]
  simp [hj]
theorem enc_plat {c : Int64} {p : Nat} {f : Nat → Nat} (h : Enc c p f) (hp : p < 8) : pIn c = nI p := by
  obtain ⟨n, hn, rfl⟩ := wb_of c
  unfold pIn
  rw [show (48 : Int32) = nI 48 from rfl, wb_shr hn (by decide), lN_i]
  congr 1
  apply Nat.eq_of_testBit_eq
  intro j
  rw [Nat.testBit_div_two_pow]
  rcases Nat.lt_or_ge j 16 with h3 | h3
  · have a := h (j + 48) (by omega)
    rw [lN_tb n (by omega), if_neg (by omega), show j + 48 - 48 = j by omega] at a
    exact a
  · rw [lt8_tb hp (by omega)]
    exact Nat.testBit_lt_two_pow (Nat.lt_of_lt_of_le hn (Nat.pow_le_pow_right (by decide) (by omega)))
theorem enc_new {p : Nat} (hp : p < 8) : Enc ((nI p).toInt64 <<< ((48 : Int32).toInt64 &&& 63)) p (fun _ => 0) := by
  intro j hj
  rw [show (48 : Int32) = nI 48 from rfl, nI_l (by omega), wb_shl p (by decide), lN_tb _ hj, Nat.testBit_mul_two_pow]
  by_cases h : j < 48
  · rw [if_pos h]; simp; omega
  · rw [if_neg h]; simp; omega
theorem enc_with {c : Int64} {p : Nat} {f : Nat → Nat} {s v : Nat} (h : Enc c p f) (hs : s < 16) (hv : v < 8) : Enc (wv c (nI s) (nI v)) p (fun t => if t = s then v else f t) := by
  intro j hj
  unfold wv
  rw [sh3, show (7 : Int64) = lN 7 from rfl, wb_shl 7 (by omega), nI_l (by omega), wb_shl v (by omega), Int64.toBitVec_or, Int64.toBitVec_and, Int64.toBitVec_xor, BitVec.getLsbD_or, BitVec.getLsbD_and, BitVec.getLsbD_xor, lN_tb _ hj, lN_tb _ hj, show ((-1 : Int64)).toBitVec = BitVec.allOnes 64 from rfl, BitVec.getLsbD_allOnes, h j hj, Nat.testBit_mul_two_pow, Nat.testBit_mul_two_pow]
  by_cases c1 : 3 * s ≤ j
  · by_cases c2 : j < 3 * s + 3
    · have e1 : j / 3 = s := by omega
      have e2 : j % 3 = j - 3 * s := by omega
      have h7 : (7 : Nat).testBit (j - 3 * s) = true := by
        rcases (show j - 3 * s = 0 ∨ j - 3 * s = 1 ∨ j - 3 * s = 2 by omega) with e | e | e <;> rw [e] <;> rfl
      rw [if_pos (show j < 48 by omega), if_pos (show j < 48 by omega), e1, e2]
      simp [c1, hj, h7]
    · have h7 : (7 : Nat).testBit (j - 3 * s) = false := lt8_tb (by decide) (by omega)
      have hv7 : v.testBit (j - 3 * s) = false := lt8_tb hv (by omega)
      have e1 : ¬ j / 3 = s := by omega
      simp [c1, hj, h7, hv7, e1]
  · have e1 : ¬ j / 3 = s := by omega
    simp [c1, hj, e1]
