/-! PURE PART. What is read of a state behind a write -/
theorem gI_sI (S : St9) (k : Nat) (v : Int32) (j : Nat) : gI (sI S k v) j = if j = k then v else gI S j := rfl
theorem gI_sL (S : St9) (k : Nat) (v : Int64) (j : Nat) : gI (sL S k v) j = gI S j := rfl
theorem gI_tA (S : St9) (k : Nat) (i v : Int32) (j : Nat) : gI (tA S k i v) j = gI S j := rfl
theorem gI_tB (S : St9) (k : Nat) (i : Int32) (v : Int64) (j : Nat) : gI (tB S k i v) j = gI S j := rfl
theorem gL_sI (S : St9) (k : Nat) (v : Int32) (j : Nat) : gL (sI S k v) j = gL S j := rfl
theorem gL_sL (S : St9) (k : Nat) (v : Int64) (j : Nat) : gL (sL S k v) j = if j = k then v else gL S j := rfl
theorem gL_tA (S : St9) (k : Nat) (i v : Int32) (j : Nat) : gL (tA S k i v) j = gL S j := rfl
theorem gL_tB (S : St9) (k : Nat) (i : Int32) (v : Int64) (j : Nat) : gL (tB S k i v) j = gL S j := rfl
theorem gA_sI (S : St9) (k : Nat) (v : Int32) (j : Nat) : gA (sI S k v) j = gA S j := rfl
theorem gA_sL (S : St9) (k : Nat) (v : Int64) (j : Nat) : gA (sL S k v) j = gA S j := rfl
theorem gA_tA (S : St9) (k : Nat) (i v : Int32) (j : Nat) : gA (tA S k i v) j = if j = k then upd (gA S k) i.toNatClampNeg v else gA S j := rfl
theorem gA_tB (S : St9) (k : Nat) (i : Int32) (v : Int64) (j : Nat) : gA (tB S k i v) j = gA S j := rfl
theorem gB_sI (S : St9) (k : Nat) (v : Int32) (j : Nat) : gB (sI S k v) j = gB S j := rfl
theorem gB_sL (S : St9) (k : Nat) (v : Int64) (j : Nat) : gB (sL S k v) j = gB S j := rfl
theorem gB_tA (S : St9) (k : Nat) (i v : Int32) (j : Nat) : gB (tA S k i v) j = gB S j := rfl
theorem gB_tB (S : St9) (k : Nat) (i : Int32) (v : Int64) (j : Nat) : gB (tB S k i v) j = if j = k then vp_updL (gB S k) i.toNatClampNeg v else gB S j := rfl
theorem upd_e (f : Nat → Int32) (k : Nat) (x : Int32) (j : Nat) : upd f k x j = if j = k then x else f j := rfl
theorem updL_e (f : Nat → Int64) (k : Nat) (x : Int64) (j : Nat) : vp_updL f k x j = if j = k then x else f j := rfl
theorem inb_nI {i n : Nat} (h : i < n) (hn : n < 2 ^ 31) : inb (nI i) n = true := decide_eq_true (nI_in h hn)
/-- the three-way test of a number against a count -/
def thr (x y : Int32) : Option Int32 := if x < 0 then some 0 else if y ≤ x then some 0 else some 1
theorem thr_yes {j n : Nat} (h : j < n) (hn : n < 2 ^ 31) : thr (nI j) (nI n) = some 1 := by
  unfold thr; rw [if_neg (nI_pos (by omega)), if_neg (nI_ge h hn)]
theorem thr_no {x y : Int32} (h : x < 0 ∨ y ≤ x) : thr x y = some 0 := by
  unfold thr
  by_cases h1 : x < 0
  · rw [if_pos h1]
  · rw [if_neg h1, if_pos (h.resolve_left h1)]
theorem rng (x : Int32) {n : Nat} (hn : n < 2 ^ 31) : (∃ j : Nat, j < n ∧ x = nI j) ∨ (x < 0 ∨ nI n ≤ x) := by
  rcases pk_ix x hn with h | h | h
  · exact Or.inr (Or.inl h)
  · exact Or.inr (Or.inr h)
  · exact Or.inl h
theorem nI_ne_m1 {n : Nat} (h : n < 2 ^ 31) : ¬ nI n = -1 := by
  intro e
  have a := nI_toInt h
  rw [e] at a
  have : (-1 : Int32).toInt = -1 := by decide
  omega
theorem nI_inj {a b : Nat} (ha : a < 2 ^ 31) (hb : b < 2 ^ 31) (h : nI a = nI b) : a = b := (nI_eq ha hb).mp h
theorem inc_dec (n : Nat) : nI n + 1 - 1 = nI n := by rw [nI_1]; exact nI_pred n
/-! the relation of a class's state and the reference's -/
def RSet (n : Nat) (cv cf co ma mm mf : Nat → Int32) : Prop := ∀ i, i < n → cv i = mm i ∧ cf i = mf i ∧ co i = ma i ∧ ((ma i = -1 ∧ ∃ v f : Nat, mm i = nI v ∧ mf i = nI f ∧ f < v ∧ v ≤ 8) ∨ ∃ j : Nat, j < 16 ∧ ma i = nI j ∧ mm i = 0 ∧ mf i = 0)
def RPlat (cx mx : Nat → Int32) : Prop := ∀ i, i < 64 → cx i = mx i
def Enc (code : Int64) (p : Nat) (f : Nat → Nat) : Prop := ∀ j, j < 64 → code.toBitVec.getLsbD j = if j < 48 then (f (j / 3)).testBit (j % 3) else p.testBit (j - 48)
def rowV (n : Nat) (ma mv : Nat → Int32) (c s : Nat) : Nat := if s < n ∧ ma s = -1 then (mv (16 * c + s)).toNatClampNeg else 0
def RRow (n nP : Nat) (ma mp mv : Nat → Int32) (c : Nat) : Prop := (∃ p : Nat, p < nP ∧ mp c = nI p) ∧ ∀ s, s < n → ma s = -1 → ∃ v : Nat, v < 8 ∧ mv (16 * c + s) = nI v
def RConf (nS nP nK : Nat) (codes : Nat → Int64) (ma mp mv : Nat → Int32) : Prop := ∀ c, c < nK → RRow nS nP ma mp mv c ∧ Enc (codes c) (mp c).toNatClampNeg (rowV nS ma mv c)
def RCond (nS nQ : Nat) (ck cc mk mw mv mx : Nat → Int32) : Prop := ∀ q, q < 40 → ∃ k : Nat, k ≤ 6 ∧ ck q = nI k ∧ mk q = nI k ∧ (nQ ≤ q → k = 0) ∧ ∀ j, j < k → ∃ w v : Nat, v < 8 ∧ mw (6 * q + j) = nI w ∧ mv (6 * q + j) = nI v ∧ ((mx (6 * q + j) = 0 ∧ w < nS ∧ cc (6 * q + j) = nI (8 * w + v)) ∨ (mx (6 * q + j) = 1 ∧ w < 8 ∧ cc (6 * q + j) = nI (128 + 8 * w + v)))
def RUsed (nE : Nat) (cu mw mk mc : Nat → Int32) : Prop := ∀ q, q < 40 → (mw q = 0 ∨ mw q = 1) ∧ ((cu q = 0 ∧ mw q = 0 ∧ ∀ s b, s < nE → b < (mk s).toNatClampNeg → ¬ mc (8 * s + b) = nI q) ∨ (cu q = 1 ∧ (mw q = 1 ∨ ∃ s b, s < nE ∧ b < (mk s).toNatClampNeg ∧ mc (8 * s + b) = nI q)))
def RTar (nT nQ : Nat) (cw mw : Nat → Int32) : Prop := ∀ t, t < nT → cw t = mw t ∧ (mw t = -1 ∨ ∃ q : Nat, q < nQ ∧ mw t = nI q)
def RSelA (nE nQ : Nat) (ck cc cn cv mt mk mc mn mv : Nat → Int32) : Prop := ∀ s, s < 24 → ∃ k : Nat, k ≤ 8 ∧ ck s = nI k ∧ mk s = nI k ∧ (nE ≤ s → k = 0) ∧ ∀ b, b < k → cc (8 * s + b) = mc (8 * s + b) ∧ cn (8 * s + b) = mn (8 * s + b) ∧ cv (8 * s + b) = mv (8 * s + b) ∧ (∃ q : Nat, q < nQ ∧ mc (8 * s + b) = nI q) ∧ (mn (8 * s + b) = 0 ∨ (mn (8 * s + b) = 1 ∧ ∃ v : Nat, v < s ∧ mv (8 * s + b) = nI v ∧ mt v = mt s ∧ ∀ d, d < (mk v).toNatClampNeg → mn (8 * v + d) = 0))
def RSelT (nE nT : Nat) (ct mt : Nat → Int32) : Prop := ∀ s, s < nE → ∃ t : Nat, t < nT ∧ ct s = nI t ∧ mt s = nI t
/-- a VALUE, and a CLASH, in one long -/
def ofV (x : Int32) : Int64 := (4294967296 : Int64) ||| (x.toInt64 &&& (4294967295 : Int64))
def ofC (a b : Nat) : Int64 := (8589934592 : Int64) ||| (nI a * (8 : Int32) + nI b).toInt64
def RSelO (nE : Nat) (co : Nat → Int64) (mh mo : Nat → Int32) : Prop := ∀ s, s < 24 → (mh s = 0 ∧ (s < nE → co s = 0)) ∨ (mh s = 1 ∧ s < nE ∧ co s = ofV (mo s))
def RSelW (nE : Nat) (cw mk mn mv : Nat → Int32) : Prop := ∀ s, s < 24 → (cw s = 0 ∧ ∀ r b, r < nE → b < (mk r).toNatClampNeg → ¬ mn (8 * r + b) = 0 → ¬ mv (8 * r + b) = nI s) ∨ (cw s = 1 ∧ ∃ r b, r < nE ∧ b < (mk r).toNatClampNeg ∧ ¬ mn (8 * r + b) = 0 ∧ mv (8 * r + b) = nI s)
def RSelH (ch mk mn : Nat → Int32) : Prop := ∀ s, s < 24 → (ch s = 0 ∧ ∀ b, b < (mk s).toNatClampNeg → mn (8 * s + b) = 0) ∨ (ch s = 1 ∧ ∃ b, b < (mk s).toNatClampNeg ∧ ¬ mn (8 * s + b) = 0)
def RNeed (nN nT nS : Nat) (cf ct ck cs cb mf mt mk ms mb : Nat → Int32) : Prop := ∀ e, e < 40 → (e < nN → (∃ t : Nat, t < nT ∧ cf e = nI t ∧ mf e = nI t) ∧ ∃ t : Nat, t < nT ∧ ct e = nI t ∧ mt e = nI t) ∧ ∃ k : Nat, k ≤ 2 ∧ ck e = nI k ∧ mk e = nI k ∧ (nN ≤ e → k = 0) ∧ ∀ j, j < k → cs (2 * e + j) = ms (2 * e + j) ∧ cb (2 * e + j) = mb (2 * e + j) ∧ (∃ s : Nat, s < nS ∧ ms (2 * e + j) = nI s) ∧ ∃ w : Nat, w < 256 ∧ mb (2 * e + j) = nI w
def RPair (nR : Nat) (ct cc co mt mc mo : Nat → Int32) : Prop := ∀ p, p < nR → ct p = mt p ∧ cc p = mc p ∧ co p = mo p
def RCho (c : Int64) (k v f g : Int32) : Prop := (k = -1 ∧ c = 0) ∨ (k = 0 ∧ c = 0) ∨ (k = 1 ∧ c = ofV v) ∨ (k = 2 ∧ ∃ a b : Nat, a < 8 ∧ b < 8 ∧ f = nI a ∧ g = nI b ∧ c = ofC a b)
def RelN (S : StC) (T : StM) (nS nP nK nQ nT nE nN nR : Nat) : Prop :=
  (nS ≤ 16 ∧ gI S 0 = nI nS ∧ gI T 0 = nI nS) ∧ (nP ≤ 8 ∧ gI S 1 = nI nP ∧ gI T 1 = nI nP) ∧ (nK ≤ 60 ∧ gI S 2 = nI nK ∧ gI T 2 = nI nK) ∧ (nQ ≤ 40 ∧ gI S 3 = nI nQ ∧ gI T 3 = nI nQ) ∧ (nT ≤ 16 ∧ gI S 4 = nI nT ∧ gI T 5 = nI nT) ∧ (nE ≤ 24 ∧ gI S 5 = nI nE ∧ gI T 4 = nI nE) ∧ (nN ≤ 40 ∧ gI S 6 = nI nN ∧ gI T 6 = nI nN) ∧ (nR ≤ 60 ∧ gI S 7 = nI nR ∧ gI T 15 = nI nR) ∧
  RSet nS (gA S 0) (gA S 1) (gA S 2) (gA T 0) (gA T 1) (gA T 2) ∧ RPlat (gA S 3) (gA T 3) ∧ RConf nS nP nK (gB S 0) (gA T 0) (gA T 4) (gA T 5) ∧ RCond nS nQ (gA S 4) (gA S 5) (gA T 6) (gA T 7) (gA T 8) (gA T 9) ∧ RUsed nE (gA S 6) (gA T 18) (gA T 11) (gA T 12) ∧ RTar nT nQ (gA S 7) (gA T 17) ∧
  RSelA nE nQ (gA S 12) (gA S 13) (gA S 14) (gA S 15) (gA T 10) (gA T 11) (gA T 12) (gA T 15) (gA T 13) ∧ RSelT nE nT (gA S 9) (gA T 10) ∧ RSelO nE (gB S 1) (gA T 16) (gA T 14) ∧ RSelW nE (gA S 10) (gA T 11) (gA T 15) (gA T 13) ∧ RSelH (gA S 11) (gA T 11) (gA T 15) ∧
  RNeed nN nT nS (gA S 16) (gA S 17) (gA S 18) (gA S 19) (gA S 20) (gA T 19) (gA T 20) (gA T 21) (gA T 22) (gA T 23) ∧ RPair nR (gA S 21) (gA S 22) (gA S 23) (gA T 24) (gA T 25) (gA T 26) ∧ RCho (gL S 0) (gI T 7) (gI T 8) (gI T 9) (gI T 10)
def Rel (S : StC) (T : StM) : Prop := ∃ nS nP nK nQ nT nE nN nR : Nat, RelN S T nS nP nK nQ nT nE nN nR
