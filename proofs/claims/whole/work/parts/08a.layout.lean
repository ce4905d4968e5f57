/-! the standard layout: one WhatGame, one WhatGameModel, their arrays at fixed places; the rules from 51 on -/
def ab_K0 : List (Nat × Nat) := [(0, 4), (1, 8), (1, 8), (3, 8), (2, 60), (2, 60), (2, 60), (2, 60), (2, 60), (2, 60), (2, 60), (2, 60), (4, 8), (1, 21), (0, 1), (0, 2), (0, 0), (1, 36), (1, 6), (1, 6), (1, 6), (1, 120), (1, 4096), (1, 23), (1, 512), (1, 512), (1, 256), (1, 128), (1, 8), (1, 36),
  (0, 5), (1, 8), (1, 36), (1, 8), (1, 72), (1, 120), (1, 6), (1, 6), (1, 8), (1, 8), (1, 8), (1, 8), (2, 480), (2, 60), (1, 600), (1, 4096), (1, 4096), (1, 256), (1, 18), (1, 20), (1, 250)]
def ab_lW (j : Nat) : Option Nat := match j with
  | 0 => some 1
  | 1 => some 2
  | 2 => some 3
  | 3 => some 12
  | 6 => some 13
  | 7 => some 14
  | 8 => some 15
  | 9 => some 16
  | 11 => some 28
  | 13 => some 29
  | _ => none
def ab_lF (j : Nat) : Option Nat := match j with
  | 0 => some 15
  | 1 => some 16
  | 2 => some 22
  | 4 => some 23
  | 5 => some 24
  | 6 => some 25
  | 7 => some 26
  | 8 => some 27
  | _ => none
def ab_lG (j : Nat) : Option Nat := match j with
  | 0 => some 16
  | 1 => some 18
  | 2 => some 19
  | 3 => some 20
  | 4 => some 21
  | _ => none
def ab_lM (j : Nat) : Option Nat := match j with
  | 6 => some 31
  | 7 => some 32
  | 8 => some 33
  | 9 => some 34
  | 10 => some 35
  | 11 => some 36
  | 12 => some 37
  | 13 => some 38
  | 14 => some 39
  | 15 => some 40
  | 16 => some 41
  | 17 => some 42
  | 18 => some 43
  | 26 => some 44
  | 29 => some 45
  | 30 => some 46
  | 34 => some 47
  | 35 => some 48
  | 36 => some 49
  | 43 => some 50
  | _ => none
def ab_lay (nr : Nat) (rr : Nat → Option Nat) (k j : Nat) : Option Nat := match k with
  | 0 => ab_lW j
  | 3 => if j < 8 then some (4 + j) else none
  | 12 => rr j
  | 14 => ab_lF j
  | 15 => ab_lG j
  | 16 => if j = 0 then some 17 else none
  | 30 => ab_lM j
  | k => if 51 ≤ k ∧ k < 51 + nr ∧ j = 4 then some 13 else none
def ab_S (nr : Nat) (h : Nat → Nat → Int32) (g : Nat → Nat → Int64) (rr : Nat → Option Nat) : ab_Me := (ab_K0 ++ List.replicate nr (0, 3), h, g, ab_lay nr rr)
section AB8
variable {l : Launch} {X : Option (Nat × (Nat → Int32))} {y : ab_M} {d kc ks : Nat} {K : Option Value → ab_Me → Prop} {pc : Nat} {L : List (Nat × Value)} {st : List Value} {M : ab_Me}
theorem ab_top {v v' : Int32} (h : v = v') (k : ab_G l X y d kc ks pc L (.int v' :: st) M K) : ab_G l X y d kc ks pc L (.int v :: st) M K := h ▸ k
theorem ab_topL {v v' : Int64} (h : v = v') (k : ab_G l X y d kc ks pc L (.long v' :: st) M K) : ab_G l X y d kc ks pc L (.long v :: st) M K := h ▸ k
theorem ab_hm {nr : Nat} {h h' : Nat → Nat → Int32} {g : Nat → Nat → Int64} {rr : Nat → Option Nat} (e : h = h') (k : ab_G l X y d kc ks pc L st (ab_S nr h' g rr) K) : ab_G l X y d kc ks pc L st (ab_S nr h g rr) K := e ▸ k
end AB8
/-! numbers -/
theorem ab_lit (n : Nat) : (OfNat.ofNat n : Int32) = nI n := rfl
theorem ab_tn {n : Nat} (h : n < 2 ^ 31) : (nI n).toNatClampNeg = n := by
  show (nI n).toInt.toNat = n
  rw [nI_toInt h]
  rfl
theorem ab_in {n N : Nat} (h : n < N) (hN : N < 2 ^ 31) : vp_in (nI n) N := vp_in_nI h hN
theorem ab_add (a b : Nat) : nI a + nI b = nI (a + b) := by
  apply Int32.toBitVec_inj.mp
  show BitVec.ofNat 32 a + BitVec.ofNat 32 b = BitVec.ofNat 32 (a + b)
  simp [BitVec.ofNat_add]
theorem ab_mul (a b : Nat) : nI a * nI b = nI (a * b) := by
  apply Int32.toBitVec_inj.mp
  show BitVec.ofNat 32 a * BitVec.ofNat 32 b = BitVec.ofNat 32 (a * b)
  simp [BitVec.ofNat_mul]
theorem ab_and (a b : Nat) : nI a &&& nI b = nI (a &&& b) := by
  apply Int32.toBitVec_inj.mp
  show BitVec.ofNat 32 a &&& BitVec.ofNat 32 b = BitVec.ofNat 32 (a &&& b)
  simp [BitVec.ofNat_and]
theorem ab_or (a b : Nat) : nI a ||| nI b = nI (a ||| b) := by
  apply Int32.toBitVec_inj.mp
  show BitVec.ofNat 32 a ||| BitVec.ofNat 32 b = BitVec.ofNat 32 (a ||| b)
  simp [BitVec.ofNat_or]
theorem ab_xor (a b : Nat) : nI a ^^^ nI b = nI (a ^^^ b) := by
  apply Int32.toBitVec_inj.mp
  show BitVec.ofNat 32 a ^^^ BitVec.ofNat 32 b = BitVec.ofNat 32 (a ^^^ b)
  simp [BitVec.ofNat_xor]
theorem ab_inj {a b : Nat} (ha : a < 2 ^ 32) (hb : b < 2 ^ 32) : nI a = nI b ↔ a = b := by
  constructor
  · intro h
    have h1 : BitVec.ofNat 32 a = BitVec.ofNat 32 b := Int32.toBitVec_inj.mpr h
    have h2 := congrArg BitVec.toNat h1
    rwa [BitVec.toNat_ofNat, BitVec.toNat_ofNat, Nat.mod_eq_of_lt ha, Nat.mod_eq_of_lt hb] at h2
  · intro h
    rw [h]
theorem ab_lt {a b : Nat} (ha : a < 2 ^ 31) (hb : b < 2 ^ 31) : nI a < nI b ↔ a < b := by
  rw [Int32.lt_iff_toInt_lt, nI_toInt ha, nI_toInt hb]; omega
theorem ab_le {a b : Nat} (ha : a < 2 ^ 31) (hb : b < 2 ^ 31) : nI a ≤ nI b ↔ a ≤ b := by
  rw [Int32.le_iff_toInt_le, nI_toInt ha, nI_toInt hb]; omega
theorem ab_shm : ∀ k, k < 32 → ((nI k &&& 31).toBitVec.smod 32).toNat = k := by decide +kernel
theorem ab_shl (a : Nat) {k : Nat} (hk : k < 32) : nI a <<< (nI k &&& 31) = nI (a <<< k) := by
  apply Int32.toBitVec_inj.mp
  show BitVec.ofNat 32 a <<< ((nI k &&& 31).toBitVec.smod 32) = BitVec.ofNat 32 (a <<< k)
  rw [BitVec.shiftLeft_eq', ab_shm k hk]
  apply BitVec.eq_of_toNat_eq
  simp [Nat.shiftLeft_eq, Nat.mod_mul_mod]
theorem ab_shr {a k : Nat} (ha : a < 2 ^ 31) (hk : k < 32) : nI a >>> (nI k &&& 31) = nI (a >>> k) := by
  apply Int32.toBitVec_inj.mp
  show (BitVec.ofNat 32 a).sshiftRight' ((nI k &&& 31).toBitVec.smod 32) = BitVec.ofNat 32 (a >>> k)
  rw [BitVec.sshiftRight_eq', ab_shm k hk]
  have hm : (BitVec.ofNat 32 a).msb = false := by
    rw [BitVec.msb_eq_false_iff_two_mul_lt, BitVec.toNat_ofNat, Nat.mod_eq_of_lt (by omega)]
    omega
  rw [BitVec.sshiftRight_eq_of_msb_false hm]
  apply BitVec.eq_of_toNat_eq
  rw [BitVec.toNat_ushiftRight, BitVec.toNat_ofNat, BitVec.toNat_ofNat, Nat.mod_eq_of_lt (by omega), Nat.mod_eq_of_lt]
  exact Nat.lt_of_le_of_lt (Nat.shiftRight_le _ _) (by omega)
/-- the points of 0 to 11 that aren't in a mask -/
def ab_no (x : Nat) : Nat := 4095 ^^^ (x &&& 4095)
theorem ab_not (x : Nat) : nI 4095 &&& (nI x ^^^ (-1)) = nI (ab_no x) := by
  apply Int32.toBitVec_inj.mp
  show BitVec.ofNat 32 4095 &&& (BitVec.ofNat 32 x ^^^ BitVec.allOnes 32) = BitVec.ofNat 32 (4095 ^^^ (x &&& 4095))
  apply BitVec.eq_of_getLsbD_eq
  intro i hi
  simp only [BitVec.getLsbD_and, BitVec.getLsbD_xor, BitVec.getLsbD_allOnes, BitVec.getLsbD_ofNat, hi, decide_true, Bool.true_and, Nat.testBit_xor, Nat.testBit_and]
  cases Nat.testBit 4095 i <;> cases Nat.testBit x i <;> rfl
